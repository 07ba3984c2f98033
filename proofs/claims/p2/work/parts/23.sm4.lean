theorem dX12_findSlipped_0 : decode cX12_findSlipped 0 = .ok (.aload_n 0, 1) := by decide +kernel
theorem dX12_findSlipped_1 : decode cX12_findSlipped 1 = .ok (.invokevirtual 336, 3) := by decide +kernel
theorem dX12_findSlipped_4 : decode cX12_findSlipped 4 = .ok (.aload_n 0, 1) := by decide +kernel
theorem dX12_findSlipped_5 : decode cX12_findSlipped 5 = .ok (.iload_n 1, 1) := by decide +kernel
theorem dX12_findSlipped_6 : decode cX12_findSlipped 6 = .ok (.iload_n 2, 1) := by decide +kernel
theorem dX12_findSlipped_7 : decode cX12_findSlipped 7 = .ok (.iload_n 3, 1) := by decide +kernel
theorem dX12_findSlipped_8 : decode cX12_findSlipped 8 = .ok (.aload_n 0, 1) := by decide +kernel
theorem dX12_findSlipped_9 : decode cX12_findSlipped 9 = .ok (.getfield 69, 3) := by decide +kernel
theorem dX12_findSlipped_12 : decode cX12_findSlipped 12 = .ok (.iload_n 1, 1) := by decide +kernel
theorem dX12_findSlipped_13 : decode cX12_findSlipped 13 = .ok (.iaload, 1) := by decide +kernel
theorem dX12_findSlipped_14 : decode cX12_findSlipped 14 = .ok (.invokevirtual 339, 3) := by decide +kernel
theorem dX12_findSlipped_17 : decode cX12_findSlipped 17 = .ok (.aload_n 0, 1) := by decide +kernel
theorem dX12_findSlipped_18 : decode cX12_findSlipped 18 = .ok (.invokevirtual 346, 3) := by decide +kernel
theorem dX12_findSlipped_21 : decode cX12_findSlipped 21 = .ok (.aload_n 0, 1) := by decide +kernel
theorem dX12_findSlipped_22 : decode cX12_findSlipped 22 = .ok (.iconst 0, 1) := by decide +kernel
theorem dX12_findSlipped_23 : decode cX12_findSlipped 23 = .ok (.putfield 361, 3) := by decide +kernel
theorem dX12_findSlipped_26 : decode cX12_findSlipped 26 = .ok (.aload_n 0, 1) := by decide +kernel
theorem dX12_findSlipped_27 : decode cX12_findSlipped 27 = .ok (.getfield 326, 3) := by decide +kernel
theorem dX12_findSlipped_30 : decode cX12_findSlipped 30 = .ok (.ifCond .eq 5, 3) := by decide +kernel
theorem dX12_findSlipped_33 : decode cX12_findSlipped 33 = .ok (.iconst 0, 1) := by decide +kernel
theorem dX12_findSlipped_34 : decode cX12_findSlipped 34 = .ok (.ireturn, 1) := by decide +kernel
theorem dX12_findSlipped_35 : decode cX12_findSlipped 35 = .ok (.iconst 0, 1) := by decide +kernel
theorem dX12_findSlipped_36 : decode cX12_findSlipped 36 = .ok (.istore 4, 2) := by decide +kernel
theorem dX12_findSlipped_38 : decode cX12_findSlipped 38 = .ok (.iload 4, 2) := by decide +kernel
theorem dX12_findSlipped_40 : decode cX12_findSlipped 40 = .ok (.aload_n 0, 1) := by decide +kernel
theorem dX12_findSlipped_41 : decode cX12_findSlipped 41 = .ok (.getfield 69, 3) := by decide +kernel
theorem dX12_findSlipped_44 : decode cX12_findSlipped 44 = .ok (.iload_n 1, 1) := by decide +kernel
theorem dX12_findSlipped_45 : decode cX12_findSlipped 45 = .ok (.iaload, 1) := by decide +kernel
theorem dX12_findSlipped_46 : decode cX12_findSlipped 46 = .ok (.if_icmp .ge 105, 3) := by decide +kernel
theorem dX12_findSlipped_49 : decode cX12_findSlipped 49 = .ok (.bipush 40, 2) := by decide +kernel
theorem dX12_findSlipped_51 : decode cX12_findSlipped 51 = .ok (.iload_n 1, 1) := by decide +kernel
theorem dX12_findSlipped_52 : decode cX12_findSlipped 52 = .ok (.imul, 1) := by decide +kernel
theorem dX12_findSlipped_53 : decode cX12_findSlipped 53 = .ok (.iload 4, 2) := by decide +kernel
theorem dX12_findSlipped_55 : decode cX12_findSlipped 55 = .ok (.iadd, 1) := by decide +kernel
theorem dX12_findSlipped_56 : decode cX12_findSlipped 56 = .ok (.istore 5, 2) := by decide +kernel
theorem dX12_findSlipped_58 : decode cX12_findSlipped 58 = .ok (.aload_n 0, 1) := by decide +kernel
theorem dX12_findSlipped_59 : decode cX12_findSlipped 59 = .ok (.getfield 75, 3) := by decide +kernel
theorem dX12_findSlipped_62 : decode cX12_findSlipped 62 = .ok (.iload 5, 2) := by decide +kernel
theorem dX12_findSlipped_64 : decode cX12_findSlipped 64 = .ok (.iaload, 1) := by decide +kernel
theorem dX12_findSlipped_65 : decode cX12_findSlipped 65 = .ok (.iload_n 2, 1) := by decide +kernel
theorem dX12_findSlipped_66 : decode cX12_findSlipped 66 = .ok (.if_icmp .ne 79, 3) := by decide +kernel
theorem dX12_findSlipped_69 : decode cX12_findSlipped 69 = .ok (.aload_n 0, 1) := by decide +kernel
theorem dX12_findSlipped_70 : decode cX12_findSlipped 70 = .ok (.getfield 81, 3) := by decide +kernel
theorem dX12_findSlipped_73 : decode cX12_findSlipped 73 = .ok (.iload 5, 2) := by decide +kernel
theorem dX12_findSlipped_75 : decode cX12_findSlipped 75 = .ok (.iaload, 1) := by decide +kernel
theorem dX12_findSlipped_76 : decode cX12_findSlipped 76 = .ok (.iload_n 3, 1) := by decide +kernel
theorem dX12_findSlipped_77 : decode cX12_findSlipped 77 = .ok (.ishr, 1) := by decide +kernel
theorem dX12_findSlipped_78 : decode cX12_findSlipped 78 = .ok (.iconst 1, 1) := by decide +kernel
theorem dX12_findSlipped_79 : decode cX12_findSlipped 79 = .ok (.iand, 1) := by decide +kernel
theorem dX12_findSlipped_80 : decode cX12_findSlipped 80 = .ok (.iconst 1, 1) := by decide +kernel
theorem dX12_findSlipped_81 : decode cX12_findSlipped 81 = .ok (.if_icmp .ne 64, 3) := by decide +kernel
theorem dX12_findSlipped_84 : decode cX12_findSlipped 84 = .ok (.aload_n 0, 1) := by decide +kernel
theorem dX12_findSlipped_85 : decode cX12_findSlipped 85 = .ok (.getfield 100, 3) := by decide +kernel
theorem dX12_findSlipped_88 : decode cX12_findSlipped 88 = .ok (.iload 4, 2) := by decide +kernel
theorem dX12_findSlipped_90 : decode cX12_findSlipped 90 = .ok (.iconst 1, 1) := by decide +kernel
theorem dX12_findSlipped_91 : decode cX12_findSlipped 91 = .ok (.bastore, 1) := by decide +kernel
theorem dX12_findSlipped_92 : decode cX12_findSlipped 92 = .ok (.aload_n 0, 1) := by decide +kernel
theorem dX12_findSlipped_93 : decode cX12_findSlipped 93 = .ok (.iload_n 1, 1) := by decide +kernel
theorem dX12_findSlipped_94 : decode cX12_findSlipped 94 = .ok (.iload_n 2, 1) := by decide +kernel
theorem dX12_findSlipped_95 : decode cX12_findSlipped 95 = .ok (.iload_n 3, 1) := by decide +kernel
theorem dX12_findSlipped_96 : decode cX12_findSlipped 96 = .ok (.aload_n 0, 1) := by decide +kernel
theorem dX12_findSlipped_97 : decode cX12_findSlipped 97 = .ok (.getfield 69, 3) := by decide +kernel
theorem dX12_findSlipped_100 : decode cX12_findSlipped 100 = .ok (.iload_n 1, 1) := by decide +kernel
theorem dX12_findSlipped_101 : decode cX12_findSlipped 101 = .ok (.iaload, 1) := by decide +kernel
theorem dX12_findSlipped_102 : decode cX12_findSlipped 102 = .ok (.invokevirtual 339, 3) := by decide +kernel
theorem dX12_findSlipped_105 : decode cX12_findSlipped 105 = .ok (.aload_n 0, 1) := by decide +kernel
theorem dX12_findSlipped_106 : decode cX12_findSlipped 106 = .ok (.invokevirtual 346, 3) := by decide +kernel
theorem dX12_findSlipped_109 : decode cX12_findSlipped 109 = .ok (.aload_n 0, 1) := by decide +kernel
theorem dX12_findSlipped_110 : decode cX12_findSlipped 110 = .ok (.getfield 100, 3) := by decide +kernel
theorem dX12_findSlipped_113 : decode cX12_findSlipped 113 = .ok (.iload 4, 2) := by decide +kernel
theorem dX12_findSlipped_115 : decode cX12_findSlipped 115 = .ok (.iconst 0, 1) := by decide +kernel
theorem dX12_findSlipped_116 : decode cX12_findSlipped 116 = .ok (.bastore, 1) := by decide +kernel
theorem dX12_findSlipped_117 : decode cX12_findSlipped 117 = .ok (.aload_n 0, 1) := by decide +kernel
theorem dX12_findSlipped_118 : decode cX12_findSlipped 118 = .ok (.getfield 326, 3) := by decide +kernel
theorem dX12_findSlipped_121 : decode cX12_findSlipped 121 = .ok (.ifCond .eq 24, 3) := by decide +kernel
theorem dX12_findSlipped_124 : decode cX12_findSlipped 124 = .ok (.aload_n 0, 1) := by decide +kernel
theorem dX12_findSlipped_125 : decode cX12_findSlipped 125 = .ok (.getfield 112, 3) := by decide +kernel
theorem dX12_findSlipped_128 : decode cX12_findSlipped 128 = .ok (.aload_n 0, 1) := by decide +kernel
theorem dX12_findSlipped_129 : decode cX12_findSlipped 129 = .ok (.getfield 361, 3) := by decide +kernel
theorem dX12_findSlipped_132 : decode cX12_findSlipped 132 = .ok (.iload 4, 2) := by decide +kernel
theorem dX12_findSlipped_134 : decode cX12_findSlipped 134 = .ok (.iastore, 1) := by decide +kernel
theorem dX12_findSlipped_135 : decode cX12_findSlipped 135 = .ok (.aload_n 0, 1) := by decide +kernel
theorem dX12_findSlipped_136 : decode cX12_findSlipped 136 = .ok (.dup, 1) := by decide +kernel
theorem dX12_findSlipped_137 : decode cX12_findSlipped 137 = .ok (.getfield 361, 3) := by decide +kernel
theorem dX12_findSlipped_140 : decode cX12_findSlipped 140 = .ok (.iconst 1, 1) := by decide +kernel
theorem dX12_findSlipped_141 : decode cX12_findSlipped 141 = .ok (.iadd, 1) := by decide +kernel
theorem dX12_findSlipped_142 : decode cX12_findSlipped 142 = .ok (.putfield 361, 3) := by decide +kernel
theorem dX12_findSlipped_145 : decode cX12_findSlipped 145 = .ok (.iinc 4 1, 3) := by decide +kernel
theorem dX12_findSlipped_148 : decode cX12_findSlipped 148 = .ok (.goto (-110), 3) := by decide +kernel
theorem dX12_findSlipped_151 : decode cX12_findSlipped 151 = .ok (.iconst 1, 1) := by decide +kernel
theorem dX12_findSlipped_152 : decode cX12_findSlipped 152 = .ok (.ireturn, 1) := by decide +kernel
set_option maxHeartbeats 4000000 in
set_option maxRecDepth 100000 in
theorem s_X12_findSlipped {P : PP} {a0 : Nat} {a1 : Int32} {a2 : Int32} {a3 : Int32} (I : IM P a0) (ha1 : 0 ≤ a1.toInt ∧ a1.toInt ≤ 3) (ha2 : 0 ≤ a2.toInt ∧ a2.toInt ≤ 1) (ha3 : 0 ≤ a3.toInt ∧ a3.toInt ≤ 1) (hf0 : ∀ b, pR P a0 10 = some b → 1 ≤ (pI P b (a2.toInt.toNat)).toInt ∧ (pI P b (a2.toInt.toNat)).toInt ≤ 16) (hW : MW P a0) : CtrI yX12_findSlipped cX12_findSlipped 6 (some Jvm.ClassFile.FieldType.boolean) ({ frames := 7, cells := 0, slots := 0, locals := 448 } : Room) 0 0 P [.ref a0, .int a1, .int a2, .int a3] (fun r P2 => IM P2 a0 ∧ EM [28, 29, 30, 31, 32, 35, 36, 37, 38, 39, 40] a0 P P2 ∧ MW P2 a0 ∧ (0 ≤ r.toInt ∧ r.toInt ≤ 1)) := by
  refine enI (lv := [(0, .ref a0), (1, .int a1), (2, .int a2), (3, .int a3)]) (by decide) (Nat.le_of_ble_eq_true rfl) rfl (fun E D cy C Ci0 ret => ?_)
  have ha0 := I.2.1
  have J38 : ∀ (n38 : Nat) (P38 : PP) (v38_4 : Int32), (40 - v38_4.toInt).toNat < n38 → (IM P38 a0) → (EM [28, 29, 30, 31, 32, 35, 36, 37, 38, 39, 40] a0 P P38) → (MW P38 a0) → (0 ≤ v38_4.toInt ∧ v38_4.toInt ≤ 40) → (0 ≤ (pI P38 a0 28).toInt ∧ (pI P38 a0 28).toInt ≤ 44) → (∀ b, pR P38 a0 10 = some b → 1 ≤ (pI P38 b (a2.toInt.toNat)).toInt ∧ (pI P38 b (a2.toInt.toNat)).toInt ≤ 16) → ((pI P38 a0 39).toInt ≤ v38_4.toInt) → G E ({ frames := 7, cells := 0, slots := 0, locals := 448 } : Room) D cy 6 P38 0 0 38 [(0, .ref a0), (1, .int a1), (2, .int a2), (3, .int a3), (4, .int v38_4)] [] := by
    intro n38
    induction n38 with
    | zero => intro P38 v38_4 hm38 I38 X38 W38 hv38_4 hq38_0 hq38_1 rel38_0; omega
    | succ n38 ih38 =>
      intro P38 v38_4 hm38 I38 X38 W38 hv38_4 hq38_0 hq38_1 rel38_0
      have h54373 := X38.at ha0
      obtain ⟨b54374, e54375, h54376⟩ := I38.fld (h54373) 10 13 2 rfl
      have hq38_1 := hq38_1 b54374 e54375
      have h54377 := I38.rg h54373 39 rfl
      have J145 : ∀ (P145 : PP), (IM P145 a0) → (EM [28, 29, 30, 31, 32, 35, 36, 37, 38, 39, 40] a0 P P145) → (MW P145 a0) → (0 ≤ v38_4.toInt ∧ v38_4.toInt ≤ 39) → (0 ≤ (pI P145 a0 28).toInt ∧ (pI P145 a0 28).toInt ≤ 44) → (∀ b, pR P145 a0 10 = some b → 1 ≤ (pI P145 b (a2.toInt.toNat)).toInt ∧ (pI P145 b (a2.toInt.toNat)).toInt ≤ 16) → (∀ b, pR P145 a0 20 = some b → 1 ≤ (pI P145 b (a1.toInt.toNat)).toInt ∧ (pI P145 b (a1.toInt.toNat)).toInt ≤ 40) → ((pI P145 a0 39).toInt ≤ v38_4.toInt + 1) → G E ({ frames := 7, cells := 0, slots := 0, locals := 448 } : Room) D cy 6 P145 0 0 145 [(0, .ref a0), (1, .int a1), (2, .int a2), (3, .int a3), (4, .int v38_4)] [] := by
        intro P145 I145 X145 W145 hv145_4 hq145_0 hq145_1 hq145_2 rel145_0
        have h54378 := X145.at ha0
        obtain ⟨b54379, e54380, h54381⟩ := I145.fld (h54378) 10 13 2 rfl
        have hq145_1 := hq145_1 b54379 e54380
        obtain ⟨b54382, e54383, h54384⟩ := I145.fld (h54378) 20 13 20 rfl
        have hq145_2 := hq145_2 b54382 e54383
        have h54385 := I145.rg h54378 39 rfl
        refine s_iinc (lv0 := [(0, .ref a0), (1, .int a1), (2, .int a2), (3, .int a3)]) (m := 1) C dX12_findSlipped_145 4 rfl (by decide) rfl (by decide) (by omega) (fun z54386 h54387 => ?_)
        have h54387 : z54386.toInt = v38_4.toInt + 1 := h54387
        refine g_goto C 38 dX12_findSlipped_148 (by decide) ?_
        refine g_lv (lv' := [(0, .ref a0), (1, .int a1), (2, .int a2), (3, .int a3), (4, .int z54386)]) [1, 2, 3, 4, 0] rfl ?_
        exact ih38 P145 z54386 (by omega) I145 X145 W145 (by omega) (by omega) (fun b9 e9 => by rw [e54380] at e9; cases e9; omega) (by show (pI P145 a0 39).toInt ≤ z54386.toInt; omega)
      refine g_iload C dX12_findSlipped_38 4 rfl ?_
      refine g_aload_n C dX12_findSlipped_40 rfl 0 rfl ?_
      obtain ⟨b54388, e54389, h54390⟩ := I38.fld (h54373) 20 13 20 rfl
      refine g_getR C fi_X12_69 rfl e54389 (h54373).1 (h54373).2 dX12_findSlipped_41 ?_
      refine g_iload_n C dX12_findSlipped_44 rfl 1 rfl ?_
      refine g_iald (j := (a1.toInt.toNat)) C h54390.1 h54390.2.1 (ix_in h54390.2.2 (by omega)) dX12_findSlipped_45 ?_
      have h54391 := I38.arr e54389 rfl (a1.toInt.toNat)
      refine b_icmp_ge C 151 dX12_findSlipped_46 (by decide) (fun h54392 => ?_) (fun h54392 => ?_)
      · have h54392 : (pI P38 b54388 (a1.toInt.toNat)).toInt ≤ v38_4.toInt := h54392
        refine g_iconst (v := 1) C dX12_findSlipped_151 (by decide) ?_
        exact ret _ _ _ _ _ _ dX12_findSlipped_152 rfl (by decide) (by decide) ⟨I38, X38, W38, (by decide)⟩
      · have h54392 : v38_4.toInt < (pI P38 b54388 (a1.toInt.toNat)).toInt := h54392
        refine g_bipush (v := 40) C dX12_findSlipped_49 (by decide) ?_
        refine g_iload_n C dX12_findSlipped_51 rfl 1 rfl ?_
        refine s_imul C dX12_findSlipped_52 (by show -2147483648 ≤ 40 * a1.toInt ∧ 40 * a1.toInt ≤ 2147483647; omega) (fun z54393 h54394 => ?_)
        have h54394 : z54393.toInt = 40 * a1.toInt := h54394
        refine g_iload C dX12_findSlipped_53 4 rfl ?_
        refine s_iadd C dX12_findSlipped_55 (by show -2147483648 ≤ z54393.toInt + v38_4.toInt ∧ z54393.toInt + v38_4.toInt ≤ 2147483647; omega) (fun z54395 h54396 => ?_)
        have h54396 : z54395.toInt = z54393.toInt + v38_4.toInt := h54396
        refine g_istore (lv' := [(5, .int z54395), (0, .ref a0), (1, .int a1), (2, .int a2), (3, .int a3), (4, .int v38_4)]) C dX12_findSlipped_56 (by decide) rfl ?_
        refine g_aload_n C dX12_findSlipped_58 rfl 1 rfl ?_
        obtain ⟨b54397, e54398, h54399⟩ := I38.fld (h54373) 22 13 800 rfl
        refine g_getR C fi_X12_75 rfl e54398 (h54373).1 (h54373).2 dX12_findSlipped_59 ?_
        refine g_iload C dX12_findSlipped_62 0 rfl ?_
        refine g_iald (j := (z54395.toInt.toNat)) C h54399.1 h54399.2.1 (ix_in h54399.2.2 (by omega)) dX12_findSlipped_64 ?_
        have h54400 := I38.arr e54398 rfl (z54395.toInt.toNat)
        refine g_iload_n C dX12_findSlipped_65 rfl 3 rfl ?_
        refine b_icmp_ne C 145 dX12_findSlipped_66 (by decide) (fun h54401 => ?_) (fun h54401 => ?_)
        · have h54401 : (pI P38 b54397 (z54395.toInt.toNat)).toInt ≠ a2.toInt := ti_ne h54401
          refine g_lv (lv' := [(0, .ref a0), (1, .int a1), (2, .int a2), (3, .int a3), (4, .int v38_4)]) [1, 2, 3, 4, 5] rfl ?_
          exact J145 P38 I38 X38 W38 (by omega) (by omega) (fun b9 e9 => by rw [e54375] at e9; cases e9; omega) (fun b9 e9 => by rw [e54389] at e9; cases e9; omega) (by show (pI P38 a0 39).toInt ≤ v38_4.toInt + 1; omega)
        · have h54401 : (pI P38 b54397 (z54395.toInt.toNat)).toInt = a2.toInt := congrArg Int32.toInt h54401
          refine g_aload_n C dX12_findSlipped_69 rfl 1 rfl ?_
          obtain ⟨b54402, e54403, h54404⟩ := I38.fld (h54373) 24 13 800 rfl
          refine g_getR C fi_X12_81 rfl e54403 (h54373).1 (h54373).2 dX12_findSlipped_70 ?_
          refine g_iload C dX12_findSlipped_73 0 rfl ?_
          refine g_iald (j := (z54395.toInt.toNat)) C h54404.1 h54404.2.1 (ix_in h54404.2.2 (by omega)) dX12_findSlipped_75 ?_
          refine g_iload_n C dX12_findSlipped_76 rfl 4 rfl ?_
          refine a_ishr C dX12_findSlipped_77 (fun z54405 => ?_)
          refine g_iconst (v := 1) C dX12_findSlipped_78 (by decide) ?_
          refine s_iand C dX12_findSlipped_79 (by show 0 ≤ 1; omega) (fun z54407 h54408 => ?_)
          have h54408 : 0 ≤ z54407.toInt ∧ z54407.toInt ≤ 1 := h54408
          refine g_iconst (v := 1) C dX12_findSlipped_80 (by decide) ?_
          refine b_icmp_ne C 145 dX12_findSlipped_81 (by decide) (fun h54409 => ?_) (fun h54409 => ?_)
          · have h54409 : z54407.toInt ≠ 1 := ti_ne h54409
            refine g_lv (lv' := [(0, .ref a0), (1, .int a1), (2, .int a2), (3, .int a3), (4, .int v38_4)]) [1, 2, 3, 4, 5] rfl ?_
            exact J145 P38 I38 X38 W38 (by omega) (by omega) (fun b9 e9 => by rw [e54375] at e9; cases e9; omega) (fun b9 e9 => by rw [e54389] at e9; cases e9; omega) (by show (pI P38 a0 39).toInt ≤ v38_4.toInt + 1; omega)
          · have h54409 : z54407.toInt = 1 := congrArg Int32.toInt h54409
            refine g_aload_n C dX12_findSlipped_84 rfl 1 rfl ?_
            obtain ⟨b54410, e54411, h54412⟩ := I38.fld (h54373) 32 15 40 rfl
            refine g_getR C fi_X12_100 rfl e54411 (h54373).1 (h54373).2 dX12_findSlipped_85 ?_
            refine g_iload C dX12_findSlipped_88 5 rfl ?_
            refine g_iconst (v := 1) C dX12_findSlipped_90 (by decide) ?_
            refine g_zast (j := (v38_4.toInt.toNat)) C h54412.1 h54412.2.1 (ix_in h54412.2.2 (by omega)) (Or.inr rfl) dX12_findSlipped_91 ?_
            refine gqW (ks := [32]) (I38.setA e54411 h54412 (by decide) (arOk.none rfl)) (EM.setA I38 e54411 rfl (by decide)) (fun Y54413 Iy54414 Xy54415 w54416 => ?_)
            have w54416 : (pI Y54413 b54410 (v38_4.toInt.toNat)).toInt = 1 := w54416
            have q54417 := Xy54415.keepF 28 (by decide)
            have q54418 := Xy54415.keepA e54375 (by decide) rfl (a2.toInt.toNat)
            have q54419 := Xy54415.keepF 39 (by decide)
            have q54420 := Xy54415.keepA e54389 (by decide) rfl (a1.toInt.toNat)
            have q54421 := Xy54415.keepA e54398 (by decide) rfl (z54395.toInt.toNat)
            have W54422 := W38.keep I38 Xy54415 (by decide) (by decide) (by decide)
            have Xz54423 : EM [28, 29, 30, 31, 32, 35, 36, 37, 38, 39, 40] a0 P Y54413 := EM.tr ha0 X38 (Xy54415.mono (by decide))
            have e54424 := Xy54415.ref h54373 (by decide) e54375
            have e54425 := Xy54415.ref h54373 (by decide) e54389
            have e54426 := Xy54415.ref h54373 (by decide) e54398
            have e54427 := Xy54415.ref h54373 (by decide) e54411
            have h54428 := Xy54415.at h54373
            have h54429 := Xy54415.ar h54376
            have h54430 := Xy54415.ar h54390
            have h54431 := Xy54415.ar h54399
            have h54432 := Xy54415.ar h54412
            refine g_aload_n C dX12_findSlipped_92 rfl 1 rfl ?_
            refine g_iload_n C dX12_findSlipped_93 rfl 2 rfl ?_
            refine g_iload_n C dX12_findSlipped_94 rfl 3 rfl ?_
            refine g_iload_n C dX12_findSlipped_95 rfl 4 rfl ?_
            refine g_aload_n C dX12_findSlipped_96 rfl 1 rfl ?_
            refine g_getR C fi_X12_69 rfl e54425 (h54428).1 (h54428).2 dX12_findSlipped_97 ?_
            refine g_iload_n C dX12_findSlipped_100 rfl 2 rfl ?_
            refine g_iald (j := (a1.toInt.toNat)) C h54430.1 h54430.2.1 (ix_in h54430.2.2 (by omega)) dX12_findSlipped_101 ?_
            refine g_callVV (rest := []) C mv_X12_339 [.int a1, .int a2, .int a3, .int (pI Y54413 b54388 (a1.toInt.toNat))] (s_X12_gathers Iy54414 (by omega) (by omega) (by omega) (fun b9 e9 => by rw [e54424] at e9; cases e9; show 1 ≤ (pI Y54413 b54374 (a2.toInt.toNat)).toInt ∧ (pI Y54413 b54374 (a2.toInt.toNat)).toInt ≤ 16; omega) W54422) (h54428).1 (h54428).2 rfl rfl (by decide) (Nat.le_of_ble_eq_true rfl) (by decide) dX12_findSlipped_102 (fun Y54434 h54435 => ?_)
            obtain ⟨Iy54436, Xy54437, W54438, p54439⟩ := h54435
            have p54439 : (pI Y54434 a0 28).toInt ≤ 4 + (pI Y54413 b54388 (a1.toInt.toNat)).toInt := p54439
            have q54440 := Xy54437.keepA e54424 (by decide) rfl (a2.toInt.toNat)
            have q54441 := Xy54437.keepF 39 (by decide)
            have q54442 := Xy54437.keepA e54425 (by decide) rfl (a1.toInt.toNat)
            have q54443 := Xy54437.keepA e54426 (by decide) rfl (z54395.toInt.toNat)
            have q54444 := Xy54437.keepA e54427 (by decide) rfl (v38_4.toInt.toNat)
            have Xz54445 : EM [28, 29, 30, 31, 32, 35, 36, 37, 38, 39, 40] a0 P Y54434 := EM.tr ha0 Xz54423 (Xy54437.mono (by decide))
            have e54446 := Xy54437.ref h54428 (by decide) e54424
            have e54447 := Xy54437.ref h54428 (by decide) e54425
            have e54448 := Xy54437.ref h54428 (by decide) e54426
            have e54449 := Xy54437.ref h54428 (by decide) e54427
            have h54450 := Xy54437.at h54428
            have h54451 := Xy54437.ar h54429
            have h54452 := Xy54437.ar h54430
            have h54453 := Xy54437.ar h54431
            have h54454 := Xy54437.ar h54432
            have h54455 := Iy54436.rg h54450 28 rfl
            refine g_aload_n C dX12_findSlipped_105 rfl 1 rfl ?_
            refine g_callVV (rest := []) C mv_X12_346 [] (s_X12_findSolved Iy54436 W54438) (h54450).1 (h54450).2 rfl rfl (by decide) (Nat.le_of_ble_eq_true rfl) (by decide) dX12_findSlipped_106 (fun Y54457 h54458 => ?_)
            obtain ⟨Iy54459, Xy54460, W54461⟩ := h54458
            have q54462 := Xy54460.keepA e54446 (by decide) rfl (a2.toInt.toNat)
            have q54463 := Xy54460.keepF 39 (by decide)
            have q54464 := Xy54460.keepA e54447 (by decide) rfl (a1.toInt.toNat)
            have q54465 := Xy54460.keepA e54448 (by decide) rfl (z54395.toInt.toNat)
            have q54466 := Xy54460.keepA e54449 (by decide) rfl (v38_4.toInt.toNat)
            have q54467 := Xy54460.keepF 28 (by decide)
            have Xz54468 : EM [28, 29, 30, 31, 32, 35, 36, 37, 38, 39, 40] a0 P Y54457 := EM.tr ha0 Xz54445 (Xy54460.mono (by decide))
            have e54469 := Xy54460.ref h54450 (by decide) e54446
            have e54470 := Xy54460.ref h54450 (by decide) e54447
            have e54471 := Xy54460.ref h54450 (by decide) e54448
            have e54472 := Xy54460.ref h54450 (by decide) e54449
            have h54473 := Xy54460.at h54450
            have h54474 := Xy54460.ar h54451
            have h54475 := Xy54460.ar h54452
            have h54476 := Xy54460.ar h54453
            have h54477 := Xy54460.ar h54454
            refine g_aload_n C dX12_findSlipped_109 rfl 1 rfl ?_
            refine g_getR C fi_X12_100 rfl e54472 (h54473).1 (h54473).2 dX12_findSlipped_110 ?_
            refine g_iload C dX12_findSlipped_113 5 rfl ?_
            refine g_iconst (v := 0) C dX12_findSlipped_115 (by decide) ?_
            refine g_zast (j := (v38_4.toInt.toNat)) C h54477.1 h54477.2.1 (ix_in h54477.2.2 (by omega)) (Or.inl rfl) dX12_findSlipped_116 ?_
            refine gqW (ks := [32]) (Iy54459.setA e54472 h54477 (by decide) (arOk.none rfl)) (EM.setA Iy54459 e54472 rfl (by decide)) (fun Y54478 Iy54479 Xy54480 w54481 => ?_)
            have w54481 : (pI Y54478 b54410 (v38_4.toInt.toNat)).toInt = 0 := w54481
            have q54482 := Xy54480.keepA e54469 (by decide) rfl (a2.toInt.toNat)
            have q54483 := Xy54480.keepF 39 (by decide)
            have q54484 := Xy54480.keepA e54470 (by decide) rfl (a1.toInt.toNat)
            have q54485 := Xy54480.keepA e54471 (by decide) rfl (z54395.toInt.toNat)
            have q54486 := Xy54480.keepF 28 (by decide)
            have W54487 := W54461.keep Iy54459 Xy54480 (by decide) (by decide) (by decide)
            have Xz54488 : EM [28, 29, 30, 31, 32, 35, 36, 37, 38, 39, 40] a0 P Y54478 := EM.tr ha0 Xz54468 (Xy54480.mono (by decide))
            have e54489 := Xy54480.ref h54473 (by decide) e54469
            have e54490 := Xy54480.ref h54473 (by decide) e54470
            have e54491 := Xy54480.ref h54473 (by decide) e54471
            have e54492 := Xy54480.ref h54473 (by decide) e54472
            have h54493 := Xy54480.at h54473
            have h54494 := Xy54480.ar h54474
            have h54495 := Xy54480.ar h54475
            have h54496 := Xy54480.ar h54476
            have h54497 := Xy54480.ar h54477
            refine g_aload_n C dX12_findSlipped_117 rfl 1 rfl ?_
            refine g_getI C fi_X12_326 (by decide) (h54493).1 (h54493).2 dX12_findSlipped_118 ?_
            have h54498 := Iy54479.rg (h54493) 36 rfl
            refine b_if_eq C 145 dX12_findSlipped_121 (by decide) (fun h54499 => ?_) (fun h54499 => ?_)
            · have h54499 : (pI Y54478 a0 36).toInt = 0 := congrArg Int32.toInt h54499
              refine g_lv (lv' := [(0, .ref a0), (1, .int a1), (2, .int a2), (3, .int a3), (4, .int v38_4)]) [1, 2, 3, 4, 5] rfl ?_
              exact J145 Y54478 Iy54479 Xz54488 W54487 (by omega) (by omega) (fun b9 e9 => by rw [e54489] at e9; cases e9; omega) (fun b9 e9 => by rw [e54490] at e9; cases e9; omega) (by show (pI Y54478 a0 39).toInt ≤ v38_4.toInt + 1; omega)
            · have h54499 : (pI Y54478 a0 36).toInt ≠ 0 := ti_ne h54499
              refine g_aload_n C dX12_findSlipped_124 rfl 1 rfl ?_
              obtain ⟨b54500, e54501, h54502⟩ := Iy54479.fld (h54493) 40 13 40 rfl
              refine g_getR C fi_X12_112 rfl e54501 (h54493).1 (h54493).2 dX12_findSlipped_125 ?_
              refine g_aload_n C dX12_findSlipped_128 rfl 1 rfl ?_
              refine g_getI C fi_X12_361 (by decide) (h54493).1 (h54493).2 dX12_findSlipped_129 ?_
              refine g_iload C dX12_findSlipped_132 5 rfl ?_
              refine g_iast (j := ((pI Y54478 a0 39).toInt.toNat)) C h54502.1 h54502.2.1 (ix_in h54502.2.2 (by omega)) dX12_findSlipped_134 ?_
              refine gqW (ks := [40]) (Iy54479.setA e54501 h54502 (by decide) (arOk.of rfl (by omega))) (EM.setA Iy54479 e54501 rfl (by decide)) (fun Y54503 Iy54504 Xy54505 w54506 => ?_)
              have w54506 : (pI Y54503 b54500 ((pI Y54478 a0 39).toInt.toNat)).toInt = v38_4.toInt := w54506
              have q54507 := Xy54505.keepA e54489 (by decide) rfl (a2.toInt.toNat)
              have q54508 := Xy54505.keepF 39 (by decide)
              have q54509 := Xy54505.keepA e54490 (by decide) rfl (a1.toInt.toNat)
              have q54510 := Xy54505.keepA e54491 (by decide) rfl (z54395.toInt.toNat)
              have q54511 := Xy54505.keepF 28 (by decide)
              have q54512 := Xy54505.keepA e54492 (by decide) rfl (v38_4.toInt.toNat)
              have q54513 := Xy54505.keepF 36 (by decide)
              have W54514 := W54487.keep Iy54479 Xy54505 (by decide) (by decide) (by decide)
              have Xz54515 : EM [28, 29, 30, 31, 32, 35, 36, 37, 38, 39, 40] a0 P Y54503 := EM.tr ha0 Xz54488 (Xy54505.mono (by decide))
              have e54516 := Xy54505.ref h54493 (by decide) e54489
              have e54517 := Xy54505.ref h54493 (by decide) e54490
              have e54518 := Xy54505.ref h54493 (by decide) e54491
              have e54519 := Xy54505.ref h54493 (by decide) e54492
              have h54520 := Xy54505.at h54493
              have h54521 := Xy54505.ar h54494
              have h54522 := Xy54505.ar h54495
              have h54523 := Xy54505.ar h54496
              have h54524 := Xy54505.ar h54497
              refine g_aload_n C dX12_findSlipped_135 rfl 1 rfl ?_
              refine g_dup C dX12_findSlipped_136 rfl ?_
              refine g_getI C fi_X12_361 (by decide) (h54520).1 (h54520).2 dX12_findSlipped_137 ?_
              refine g_iconst (v := 1) C dX12_findSlipped_140 (by decide) ?_
              refine s_iadd C dX12_findSlipped_141 (by show -2147483648 ≤ (pI Y54503 a0 39).toInt + 1 ∧ (pI Y54503 a0 39).toInt + 1 ≤ 2147483647; omega) (fun z54525 h54526 => ?_)
              have h54526 : z54525.toInt = (pI Y54503 a0 39).toInt + 1 := h54526
              refine g_putI C fi_X12_361 rfl (h54520).1 (h54520).2 dX12_findSlipped_142 ?_
              refine gqW (ks := [39]) (Iy54504.setI (rgOk.of rfl (by omega))) (EM.setI Iy54504 (by decide)) (fun Y54527 Iy54528 Xy54529 w54530 => ?_)
              have w54530 : (pI Y54527 a0 39).toInt = z54525.toInt := w54530
              have q54531 := Xy54529.keepA e54516 (by decide) rfl (a2.toInt.toNat)
              have q54532 := Xy54529.keepA e54517 (by decide) rfl (a1.toInt.toNat)
              have q54533 := Xy54529.keepA e54518 (by decide) rfl (z54395.toInt.toNat)
              have q54534 := Xy54529.keepF 28 (by decide)
              have q54535 := Xy54529.keepA e54519 (by decide) rfl (v38_4.toInt.toNat)
              have q54536 := Xy54529.keepF 36 (by decide)
              have W54537 := W54514.keep Iy54504 Xy54529 (by decide) (by decide) (by decide)
              have Xz54538 : EM [28, 29, 30, 31, 32, 35, 36, 37, 38, 39, 40] a0 P Y54527 := EM.tr ha0 Xz54515 (Xy54529.mono (by decide))
              have e54539 := Xy54529.ref h54520 (by decide) e54516
              have e54540 := Xy54529.ref h54520 (by decide) e54517
              have e54541 := Xy54529.ref h54520 (by decide) e54518
              have e54542 := Xy54529.ref h54520 (by decide) e54519
              have h54543 := Xy54529.at h54520
              have h54544 := Xy54529.ar h54521
              have h54545 := Xy54529.ar h54522
              have h54546 := Xy54529.ar h54523
              have h54547 := Xy54529.ar h54524
              refine g_lv (lv' := [(0, .ref a0), (1, .int a1), (2, .int a2), (3, .int a3), (4, .int v38_4)]) [1, 2, 3, 4, 5] rfl ?_
              exact J145 Y54527 Iy54528 Xz54538 W54537 (by omega) (by omega) (fun b9 e9 => by rw [e54539] at e9; cases e9; omega) (fun b9 e9 => by rw [e54540] at e9; cases e9; omega) (by show (pI Y54527 a0 39).toInt ≤ v38_4.toInt + 1; omega)
  obtain ⟨b54548, e54549, h54550⟩ := I.fld (ha0) 10 13 2 rfl
  have hf0 := hf0 b54548 e54549
  refine g_aload_n C dX12_findSlipped_0 rfl 0 rfl ?_
  refine g_callVV (rest := []) C mv_X12_336 [] (s_X12_leavesNone I hW) (ha0).1 (ha0).2 rfl rfl (by decide) (Nat.le_of_ble_eq_true rfl) (by decide) dX12_findSlipped_1 (fun Y54552 h54553 => ?_)
  obtain ⟨Iy54554, Xy54555, W54556⟩ := h54553
  have q54557 := Xy54555.keepA e54549 (by decide) rfl (a2.toInt.toNat)
  have Xz54558 : EM [28, 29, 30, 31, 32, 35, 36, 37, 38, 39, 40] a0 P Y54552 := Xy54555.mono (by decide)
  have e54559 := Xy54555.ref ha0 (by decide) e54549
  have h54560 := Xy54555.at ha0
  have h54561 := Xy54555.ar h54550
  refine g_aload_n C dX12_findSlipped_4 rfl 0 rfl ?_
  refine g_iload_n C dX12_findSlipped_5 rfl 1 rfl ?_
  refine g_iload_n C dX12_findSlipped_6 rfl 2 rfl ?_
  refine g_iload_n C dX12_findSlipped_7 rfl 3 rfl ?_
  refine g_aload_n C dX12_findSlipped_8 rfl 0 rfl ?_
  obtain ⟨b54562, e54563, h54564⟩ := Iy54554.fld (h54560) 20 13 20 rfl
  refine g_getR C fi_X12_69 rfl e54563 (h54560).1 (h54560).2 dX12_findSlipped_9 ?_
  refine g_iload_n C dX12_findSlipped_12 rfl 1 rfl ?_
  refine g_iald (j := (a1.toInt.toNat)) C h54564.1 h54564.2.1 (ix_in h54564.2.2 (by omega)) dX12_findSlipped_13 ?_
  have h54565 := Iy54554.arr e54563 rfl (a1.toInt.toNat)
  refine g_callVV (rest := []) C mv_X12_339 [.int a1, .int a2, .int a3, .int (pI Y54552 b54562 (a1.toInt.toNat))] (s_X12_gathers Iy54554 (by omega) (by omega) (by omega) (fun b9 e9 => by rw [e54559] at e9; cases e9; show 1 ≤ (pI Y54552 b54548 (a2.toInt.toNat)).toInt ∧ (pI Y54552 b54548 (a2.toInt.toNat)).toInt ≤ 16; omega) W54556) (h54560).1 (h54560).2 rfl rfl (by decide) (Nat.le_of_ble_eq_true rfl) (by decide) dX12_findSlipped_14 (fun Y54567 h54568 => ?_)
  obtain ⟨Iy54569, Xy54570, W54571, p54572⟩ := h54568
  have p54572 : (pI Y54567 a0 28).toInt ≤ 4 + (pI Y54552 b54562 (a1.toInt.toNat)).toInt := p54572
  have q54573 := Xy54570.keepA e54559 (by decide) rfl (a2.toInt.toNat)
  have q54574 := Xy54570.keepA e54563 (by decide) rfl (a1.toInt.toNat)
  have Xz54575 : EM [28, 29, 30, 31, 32, 35, 36, 37, 38, 39, 40] a0 P Y54567 := EM.tr ha0 Xz54558 (Xy54570.mono (by decide))
  have e54576 := Xy54570.ref h54560 (by decide) e54559
  have e54577 := Xy54570.ref h54560 (by decide) e54563
  have h54578 := Xy54570.at h54560
  have h54579 := Xy54570.ar h54561
  have h54580 := Xy54570.ar h54564
  have h54581 := Iy54569.rg h54578 28 rfl
  refine g_aload_n C dX12_findSlipped_17 rfl 0 rfl ?_
  refine g_callVV (rest := []) C mv_X12_346 [] (s_X12_findSolved Iy54569 W54571) (h54578).1 (h54578).2 rfl rfl (by decide) (Nat.le_of_ble_eq_true rfl) (by decide) dX12_findSlipped_18 (fun Y54583 h54584 => ?_)
  obtain ⟨Iy54585, Xy54586, W54587⟩ := h54584
  have q54588 := Xy54586.keepA e54576 (by decide) rfl (a2.toInt.toNat)
  have q54589 := Xy54586.keepA e54577 (by decide) rfl (a1.toInt.toNat)
  have q54590 := Xy54586.keepF 28 (by decide)
  have Xz54591 : EM [28, 29, 30, 31, 32, 35, 36, 37, 38, 39, 40] a0 P Y54583 := EM.tr ha0 Xz54575 (Xy54586.mono (by decide))
  have e54592 := Xy54586.ref h54578 (by decide) e54576
  have e54593 := Xy54586.ref h54578 (by decide) e54577
  have h54594 := Xy54586.at h54578
  have h54595 := Xy54586.ar h54579
  have h54596 := Xy54586.ar h54580
  refine g_aload_n C dX12_findSlipped_21 rfl 0 rfl ?_
  refine g_iconst (v := 0) C dX12_findSlipped_22 (by decide) ?_
  refine g_putI C fi_X12_361 rfl (h54594).1 (h54594).2 dX12_findSlipped_23 ?_
  refine gqW (ks := [39]) (Iy54585.setI (rgOk.of rfl (by decide))) (EM.setI Iy54585 (by decide)) (fun Y54597 Iy54598 Xy54599 w54600 => ?_)
  have w54600 : (pI Y54597 a0 39).toInt = 0 := w54600
  have q54601 := Xy54599.keepA e54592 (by decide) rfl (a2.toInt.toNat)
  have q54602 := Xy54599.keepA e54593 (by decide) rfl (a1.toInt.toNat)
  have q54603 := Xy54599.keepF 28 (by decide)
  have W54604 := W54587.keep Iy54585 Xy54599 (by decide) (by decide) (by decide)
  have Xz54605 : EM [28, 29, 30, 31, 32, 35, 36, 37, 38, 39, 40] a0 P Y54597 := EM.tr ha0 Xz54591 (Xy54599.mono (by decide))
  have e54606 := Xy54599.ref h54594 (by decide) e54592
  have e54607 := Xy54599.ref h54594 (by decide) e54593
  have h54608 := Xy54599.at h54594
  have h54609 := Xy54599.ar h54595
  have h54610 := Xy54599.ar h54596
  refine g_aload_n C dX12_findSlipped_26 rfl 0 rfl ?_
  refine g_getI C fi_X12_326 (by decide) (h54608).1 (h54608).2 dX12_findSlipped_27 ?_
  have h54611 := Iy54598.rg (h54608) 36 rfl
  refine b_if_eq C 35 dX12_findSlipped_30 (by decide) (fun h54612 => ?_) (fun h54612 => ?_)
  · have h54612 : (pI Y54597 a0 36).toInt = 0 := congrArg Int32.toInt h54612
    refine g_iconst (v := 0) C dX12_findSlipped_35 (by decide) ?_
    refine g_istore (lv' := [(4, .int 0), (0, .ref a0), (1, .int a1), (2, .int a2), (3, .int a3)]) C dX12_findSlipped_36 (by decide) rfl ?_
    refine g_lv (lv' := [(0, .ref a0), (1, .int a1), (2, .int a2), (3, .int a3), (4, .int 0)]) [1, 2, 3, 4, 0] rfl ?_
    exact J38 _ Y54597 0 (Nat.lt_succ_self _) Iy54598 Xz54605 W54604 (by decide) (by omega) (fun b9 e9 => by rw [e54606] at e9; cases e9; omega) (by show (pI Y54597 a0 39).toInt ≤ 0; omega)
  · have h54612 : (pI Y54597 a0 36).toInt ≠ 0 := ti_ne h54612
    refine g_iconst (v := 0) C dX12_findSlipped_33 (by decide) ?_
    exact ret _ _ _ _ _ _ dX12_findSlipped_34 rfl (by decide) (by decide) ⟨Iy54598, Xz54605, W54604, (by decide)⟩
theorem dX12_forged_0 : decode cX12_forged 0 = .ok (.aload_n 0, 1) := by decide +kernel
theorem dX12_forged_1 : decode cX12_forged 1 = .ok (.iconst 0, 1) := by decide +kernel
theorem dX12_forged_2 : decode cX12_forged 2 = .ok (.putfield 1, 3) := by decide +kernel
theorem dX12_forged_5 : decode cX12_forged 5 = .ok (.iload_n 1, 1) := by decide +kernel
theorem dX12_forged_6 : decode cX12_forged 6 = .ok (.invokestatic 278, 3) := by decide +kernel
theorem dX12_forged_9 : decode cX12_forged 9 = .ok (.ifCond .eq 45, 3) := by decide +kernel
theorem dX12_forged_12 : decode cX12_forged 12 = .ok (.aload_n 0, 1) := by decide +kernel
theorem dX12_forged_13 : decode cX12_forged 13 = .ok (.iload_n 2, 1) := by decide +kernel
theorem dX12_forged_14 : decode cX12_forged 14 = .ok (.invokevirtual 192, 3) := by decide +kernel
theorem dX12_forged_17 : decode cX12_forged 17 = .ok (.ifCond .eq 37, 3) := by decide +kernel
theorem dX12_forged_20 : decode cX12_forged 20 = .ok (.iload_n 3, 1) := by decide +kernel
theorem dX12_forged_21 : decode cX12_forged 21 = .ok (.invokestatic 258, 3) := by decide +kernel
theorem dX12_forged_24 : decode cX12_forged 24 = .ok (.ifCond .eq 30, 3) := by decide +kernel
theorem dX12_forged_27 : decode cX12_forged 27 = .ok (.iload 4, 2) := by decide +kernel
theorem dX12_forged_29 : decode cX12_forged 29 = .ok (.iconst 0, 1) := by decide +kernel
theorem dX12_forged_30 : decode cX12_forged 30 = .ok (.ldc 195, 2) := by decide +kernel
theorem dX12_forged_32 : decode cX12_forged 32 = .ok (.invokestatic 178, 3) := by decide +kernel
theorem dX12_forged_35 : decode cX12_forged 35 = .ok (.ifCond .eq 19, 3) := by decide +kernel
theorem dX12_forged_38 : decode cX12_forged 38 = .ok (.iload 5, 2) := by decide +kernel
theorem dX12_forged_40 : decode cX12_forged 40 = .ok (.iconst 0, 1) := by decide +kernel
theorem dX12_forged_41 : decode cX12_forged 41 = .ok (.sipush 996, 3) := by decide +kernel
theorem dX12_forged_44 : decode cX12_forged 44 = .ok (.invokestatic 178, 3) := by decide +kernel
theorem dX12_forged_47 : decode cX12_forged 47 = .ok (.ifCond .eq 7, 3) := by decide +kernel
theorem dX12_forged_50 : decode cX12_forged 50 = .ok (.iconst 1, 1) := by decide +kernel
theorem dX12_forged_51 : decode cX12_forged 51 = .ok (.goto 4, 3) := by decide +kernel
theorem dX12_forged_54 : decode cX12_forged 54 = .ok (.iconst 0, 1) := by decide +kernel
theorem dX12_forged_55 : decode cX12_forged 55 = .ok (.istore 6, 2) := by decide +kernel
theorem dX12_forged_57 : decode cX12_forged 57 = .ok (.iload 6, 2) := by decide +kernel
theorem dX12_forged_59 : decode cX12_forged 59 = .ok (.ifCond .eq 28, 3) := by decide +kernel
theorem dX12_forged_62 : decode cX12_forged 62 = .ok (.aload_n 0, 1) := by decide +kernel
theorem dX12_forged_63 : decode cX12_forged 63 = .ok (.getfield 69, 3) := by decide +kernel
theorem dX12_forged_66 : decode cX12_forged 66 = .ok (.iload_n 1, 1) := by decide +kernel
theorem dX12_forged_67 : decode cX12_forged 67 = .ok (.iaload, 1) := by decide +kernel
theorem dX12_forged_68 : decode cX12_forged 68 = .ok (.bipush 40, 2) := by decide +kernel
theorem dX12_forged_70 : decode cX12_forged 70 = .ok (.if_icmp .ge 17, 3) := by decide +kernel
theorem dX12_forged_73 : decode cX12_forged 73 = .ok (.aload_n 0, 1) := by decide +kernel
theorem dX12_forged_74 : decode cX12_forged 74 = .ok (.iload_n 1, 1) := by decide +kernel
theorem dX12_forged_75 : decode cX12_forged 75 = .ok (.iload_n 2, 1) := by decide +kernel
theorem dX12_forged_76 : decode cX12_forged 76 = .ok (.iload_n 3, 1) := by decide +kernel
theorem dX12_forged_77 : decode cX12_forged 77 = .ok (.iload 4, 2) := by decide +kernel
theorem dX12_forged_79 : decode cX12_forged 79 = .ok (.iload 5, 2) := by decide +kernel
theorem dX12_forged_81 : decode cX12_forged 81 = .ok (.invokevirtual 291, 3) := by decide +kernel
theorem dX12_laysIf_0 : decode cX12_laysIf 0 = .ok (.aload_n 0, 1) := by decide +kernel
theorem dX12_laysIf_1 : decode cX12_laysIf 1 = .ok (.getfield 66, 3) := by decide +kernel
theorem dX12_laysIf_4 : decode cX12_laysIf 4 = .ok (.iload_n 2, 1) := by decide +kernel
theorem dX12_laysIf_5 : decode cX12_laysIf 5 = .ok (.iaload, 1) := by decide +kernel
theorem dX12_laysIf_6 : decode cX12_laysIf 6 = .ok (.ifCond .le 28, 3) := by decide +kernel
theorem dX12_laysIf_9 : decode cX12_laysIf 9 = .ok (.iload 5, 2) := by decide +kernel
theorem dX12_laysIf_11 : decode cX12_laysIf 11 = .ok (.aload_n 0, 1) := by decide +kernel
theorem dX12_laysIf_12 : decode cX12_laysIf 12 = .ok (.iload_n 2, 1) := by decide +kernel
theorem dX12_laysIf_13 : decode cX12_laysIf 13 = .ok (.iload_n 3, 1) := by decide +kernel
theorem dX12_laysIf_14 : decode cX12_laysIf 14 = .ok (.iload 4, 2) := by decide +kernel
theorem dX12_laysIf_16 : decode cX12_laysIf 16 = .ok (.invokevirtual 267, 3) := by decide +kernel
theorem dX12_laysIf_19 : decode cX12_laysIf 19 = .ok (.if_icmp .eq 15, 3) := by decide +kernel
theorem dX12_laysIf_22 : decode cX12_laysIf 22 = .ok (.aload_n 0, 1) := by decide +kernel
theorem dX12_laysIf_23 : decode cX12_laysIf 23 = .ok (.dup, 1) := by decide +kernel
theorem dX12_laysIf_24 : decode cX12_laysIf 24 = .ok (.getfield 288, 3) := by decide +kernel
theorem dX12_laysIf_27 : decode cX12_laysIf 27 = .ok (.iconst 1, 1) := by decide +kernel
theorem dX12_laysIf_28 : decode cX12_laysIf 28 = .ok (.iadd, 1) := by decide +kernel
theorem dX12_laysIf_29 : decode cX12_laysIf 29 = .ok (.putfield 288, 3) := by decide +kernel
theorem dX12_laysIf_32 : decode cX12_laysIf 32 = .ok (.iconst (-1), 1) := by decide +kernel
theorem dX12_laysIf_33 : decode cX12_laysIf 33 = .ok (.ireturn, 1) := by decide +kernel
theorem dX12_laysIf_34 : decode cX12_laysIf 34 = .ok (.aload_n 0, 1) := by decide +kernel
theorem dX12_laysIf_35 : decode cX12_laysIf 35 = .ok (.iload_n 1, 1) := by decide +kernel
theorem dX12_laysIf_36 : decode cX12_laysIf 36 = .ok (.iload_n 2, 1) := by decide +kernel
theorem dX12_laysIf_37 : decode cX12_laysIf 37 = .ok (.iload_n 3, 1) := by decide +kernel
theorem dX12_laysIf_38 : decode cX12_laysIf 38 = .ok (.iload 4, 2) := by decide +kernel
theorem dX12_laysIf_40 : decode cX12_laysIf 40 = .ok (.iconst 3, 1) := by decide +kernel
theorem dX12_laysIf_41 : decode cX12_laysIf 41 = .ok (.iload 5, 2) := by decide +kernel
theorem dX12_laysIf_43 : decode cX12_laysIf 43 = .ok (.invokevirtual 284, 3) := by decide +kernel
theorem dX12_laysIf_46 : decode cX12_laysIf 46 = .ok (.ireturn, 1) := by decide +kernel
set_option maxHeartbeats 4000000 in
set_option maxRecDepth 100000 in
theorem s_X12_laysIf {P : PP} {a0 : Nat} {a1 : Int32} {a2 : Int32} {a3 : Int32} {a4 : Int32} {a5 : Int32} (I : IM P a0) (ha1 : 0 ≤ a1.toInt ∧ a1.toInt ≤ 3) (ha2 : 0 ≤ a2.toInt ∧ a2.toInt ≤ 1) (hf0 : ∀ b, pR P a0 10 = some b → 1 ≤ (pI P b (a2.toInt.toNat)).toInt ∧ (pI P b (a2.toInt.toNat)).toInt ≤ 16) (hf1 : ∀ b, pR P a0 20 = some b → 0 ≤ (pI P b (a1.toInt.toNat)).toInt ∧ (pI P b (a1.toInt.toNat)).toInt ≤ 39) (hW : MW P a0) : CtrI yX12_laysIf cX12_laysIf 6 (some Jvm.ClassFile.FieldType.int) ({ frames := 2, cells := 0, slots := 0, locals := 128 } : Room) 0 0 P [.ref a0, .int a1, .int a2, .int a3, .int a4, .int a5] (fun r P2 => IM P2 a0 ∧ EM [20, 21, 22, 23, 24, 25, 27] a0 P P2 ∧ MW P2 a0 ∧ (-1 ≤ r.toInt ∧ r.toInt ≤ 39)) := by
  refine enI (lv := [(0, .ref a0), (1, .int a1), (2, .int a2), (3, .int a3), (4, .int a4), (5, .int a5)]) (by decide) (Nat.le_of_ble_eq_true rfl) rfl (fun E D cy C Ci0 ret => ?_)
  have ha0 := I.2.1
  have J34 : (∀ b, pR P a0 10 = some b → 1 ≤ (pI P b (a2.toInt.toNat)).toInt ∧ (pI P b (a2.toInt.toNat)).toInt ≤ 16) → (∀ b, pR P a0 17 = some b → (pI P b (a2.toInt.toNat)).toInt ≤ 2147483647) → (∀ b, pR P a0 20 = some b → 0 ≤ (pI P b (a1.toInt.toNat)).toInt ∧ (pI P b (a1.toInt.toNat)).toInt ≤ 39) → G E ({ frames := 2, cells := 0, slots := 0, locals := 128 } : Room) D cy 6 P 0 0 34 [(0, .ref a0), (1, .int a1), (2, .int a2), (3, .int a3), (4, .int a4), (5, .int a5)] [] := by
    intro hq34_0 hq34_1 hq34_2
    obtain ⟨b54723, e54724, h54725⟩ := I.fld (ha0) 10 13 2 rfl
    have hq34_0 := hq34_0 b54723 e54724
    obtain ⟨b54726, e54727, h54728⟩ := I.fld (ha0) 17 13 3 rfl
    have hq34_1 := hq34_1 b54726 e54727
    obtain ⟨b54729, e54730, h54731⟩ := I.fld (ha0) 20 13 20 rfl
    have hq34_2 := hq34_2 b54729 e54730
    refine g_aload_n C dX12_laysIf_34 rfl 0 rfl ?_
    refine g_iload_n C dX12_laysIf_35 rfl 1 rfl ?_
    refine g_iload_n C dX12_laysIf_36 rfl 2 rfl ?_
    refine g_iload_n C dX12_laysIf_37 rfl 3 rfl ?_
    refine g_iload C dX12_laysIf_38 4 rfl ?_
    refine g_iconst (v := 3) C dX12_laysIf_40 (by decide) ?_
    refine g_iload C dX12_laysIf_41 5 rfl ?_
    refine g_callVI (rest := []) C mv_X12_284 [.int a1, .int a2, .int a3, .int a4, .int 3, .int a5] (s_X12_lays I (by omega) (by omega) (fun b9 e9 => by rw [e54730] at e9; cases e9; show 0 ≤ (pI P b54729 (a1.toInt.toNat)).toInt ∧ (pI P b54729 (a1.toInt.toNat)).toInt ≤ 39; omega) hW (fun c9 f9 _ => by rw [e54724] at f9; cases f9; show 0 < (pI P b54723 (a2.toInt.toNat)).toInt; omega)) (ha0).1 (ha0).2 rfl rfl (by decide) (Nat.le_of_ble_eq_true rfl) (by decide) dX12_laysIf_43 (fun r54732 Y54733 h54734 => ?_)
    obtain ⟨Iy54735, Xy54736, W54737, p54738, h54734⟩ := h54734
    have p54738 := p54738 b54729 e54730
    have p54738 : (pI Y54733 b54729 (a1.toInt.toNat)).toInt = (pI P b54729 (a1.toInt.toNat)).toInt + 1 := p54738
    have q54739 := Xy54736.keepA e54724 (by decide) rfl (a2.toInt.toNat)
    have q54740 := Xy54736.keepA e54727 (by decide) rfl (a2.toInt.toNat)
    have Xz54741 : EM [20, 21, 22, 23, 24, 25, 27] a0 P Y54733 := Xy54736.mono (by decide)
    have e54742 := Xy54736.ref ha0 (by decide) e54724
    have e54743 := Xy54736.ref ha0 (by decide) e54727
    have e54744 := Xy54736.ref ha0 (by decide) e54730
    have h54745 := Xy54736.at ha0
    have h54746 := Xy54736.ar h54725
    have h54747 := Xy54736.ar h54728
    have h54748 := Xy54736.ar h54731
    have h54734 : 0 ≤ r54732.toInt ∧ r54732.toInt ≤ 39 := h54734
    exact ret _ _ _ _ _ _ dX12_laysIf_46 rfl (by decide) (by decide) ⟨Iy54735, Xz54741, W54737, (by omega)⟩
  obtain ⟨b54749, e54750, h54751⟩ := I.fld (ha0) 10 13 2 rfl
  have hf0 := hf0 b54749 e54750
  obtain ⟨b54752, e54753, h54754⟩ := I.fld (ha0) 20 13 20 rfl
  have hf1 := hf1 b54752 e54753
  refine g_aload_n C dX12_laysIf_0 rfl 0 rfl ?_
  obtain ⟨b54755, e54756, h54757⟩ := I.fld (ha0) 17 13 3 rfl
  refine g_getR C fi_X12_66 rfl e54756 (ha0).1 (ha0).2 dX12_laysIf_1 ?_
  refine g_iload_n C dX12_laysIf_4 rfl 2 rfl ?_
  refine g_iald (j := (a2.toInt.toNat)) C h54757.1 h54757.2.1 (ix_in h54757.2.2 (by omega)) dX12_laysIf_5 ?_
  have u54759 := ti_rng (pI P b54755 (a2.toInt.toNat))
  refine b_if_le C 34 dX12_laysIf_6 (by decide) (fun h54758 => ?_) (fun h54758 => ?_)
  · have h54758 : (pI P b54755 (a2.toInt.toNat)).toInt ≤ 0 := h54758
    exact J34 (fun b9 e9 => by rw [e54750] at e9; cases e9; omega) (fun b9 e9 => by rw [e54756] at e9; cases e9; omega) (fun b9 e9 => by rw [e54753] at e9; cases e9; omega)
  · have h54758 : 0 < (pI P b54755 (a2.toInt.toNat)).toInt := h54758
    refine g_iload C dX12_laysIf_9 5 rfl ?_
    refine g_aload_n C dX12_laysIf_11 rfl 0 rfl ?_
    refine g_iload_n C dX12_laysIf_12 rfl 2 rfl ?_
    refine g_iload_n C dX12_laysIf_13 rfl 3 rfl ?_
    refine g_iload C dX12_laysIf_14 4 rfl ?_
    refine g_callVI (rest := [.int a5]) C mv_X12_267 [.int a2, .int a3, .int a4] (s_X12_sealOf I (by omega) hW) (ha0).1 (ha0).2 rfl rfl (by decide) (Nat.le_of_ble_eq_true rfl) (by decide) dX12_laysIf_16 (fun r54760 Y54761 h54762 => ?_)
    obtain ⟨rfl, h54762⟩ := h54762
    have h54762 : True := h54762
    have u54764 := ti_rng a5
    have u54765 := ti_rng r54760
    refine b_icmp_eq C 34 dX12_laysIf_19 (by decide) (fun h54763 => ?_) (fun h54763 => ?_)
    · have h54763 : a5.toInt = r54760.toInt := congrArg Int32.toInt h54763
      exact J34 (fun b9 e9 => by rw [e54750] at e9; cases e9; omega) (fun b9 e9 => by rw [e54756] at e9; cases e9; omega) (fun b9 e9 => by rw [e54753] at e9; cases e9; omega)
    · have h54763 : a5.toInt ≠ r54760.toInt := ti_ne h54763
      refine g_aload_n C dX12_laysIf_22 rfl 0 rfl ?_
      refine g_dup C dX12_laysIf_23 rfl ?_
      refine g_getI C fi_X12_288 (by decide) (ha0).1 (ha0).2 dX12_laysIf_24 ?_
      refine g_iconst (v := 1) C dX12_laysIf_27 (by decide) ?_
      refine a_iadd C dX12_laysIf_28 (fun z54766 => ?_)
      refine g_putI C fi_X12_288 rfl (ha0).1 (ha0).2 dX12_laysIf_29 ?_
      refine gqW (ks := [27]) (I.setI (rgOk.none rfl)) (EM.setI I (by decide)) (fun Y54768 Iy54769 Xy54770 w54771 => ?_)
      have w54771 : (pI Y54768 a0 27).toInt = z54766.toInt := w54771
      have q54772 := Xy54770.keepA e54750 (by decide) rfl (a2.toInt.toNat)
      have q54773 := Xy54770.keepA e54753 (by decide) rfl (a1.toInt.toNat)
      have q54774 := Xy54770.keepA e54756 (by decide) rfl (a2.toInt.toNat)
      have W54775 := hW.keep I Xy54770 (by decide) (by decide) (by decide)
      have Xz54776 : EM [20, 21, 22, 23, 24, 25, 27] a0 P Y54768 := Xy54770.mono (by decide)
      have e54777 := Xy54770.ref ha0 (by decide) e54750
      have e54778 := Xy54770.ref ha0 (by decide) e54753
      have e54779 := Xy54770.ref ha0 (by decide) e54756
      have h54780 := Xy54770.at ha0
      have h54781 := Xy54770.ar h54751
      have h54782 := Xy54770.ar h54754
      have h54783 := Xy54770.ar h54757
      refine g_iconst (v := (-1)) C dX12_laysIf_32 (by decide) ?_
      exact ret _ _ _ _ _ _ dX12_laysIf_33 rfl (by decide) (by decide) ⟨Iy54769, Xz54776, W54775, (by decide)⟩
theorem dX12_forged_84 : decode cX12_forged 84 = .ok (.goto 4, 3) := by decide +kernel
theorem dX12_forged_87 : decode cX12_forged 87 = .ok (.iconst (-1), 1) := by decide +kernel
theorem dX12_forged_88 : decode cX12_forged 88 = .ok (.ireturn, 1) := by decide +kernel
set_option maxHeartbeats 4000000 in
set_option maxRecDepth 100000 in
theorem s_X12_forged {P : PP} {a0 : Nat} {a1 : Int32} {a2 : Int32} {a3 : Int32} {a4 : Int32} {a5 : Int32} (I : IM P a0) (hW : MW P a0) : CtrI yX12_forged cX12_forged 7 (some Jvm.ClassFile.FieldType.int) ({ frames := 3, cells := 0, slots := 0, locals := 192 } : Room) 0 0 P [.ref a0, .int a1, .int a2, .int a3, .int a4, .int a5] (fun r P2 => IM P2 a0 ∧ EM [0, 20, 21, 22, 23, 24, 25, 27] a0 P P2 ∧ MW P2 a0 ∧ (-1 ≤ r.toInt ∧ r.toInt ≤ 39)) := by
  refine enI (lv := [(0, .ref a0), (1, .int a1), (2, .int a2), (3, .int a3), (4, .int a4), (5, .int a5)]) (by decide) (Nat.le_of_ble_eq_true rfl) rfl (fun E D cy C Ci0 ret => ?_)
  have ha0 := I.2.1
  have J87 : ∀ (P87 : PP), (IM P87 a0) → (EM [0, 20, 21, 22, 23, 24, 25, 27] a0 P P87) → (MW P87 a0) → (0 ≤ (pI P87 a0 0).toInt ∧ (pI P87 a0 0).toInt ≤ 0) → G E ({ frames := 3, cells := 0, slots := 0, locals := 192 } : Room) D cy 7 P87 0 0 87 [] [] := by
    intro P87 I87 X87 W87 hq87_0
    have h54846 := X87.at ha0
    refine g_iconst (v := (-1)) C dX12_forged_87 (by decide) ?_
    exact ret _ _ _ _ _ _ dX12_forged_88 rfl (by decide) (by decide) ⟨I87, X87, W87, (by decide)⟩
  have J55 : ∀ (P55 : PP) (v55_s0 : Int32), (IM P55 a0) → (EM [0, 20, 21, 22, 23, 24, 25, 27] a0 P P55) → (MW P55 a0) → (0 ≤ v55_s0.toInt ∧ v55_s0.toInt ≤ 1) → (0 ≤ (pI P55 a0 0).toInt ∧ (pI P55 a0 0).toInt ≤ 0) → (∀ b910, pR P55 a0 10 = some b910 → v55_s0.toInt = 0 ∨ 0 < (pI P55 b910 (a2.toInt.toNat)).toInt) → (v55_s0.toInt = 0 ∨ (0 ≤ a1.toInt ∧ a1.toInt ≤ 3 ∧ 0 ≤ a2.toInt ∧ a2.toInt ≤ 1)) → G E ({ frames := 3, cells := 0, slots := 0, locals := 192 } : Room) D cy 7 P55 0 0 55 [(0, .ref a0), (1, .int a1), (2, .int a2), (3, .int a3), (4, .int a4), (5, .int a5)] [.int v55_s0] := by
    intro P55 v55_s0 I55 X55 W55 hv55_s0 hq55_0 rel55_0 rel55_1
    have h54847 := X55.at ha0
    obtain ⟨b54848, e54849, h54850⟩ := I55.fld (h54847) 10 13 2 rfl
    have rel55_0 := rel55_0 b54848 e54849
    have h54851 := I55.arr e54849 rfl (a2.toInt.toNat)
    refine g_istore (lv' := [(6, .int v55_s0), (0, .ref a0), (1, .int a1), (2, .int a2), (3, .int a3), (4, .int a4), (5, .int a5)]) C dX12_forged_55 (by decide) rfl ?_
    refine g_iload C dX12_forged_57 0 rfl ?_
    refine b_if_eq C 87 dX12_forged_59 (by decide) (fun h54852 => ?_) (fun h54852 => ?_)
    · have h54852 : v55_s0.toInt = 0 := congrArg Int32.toInt h54852
      clear rel55_1
      refine g_lv (lv' := []) [] rfl ?_
      exact J87 P55 I55 X55 W55 (by omega)
    · have h54852 : v55_s0.toInt ≠ 0 := ti_ne h54852
      replace rel55_1 := rel55_1.resolve_left (by omega)
      refine g_aload_n C dX12_forged_62 rfl 1 rfl ?_
      obtain ⟨b54853, e54854, h54855⟩ := I55.fld (h54847) 20 13 20 rfl
      refine g_getR C fi_X12_69 rfl e54854 (h54847).1 (h54847).2 dX12_forged_63 ?_
      refine g_iload_n C dX12_forged_66 rfl 2 rfl ?_
      refine g_iald (j := (a1.toInt.toNat)) C h54855.1 h54855.2.1 (ix_in h54855.2.2 (by omega)) dX12_forged_67 ?_
      have h54856 := I55.arr e54854 rfl (a1.toInt.toNat)
      refine g_bipush (v := 40) C dX12_forged_68 (by decide) ?_
      refine b_icmp_ge C 87 dX12_forged_70 (by decide) (fun h54857 => ?_) (fun h54857 => ?_)
      · have h54857 : 40 ≤ (pI P55 b54853 (a1.toInt.toNat)).toInt := h54857
        refine g_lv (lv' := []) [] rfl ?_
        exact J87 P55 I55 X55 W55 (by omega)
      · have h54857 : (pI P55 b54853 (a1.toInt.toNat)).toInt < 40 := h54857
        refine g_aload_n C dX12_forged_73 rfl 1 rfl ?_
        refine g_iload_n C dX12_forged_74 rfl 2 rfl ?_
        refine g_iload_n C dX12_forged_75 rfl 3 rfl ?_
        refine g_iload_n C dX12_forged_76 rfl 4 rfl ?_
        refine g_iload C dX12_forged_77 5 rfl ?_
        refine g_iload C dX12_forged_79 6 rfl ?_
        refine g_callVI (rest := []) C mv_X12_291 [.int a1, .int a2, .int a3, .int a4, .int a5] (s_X12_laysIf I55 (by omega) (by omega) (fun b9 e9 => by rw [e54849] at e9; cases e9; show 1 ≤ (pI P55 b54848 (a2.toInt.toNat)).toInt ∧ (pI P55 b54848 (a2.toInt.toNat)).toInt ≤ 16; omega) (fun b9 e9 => by rw [e54854] at e9; cases e9; show 0 ≤ (pI P55 b54853 (a1.toInt.toNat)).toInt ∧ (pI P55 b54853 (a1.toInt.toNat)).toInt ≤ 39; omega) W55) (h54847).1 (h54847).2 rfl rfl (by decide) (Nat.le_of_ble_eq_true rfl) (by decide) dX12_forged_81 (fun r54858 Y54859 h54860 => ?_)
        obtain ⟨Iy54861, Xy54862, W54863, h54860⟩ := h54860
        have q54864 := Xy54862.keepF 0 (by decide)
        have q54865 := Xy54862.keepA e54849 (by decide) rfl (a2.toInt.toNat)
        have Xz54866 : EM [0, 20, 21, 22, 23, 24, 25, 27] a0 P Y54859 := EM.tr ha0 X55 (Xy54862.mono (by decide))
        have e54867 := Xy54862.ref h54847 (by decide) e54849
        have h54868 := Xy54862.at h54847
        have h54869 := Xy54862.ar h54850
        have h54860 : -1 ≤ r54858.toInt ∧ r54858.toInt ≤ 39 := h54860
        refine g_goto C 88 dX12_forged_84 (by decide) ?_
        exact ret _ _ _ _ _ _ dX12_forged_88 rfl (by decide) (by decide) ⟨Iy54861, Xz54866, W54863, (by omega)⟩
  have J54 : ∀ (P54 : PP), (IM P54 a0) → (EM [0, 20, 21, 22, 23, 24, 25, 27] a0 P P54) → (MW P54 a0) → (0 ≤ (pI P54 a0 0).toInt ∧ (pI P54 a0 0).toInt ≤ 0) → G E ({ frames := 3, cells := 0, slots := 0, locals := 192 } : Room) D cy 7 P54 0 0 54 [(0, .ref a0), (1, .int a1), (2, .int a2), (3, .int a3), (4, .int a4), (5, .int a5)] [] := by
    intro P54 I54 X54 W54 hq54_0
    have h54870 := X54.at ha0
    refine g_iconst (v := 0) C dX12_forged_54 (by decide) ?_
    obtain ⟨b54871, e54872, h54873⟩ := I54.fld (h54870) 10 13 2 rfl
    exact J55 P54 0 I54 X54 W54 (by decide) (by omega) (by intro b910 e910; rw [e54872] at e910; cases e910; show 0 = 0 ∨ 0 < (pI P54 b54871 (a2.toInt.toNat)).toInt; omega) (by show 0 = 0 ∨ (0 ≤ a1.toInt ∧ a1.toInt ≤ 3 ∧ 0 ≤ a2.toInt ∧ a2.toInt ≤ 1); omega)
  refine g_aload_n C dX12_forged_0 rfl 0 rfl ?_
  refine g_iconst (v := 0) C dX12_forged_1 (by decide) ?_
  refine g_putI C fi_X12_1 rfl (ha0).1 (ha0).2 dX12_forged_2 ?_
  refine gqW (ks := [0]) (I.setI (rgOk.of rfl (by decide))) (EM.setI I (by decide)) (fun Y54874 Iy54875 Xy54876 w54877 => ?_)
  have w54877 : (pI Y54874 a0 0).toInt = 0 := w54877
  have W54878 := hW.keep I Xy54876 (by decide) (by decide) (by decide)
  have Xz54879 : EM [0, 20, 21, 22, 23, 24, 25, 27] a0 P Y54874 := Xy54876.mono (by decide)
  have h54880 := Xy54876.at ha0
  refine g_iload_n C dX12_forged_5 rfl 1 rfl ?_
  refine g_callSI (b := 0) (ci := 0) (rest := []) C ms_X12_278 [.int a1] (s_X12_isQuarter Iy54875.1) rfl rfl (by decide) (Nat.le_of_ble_eq_true rfl) (by decide) dX12_forged_6 (fun r54881 Y54882 h54883 => ?_)
  obtain ⟨rfl, h54883⟩ := h54883
  obtain ⟨h54883, hi54884⟩ := h54883
  have hi54884 : r54881.toInt = 0 ∨ (((0 : Int) ≤ a1.toInt ∧ a1.toInt ≤ (3 : Int))) := hi54884
  have h54883 : 0 ≤ r54881.toInt ∧ r54881.toInt ≤ 1 := h54883
  refine b_if_eq C 54 dX12_forged_9 (by decide) (fun h54885 => ?_) (fun h54885 => ?_)
  · have h54885 : r54881.toInt = 0 := congrArg Int32.toInt h54885
    clear hi54884
    exact J54 Y54874 Iy54875 Xz54879 W54878 (by omega)
  · have h54885 : r54881.toInt ≠ 0 := ti_ne h54885
    replace hi54884 := hi54884.resolve_left (by omega)
    refine g_aload_n C dX12_forged_12 rfl 0 rfl ?_
    refine g_iload_n C dX12_forged_13 rfl 2 rfl ?_
    refine g_callVI (rest := []) C mv_X12_192 [.int a2] (s_X12_isBook Iy54875 W54878) (h54880).1 (h54880).2 rfl rfl (by decide) (Nat.le_of_ble_eq_true rfl) (by decide) dX12_forged_14 (fun r54886 Y54887 h54888 => ?_)
    obtain ⟨rfl, h54888⟩ := h54888
    obtain ⟨h54888, hi54889, hi54890⟩ := h54888
    have hi54889 : r54886.toInt = 0 ∨ (((0 : Int) ≤ a2.toInt ∧ a2.toInt ≤ (1 : Int))) := hi54889
    have h54888 : 0 ≤ r54886.toInt ∧ r54886.toInt ≤ 1 := h54888
    refine b_if_eq C 54 dX12_forged_17 (by decide) (fun h54891 => ?_) (fun h54891 => ?_)
    · have h54891 : r54886.toInt = 0 := congrArg Int32.toInt h54891
      clear hi54889
      exact J54 Y54874 Iy54875 Xz54879 W54878 (by omega)
    · have h54891 : r54886.toInt ≠ 0 := ti_ne h54891
      replace hi54889 := hi54889.resolve_left (by omega)
      obtain ⟨b54892, e54893, h54894⟩ := Iy54875.fld (h54880) 10 13 2 rfl
      have hi54890 := (hi54890.resolve_left (by omega)) b54892 e54893
      have hi54890 : 0 < (pI Y54874 b54892 (a2.toInt.toNat)).toInt := hi54890
      have h54895 := Iy54875.arr e54893 rfl (a2.toInt.toNat)
      refine g_iload_n C dX12_forged_20 rfl 3 rfl ?_
      refine g_callSI (b := 0) (ci := 0) (rest := []) C ms_X12_258 [.int a3] (s_X12_isNumber Iy54875.1) rfl rfl (by decide) (Nat.le_of_ble_eq_true rfl) (by decide) dX12_forged_21 (fun r54896 Y54897 h54898 => ?_)
      obtain ⟨rfl, h54898⟩ := h54898
      obtain ⟨h54898, hi54899⟩ := h54898
      have hi54899 : r54896.toInt = 0 ∨ (((0 : Int) ≤ a3.toInt ∧ a3.toInt ≤ (9999 : Int))) := hi54899
      have h54898 : 0 ≤ r54896.toInt ∧ r54896.toInt ≤ 1 := h54898
      refine b_if_eq C 54 dX12_forged_24 (by decide) (fun h54900 => ?_) (fun h54900 => ?_)
      · have h54900 : r54896.toInt = 0 := congrArg Int32.toInt h54900
        clear hi54899
        exact J54 Y54874 Iy54875 Xz54879 W54878 (by omega)
      · have h54900 : r54896.toInt ≠ 0 := ti_ne h54900
        replace hi54899 := hi54899.resolve_left (by omega)
        refine g_iload C dX12_forged_27 4 rfl ?_
        refine g_iconst (v := 0) C dX12_forged_29 (by decide) ?_
        refine g_ldc (v := 65535) C kc_X12_195 dX12_forged_30 ?_
        refine g_callSI (b := 0) (ci := 0) (rest := []) C ms_X12_178 [.int a4, .int 0, .int 65535] (s_X12_within Iy54875.1) rfl rfl (by decide) (Nat.le_of_ble_eq_true rfl) (by decide) dX12_forged_32 (fun r54901 Y54902 h54903 => ?_)
        obtain ⟨rfl, h54903⟩ := h54903
        obtain ⟨h54903, hi54904⟩ := h54903
        have hi54904 : r54901.toInt = 0 ∨ (0 ≤ a4.toInt ∧ a4.toInt ≤ 65535) := hi54904
        have h54903 : 0 ≤ r54901.toInt ∧ r54901.toInt ≤ 1 := h54903
        refine b_if_eq C 54 dX12_forged_35 (by decide) (fun h54905 => ?_) (fun h54905 => ?_)
        · have h54905 : r54901.toInt = 0 := congrArg Int32.toInt h54905
          clear hi54904
          exact J54 Y54874 Iy54875 Xz54879 W54878 (by omega)
        · have h54905 : r54901.toInt ≠ 0 := ti_ne h54905
          replace hi54904 := hi54904.resolve_left (by omega)
          refine g_iload C dX12_forged_38 5 rfl ?_
          refine g_iconst (v := 0) C dX12_forged_40 (by decide) ?_
          refine g_sipush (v := 996) C dX12_forged_41 (by decide) ?_
          refine g_callSI (b := 0) (ci := 0) (rest := []) C ms_X12_178 [.int a5, .int 0, .int 996] (s_X12_within Iy54875.1) rfl rfl (by decide) (Nat.le_of_ble_eq_true rfl) (by decide) dX12_forged_44 (fun r54906 Y54907 h54908 => ?_)
          obtain ⟨rfl, h54908⟩ := h54908
          obtain ⟨h54908, hi54909⟩ := h54908
          have hi54909 : r54906.toInt = 0 ∨ (0 ≤ a5.toInt ∧ a5.toInt ≤ 996) := hi54909
          have h54908 : 0 ≤ r54906.toInt ∧ r54906.toInt ≤ 1 := h54908
          refine b_if_eq C 54 dX12_forged_47 (by decide) (fun h54910 => ?_) (fun h54910 => ?_)
          · have h54910 : r54906.toInt = 0 := congrArg Int32.toInt h54910
            clear hi54909
            exact J54 Y54874 Iy54875 Xz54879 W54878 (by omega)
          · have h54910 : r54906.toInt ≠ 0 := ti_ne h54910
            replace hi54909 := hi54909.resolve_left (by omega)
            refine g_iconst (v := 1) C dX12_forged_50 (by decide) ?_
            refine g_goto C 55 dX12_forged_51 (by decide) ?_
            exact J55 Y54874 1 Iy54875 Xz54879 W54878 (by decide) (by omega) (by intro b910 e910; rw [e54893] at e910; cases e910; show 1 = 0 ∨ 0 < (pI Y54874 b54892 (a2.toInt.toNat)).toInt; omega) (by show 1 = 0 ∨ (0 ≤ a1.toInt ∧ a1.toInt ≤ 3 ∧ 0 ≤ a2.toInt ∧ a2.toInt ≤ 1); omega)
set_option maxHeartbeats 4000000 in
set_option maxRecDepth 100000 in
theorem s_X12_forgetsDraw {P : PP} {a0 : Nat} {a1 : Int32} (I : IM P a0) (ha1 : 0 ≤ a1.toInt ∧ a1.toInt ≤ 2) (hW : MW P a0) : CtrV yX12_forgetsDraw cX12_forgetsDraw 3 none ({ frames := 1, cells := 0, slots := 0, locals := 64 } : Room) 0 0 P [.ref a0, .int a1] (fun P2 => IM P2 a0 ∧ EM [12, 13, 14, 15, 17] a0 P P2 ∧ MW P2 a0) := by
  refine enV (lv := [(0, .ref a0), (1, .int a1)]) (by decide) (Nat.le_of_ble_eq_true rfl) rfl (fun E D cy C Ci0 ret => ?_)
  have ha0 := I.2.1
  have J2 : ∀ (n2 : Nat) (P2 : PP) (v2_2 : Int32), (21 - v2_2.toInt).toNat < n2 → (IM P2 a0) → (EM [12, 13, 14, 15, 17] a0 P P2) → (MW P2 a0) → (0 ≤ v2_2.toInt ∧ v2_2.toInt ≤ 21) → G E ({ frames := 1, cells := 0, slots := 0, locals := 64 } : Room) D cy 3 P2 0 0 2 [(0, .ref a0), (1, .int a1), (2, .int v2_2)] [] := by
    intro n2
    induction n2 with
    | zero => intro P2 v2_2 hm2 I2 X2 W2 hv2_2; omega
    | succ n2 ih2 =>
      intro P2 v2_2 hm2 I2 X2 W2 hv2_2
      have h55256 := X2.at ha0
      refine g_iload_n C dX12_forgetsDraw_2 rfl 2 rfl ?_
      refine g_bipush (v := 21) C dX12_forgetsDraw_3 (by decide) ?_
      refine b_icmp_ge C 26 dX12_forgetsDraw_5 (by decide) (fun h55257 => ?_) (fun h55257 => ?_)
      · have h55257 : 21 ≤ v2_2.toInt := h55257
        refine g_aload_n C dX12_forgetsDraw_26 rfl 0 rfl ?_
        obtain ⟨b55258, e55259, h55260⟩ := I2.fld (h55256) 13 13 3 rfl
        refine g_getR C fi_X12_54 rfl e55259 (h55256).1 (h55256).2 dX12_forgetsDraw_27 ?_
        refine g_iload_n C dX12_forgetsDraw_30 rfl 1 rfl ?_
        refine g_iconst (v := 0) C dX12_forgetsDraw_31 (by decide) ?_
        refine g_iast (j := (a1.toInt.toNat)) C h55260.1 h55260.2.1 (ix_in h55260.2.2 (by omega)) dX12_forgetsDraw_32 ?_
        refine gqW (ks := [13]) (I2.setA e55259 h55260 (by decide) (arOk.none rfl)) (EM.setA I2 e55259 rfl (by decide)) (fun Y55261 Iy55262 Xy55263 w55264 => ?_)
        have w55264 : (pI Y55261 b55258 (a1.toInt.toNat)).toInt = 0 := w55264
        have W55265 := W2.keep I2 Xy55263 (by decide) (by decide) (by decide)
        have Xz55266 : EM [12, 13, 14, 15, 17] a0 P Y55261 := EM.tr ha0 X2 (Xy55263.mono (by decide))
        have e55267 := Xy55263.ref h55256 (by decide) e55259
        have h55268 := Xy55263.at h55256
        have h55269 := Xy55263.ar h55260
        refine g_aload_n C dX12_forgetsDraw_33 rfl 0 rfl ?_
        obtain ⟨b55270, e55271, h55272⟩ := Iy55262.fld (h55268) 14 13 3 rfl
        refine g_getR C fi_X12_57 rfl e55271 (h55268).1 (h55268).2 dX12_forgetsDraw_34 ?_
        refine g_iload_n C dX12_forgetsDraw_37 rfl 1 rfl ?_
        refine g_iconst (v := 1) C dX12_forgetsDraw_38 (by decide) ?_
        refine g_iast (j := (a1.toInt.toNat)) C h55272.1 h55272.2.1 (ix_in h55272.2.2 (by omega)) dX12_forgetsDraw_39 ?_
        refine gqX (ks := [14]) (W := (fun P => MW P a0)) (Iy55262.setA e55271 h55272 (by decide) (arOk.of rfl (by decide))) (EM.setA Iy55262 e55271 rfl (by decide)) (W55265.set14 Iy55262 e55271 (by first | exact Or.inl (by omega) | exact Or.inr (by decide))) (fun Y55273 Iy55274 Xy55275 w55276 W55277 => ?_)
        have w55276 : (pI Y55273 b55270 (a1.toInt.toNat)).toInt = 1 := w55276
        have q55278 := Xy55275.keepA e55267 (by decide) rfl (a1.toInt.toNat)
        have Xz55279 : EM [12, 13, 14, 15, 17] a0 P Y55273 := EM.tr ha0 Xz55266 (Xy55275.mono (by decide))
        have e55280 := Xy55275.ref h55268 (by decide) e55267
        have e55281 := Xy55275.ref h55268 (by decide) e55271
        have h55282 := Xy55275.at h55268
        have h55283 := Xy55275.ar h55269
        have h55284 := Xy55275.ar h55272
        refine g_aload_n C dX12_forgetsDraw_40 rfl 0 rfl ?_
        obtain ⟨b55285, e55286, h55287⟩ := Iy55274.fld (h55282) 15 13 3 rfl
        refine g_getR C fi_X12_60 rfl e55286 (h55282).1 (h55282).2 dX12_forgetsDraw_41 ?_
        refine g_iload_n C dX12_forgetsDraw_44 rfl 1 rfl ?_
        refine g_iconst (v := 0) C dX12_forgetsDraw_45 (by decide) ?_
        refine g_iast (j := (a1.toInt.toNat)) C h55287.1 h55287.2.1 (ix_in h55287.2.2 (by omega)) dX12_forgetsDraw_46 ?_
        refine gqW (ks := [15]) (Iy55274.setA e55286 h55287 (by decide) (arOk.of rfl (by decide))) (EM.setA Iy55274 e55286 rfl (by decide)) (fun Y55288 Iy55289 Xy55290 w55291 => ?_)
        have w55291 : (pI Y55288 b55285 (a1.toInt.toNat)).toInt = 0 := w55291
        have q55292 := Xy55290.keepA e55280 (by decide) rfl (a1.toInt.toNat)
        have q55293 := Xy55290.keepA e55281 (by decide) rfl (a1.toInt.toNat)
        have W55294 := W55277.keep Iy55274 Xy55290 (by decide) (by decide) (by decide)
        have Xz55295 : EM [12, 13, 14, 15, 17] a0 P Y55288 := EM.tr ha0 Xz55279 (Xy55290.mono (by decide))
        have e55296 := Xy55290.ref h55282 (by decide) e55280
        have e55297 := Xy55290.ref h55282 (by decide) e55281
        have e55298 := Xy55290.ref h55282 (by decide) e55286
        have h55299 := Xy55290.at h55282
        have h55300 := Xy55290.ar h55283
        have h55301 := Xy55290.ar h55284
        have h55302 := Xy55290.ar h55287
        refine g_aload_n C dX12_forgetsDraw_47 rfl 0 rfl ?_
        obtain ⟨b55303, e55304, h55305⟩ := Iy55289.fld (h55299) 17 13 3 rfl
        refine g_getR C fi_X12_66 rfl e55304 (h55299).1 (h55299).2 dX12_forgetsDraw_48 ?_
        refine g_iload_n C dX12_forgetsDraw_51 rfl 1 rfl ?_
        refine g_iconst (v := 0) C dX12_forgetsDraw_52 (by decide) ?_
        refine g_iast (j := (a1.toInt.toNat)) C h55305.1 h55305.2.1 (ix_in h55305.2.2 (by omega)) dX12_forgetsDraw_53 ?_
        refine gqW (ks := [17]) (Iy55289.setA e55304 h55305 (by decide) (arOk.none rfl)) (EM.setA Iy55289 e55304 rfl (by decide)) (fun Y55306 Iy55307 Xy55308 w55309 => ?_)
        have w55309 : (pI Y55306 b55303 (a1.toInt.toNat)).toInt = 0 := w55309
        have q55310 := Xy55308.keepA e55296 (by decide) rfl (a1.toInt.toNat)
        have q55311 := Xy55308.keepA e55297 (by decide) rfl (a1.toInt.toNat)
        have q55312 := Xy55308.keepA e55298 (by decide) rfl (a1.toInt.toNat)
        have W55313 := W55294.keep Iy55289 Xy55308 (by decide) (by decide) (by decide)
        have Xz55314 : EM [12, 13, 14, 15, 17] a0 P Y55306 := EM.tr ha0 Xz55295 (Xy55308.mono (by decide))
        have e55315 := Xy55308.ref h55299 (by decide) e55296
        have e55316 := Xy55308.ref h55299 (by decide) e55297
        have e55317 := Xy55308.ref h55299 (by decide) e55298
        have e55318 := Xy55308.ref h55299 (by decide) e55304
        have h55319 := Xy55308.at h55299
        have h55320 := Xy55308.ar h55300
        have h55321 := Xy55308.ar h55301
        have h55322 := Xy55308.ar h55302
        have h55323 := Xy55308.ar h55305
        exact ret _ _ _ _ _ dX12_forgetsDraw_54 (by decide) (by decide) ⟨Iy55307, Xz55314, W55313⟩
      · have h55257 : v2_2.toInt < 21 := h55257
        refine g_aload_n C dX12_forgetsDraw_8 rfl 0 rfl ?_
        obtain ⟨b55324, e55325, h55326⟩ := I2.fld (h55256) 12 13 63 rfl
        refine g_getR C fi_X12_51 rfl e55325 (h55256).1 (h55256).2 dX12_forgetsDraw_9 ?_
        refine g_bipush (v := 21) C dX12_forgetsDraw_12 (by decide) ?_
        refine g_iload_n C dX12_forgetsDraw_14 rfl 1 rfl ?_
        refine s_imul C dX12_forgetsDraw_15 (by show -2147483648 ≤ 21 * a1.toInt ∧ 21 * a1.toInt ≤ 2147483647; omega) (fun z55327 h55328 => ?_)
        have h55328 : z55327.toInt = 21 * a1.toInt := h55328
        refine g_iload_n C dX12_forgetsDraw_16 rfl 2 rfl ?_
        refine s_iadd C dX12_forgetsDraw_17 (by show -2147483648 ≤ z55327.toInt + v2_2.toInt ∧ z55327.toInt + v2_2.toInt ≤ 2147483647; omega) (fun z55329 h55330 => ?_)
        have h55330 : z55329.toInt = z55327.toInt + v2_2.toInt := h55330
        refine g_iconst (v := (-1)) C dX12_forgetsDraw_18 (by decide) ?_
        refine g_iast (j := (z55329.toInt.toNat)) C h55326.1 h55326.2.1 (ix_in h55326.2.2 (by omega)) dX12_forgetsDraw_19 ?_
        refine gqW (ks := [12]) (I2.setA e55325 h55326 (by decide) (arOk.none rfl)) (EM.setA I2 e55325 rfl (by decide)) (fun Y55331 Iy55332 Xy55333 w55334 => ?_)
        have w55334 : (pI Y55331 b55324 (z55329.toInt.toNat)).toInt = (-1) := w55334
        have W55335 := W2.keep I2 Xy55333 (by decide) (by decide) (by decide)
        have Xz55336 : EM [12, 13, 14, 15, 17] a0 P Y55331 := EM.tr ha0 X2 (Xy55333.mono (by decide))
        have e55337 := Xy55333.ref h55256 (by decide) e55325
        have h55338 := Xy55333.at h55256
        have h55339 := Xy55333.ar h55326
        refine s_iinc (lv0 := [(0, .ref a0), (1, .int a1)]) (m := 1) C dX12_forgetsDraw_20 2 rfl (by decide) rfl (by decide) (by omega) (fun z55340 h55341 => ?_)
        have h55341 : z55340.toInt = v2_2.toInt + 1 := h55341
        refine g_goto C 2 dX12_forgetsDraw_23 (by decide) ?_
        refine g_lv (lv' := [(0, .ref a0), (1, .int a1), (2, .int z55340)]) [1, 2, 0] rfl ?_
        exact ih2 Y55331 z55340 (by omega) Iy55332 Xz55336 W55335 (by omega)
  refine g_iconst (v := 0) C dX12_forgetsDraw_0 (by decide) ?_
  refine g_istore_n (lv' := [(2, .int 0), (0, .ref a0), (1, .int a1)]) C dX12_forgetsDraw_1 rfl (by decide) rfl ?_
  refine g_lv (lv' := [(0, .ref a0), (1, .int a1), (2, .int 0)]) [1, 2, 0] rfl ?_
  exact J2 _ P 0 (Nat.lt_succ_self _) I EM.rf hW (by decide)
theorem dX12_guard_0 : decode cX12_guard 0 = .ok (.aload_n 0, 1) := by decide +kernel
theorem dX12_guard_1 : decode cX12_guard 1 = .ok (.iconst 0, 1) := by decide +kernel
theorem dX12_guard_2 : decode cX12_guard 2 = .ok (.putfield 1, 3) := by decide +kernel
theorem dX12_guard_5 : decode cX12_guard 5 = .ok (.aload_n 0, 1) := by decide +kernel
theorem dX12_guard_6 : decode cX12_guard 6 = .ok (.iload_n 1, 1) := by decide +kernel
theorem dX12_guard_7 : decode cX12_guard 7 = .ok (.iload_n 2, 1) := by decide +kernel
theorem dX12_guard_8 : decode cX12_guard 8 = .ok (.iload_n 3, 1) := by decide +kernel
theorem dX12_guard_9 : decode cX12_guard 9 = .ok (.invokevirtual 333, 3) := by decide +kernel
theorem dX12_guard_12 : decode cX12_guard 12 = .ok (.ifCond .eq 13, 3) := by decide +kernel
theorem dX12_guard_15 : decode cX12_guard 15 = .ok (.aload_n 0, 1) := by decide +kernel
theorem dX12_guard_16 : decode cX12_guard 16 = .ok (.iload_n 2, 1) := by decide +kernel
theorem dX12_guard_17 : decode cX12_guard 17 = .ok (.iload 4, 2) := by decide +kernel
theorem dX12_guard_19 : decode cX12_guard 19 = .ok (.invokevirtual 352, 3) := by decide +kernel
theorem dX12_isPage_0 : decode cX12_isPage 0 = .ok (.iload_n 2, 1) := by decide +kernel
theorem dX12_isPage_1 : decode cX12_isPage 1 = .ok (.iconst 0, 1) := by decide +kernel
theorem dX12_isPage_2 : decode cX12_isPage 2 = .ok (.aload_n 0, 1) := by decide +kernel
theorem dX12_isPage_3 : decode cX12_isPage 3 = .ok (.iload_n 1, 1) := by decide +kernel
theorem dX12_isPage_4 : decode cX12_isPage 4 = .ok (.invokevirtual 238, 3) := by decide +kernel
theorem dX12_isPage_7 : decode cX12_isPage 7 = .ok (.iconst 1, 1) := by decide +kernel
theorem dX12_isPage_8 : decode cX12_isPage 8 = .ok (.isub, 1) := by decide +kernel
theorem dX12_isPage_9 : decode cX12_isPage 9 = .ok (.invokestatic 178, 3) := by decide +kernel
theorem dX12_isPage_12 : decode cX12_isPage 12 = .ok (.ireturn, 1) := by decide +kernel
set_option maxHeartbeats 4000000 in
set_option maxRecDepth 100000 in
theorem s_X12_isPage {P : PP} {a0 : Nat} {a1 : Int32} {a2 : Int32} (I : IM P a0) (ha1 : 0 ≤ a1.toInt ∧ a1.toInt ≤ 1) (hW : MW P a0) : CtrI yX12_isPage cX12_isPage 3 (some Jvm.ClassFile.FieldType.boolean) ({ frames := 2, cells := 0, slots := 0, locals := 128 } : Room) 0 0 P [.ref a0, .int a1, .int a2] (fun r P2 => P = P2 ∧ (0 ≤ r.toInt ∧ r.toInt ≤ 1) ∧ (r.toInt = 0 ∨ (((0 : Int) ≤ a2.toInt ∧ a2.toInt ≤ (19 : Int))))) := by
  refine enI (lv := [(0, .ref a0), (1, .int a1), (2, .int a2)]) (by decide) (Nat.le_of_ble_eq_true rfl) rfl (fun E D cy C Ci0 ret => ?_)
  have ha0 := I.2.1
  refine g_iload_n C dX12_isPage_0 rfl 2 rfl ?_
  refine g_iconst (v := 0) C dX12_isPage_1 (by decide) ?_
  refine g_aload_n C dX12_isPage_2 rfl 0 rfl ?_
  refine g_iload_n C dX12_isPage_3 rfl 1 rfl ?_
  refine g_callVI (rest := [.int 0, .int a2]) C mv_X12_238 [.int a1] (s_X12_allOf I (by omega) hW) (ha0).1 (ha0).2 rfl rfl (by decide) (Nat.le_of_ble_eq_true rfl) (by decide) dX12_isPage_4 (fun r55377 Y55378 h55379 => ?_)
  obtain ⟨rfl, h55379⟩ := h55379
  obtain ⟨h55379, hi55380⟩ := h55379
  obtain ⟨b55381, e55382, h55383⟩ := I.fld (ha0) 10 13 2 rfl
  obtain ⟨b55384, e55385, h55386⟩ := I.fld (ha0) 15 13 3 rfl
  have hi55380 : r55377.toInt = 0 ∨ r55377.toInt = (pI P b55381 (a1.toInt.toNat)).toInt + (pI P b55384 (a1.toInt.toNat)).toInt := hi55380.imp id (fun z9 => z9 b55381 b55384 e55382 e55385)
  have h55387 := I.arr e55382 rfl (a1.toInt.toNat)
  have h55388 := I.arr e55385 rfl (a1.toInt.toNat)
  have h55379 : 0 ≤ r55377.toInt ∧ r55377.toInt ≤ 20 := h55379
  refine g_iconst (v := 1) C dX12_isPage_7 (by decide) ?_
  refine s_isub C dX12_isPage_8 (by show -2147483648 ≤ r55377.toInt - 1 ∧ r55377.toInt - 1 ≤ 2147483647; omega) (fun z55389 h55390 => ?_)
  have h55390 : z55389.toInt = r55377.toInt - 1 := h55390
  refine g_callSI (b := 0) (ci := 0) (rest := []) C ms_X12_178 [.int a2, .int 0, .int z55389] (s_X12_within I.1) rfl rfl (by decide) (Nat.le_of_ble_eq_true rfl) (by decide) dX12_isPage_9 (fun r55391 Y55392 h55393 => ?_)
  obtain ⟨rfl, h55393⟩ := h55393
  obtain ⟨h55393, hi55394⟩ := h55393
  have hi55394 : r55391.toInt = 0 ∨ (0 ≤ a2.toInt ∧ a2.toInt ≤ z55389.toInt) := hi55394
  have h55393 : 0 ≤ r55391.toInt ∧ r55391.toInt ≤ 1 := h55393
  exact ret _ _ _ _ _ _ dX12_isPage_12 (nar_b (b01 (by omega))) (by decide) (by decide) ⟨rfl, (by omega), hi55394.imp id (fun h9 => by omega)⟩
theorem dX12_guard_22 : decode cX12_guard 22 = .ok (.ifCond .ne 5, 3) := by decide +kernel
theorem dX12_guard_25 : decode cX12_guard 25 = .ok (.iconst (-1), 1) := by decide +kernel
theorem dX12_guard_26 : decode cX12_guard 26 = .ok (.ireturn, 1) := by decide +kernel
theorem dX12_guard_27 : decode cX12_guard 27 = .ok (.aload_n 0, 1) := by decide +kernel
theorem dX12_guard_28 : decode cX12_guard 28 = .ok (.invokevirtual 336, 3) := by decide +kernel
theorem dX12_guard_31 : decode cX12_guard 31 = .ok (.aload_n 0, 1) := by decide +kernel
theorem dX12_guard_32 : decode cX12_guard 32 = .ok (.iload_n 1, 1) := by decide +kernel
theorem dX12_guard_33 : decode cX12_guard 33 = .ok (.iload_n 2, 1) := by decide +kernel
theorem dX12_guard_34 : decode cX12_guard 34 = .ok (.iload_n 3, 1) := by decide +kernel
theorem dX12_guard_35 : decode cX12_guard 35 = .ok (.aload_n 0, 1) := by decide +kernel
theorem dX12_guard_36 : decode cX12_guard 36 = .ok (.getfield 69, 3) := by decide +kernel
theorem dX12_guard_39 : decode cX12_guard 39 = .ok (.iload_n 1, 1) := by decide +kernel
theorem dX12_guard_40 : decode cX12_guard 40 = .ok (.iaload, 1) := by decide +kernel
theorem dX12_guard_41 : decode cX12_guard 41 = .ok (.invokevirtual 339, 3) := by decide +kernel
theorem dX12_guard_44 : decode cX12_guard 44 = .ok (.aload_n 0, 1) := by decide +kernel
theorem dX12_guard_45 : decode cX12_guard 45 = .ok (.invokevirtual 346, 3) := by decide +kernel
theorem dX12_guard_48 : decode cX12_guard 48 = .ok (.aload_n 0, 1) := by decide +kernel
theorem dX12_guard_49 : decode cX12_guard 49 = .ok (.iload 4, 2) := by decide +kernel
theorem dX12_guard_51 : decode cX12_guard 51 = .ok (.invokevirtual 330, 3) := by decide +kernel
theorem dX12_guard_54 : decode cX12_guard 54 = .ok (.ifCond .ne 5, 3) := by decide +kernel
theorem dX12_guard_57 : decode cX12_guard 57 = .ok (.iconst (-1), 1) := by decide +kernel
theorem dX12_guard_58 : decode cX12_guard 58 = .ok (.ireturn, 1) := by decide +kernel
theorem dX12_guard_59 : decode cX12_guard 59 = .ok (.iconst 4, 1) := by decide +kernel
theorem dX12_guard_60 : decode cX12_guard 60 = .ok (.istore 5, 2) := by decide +kernel
theorem dX12_guard_62 : decode cX12_guard 62 = .ok (.aload_n 0, 1) := by decide +kernel
theorem dX12_guard_63 : decode cX12_guard 63 = .ok (.getfield 60, 3) := by decide +kernel
theorem dX12_guard_66 : decode cX12_guard 66 = .ok (.iload_n 2, 1) := by decide +kernel
theorem dX12_guard_67 : decode cX12_guard 67 = .ok (.iaload, 1) := by decide +kernel
theorem dX12_guard_68 : decode cX12_guard 68 = .ok (.istore 6, 2) := by decide +kernel
theorem dX12_guard_70 : decode cX12_guard 70 = .ok (.iload 6, 2) := by decide +kernel
theorem dX12_guard_72 : decode cX12_guard 72 = .ok (.aload_n 0, 1) := by decide +kernel
theorem dX12_guard_73 : decode cX12_guard 73 = .ok (.getfield 305, 3) := by decide +kernel
theorem dX12_guard_76 : decode cX12_guard 76 = .ok (.if_icmp .ge 38, 3) := by decide +kernel
theorem dX12_guard_79 : decode cX12_guard 79 = .ok (.iload 5, 2) := by decide +kernel
theorem dX12_guard_81 : decode cX12_guard 81 = .ok (.iconst 1, 1) := by decide +kernel
theorem dX12_guard_82 : decode cX12_guard 82 = .ok (.if_icmp .le 32, 3) := by decide +kernel
theorem dX12_guard_85 : decode cX12_guard 85 = .ok (.aload_n 0, 1) := by decide +kernel
theorem dX12_guard_86 : decode cX12_guard 86 = .ok (.iload 4, 2) := by decide +kernel
theorem dX12_guard_88 : decode cX12_guard 88 = .ok (.iload 6, 2) := by decide +kernel
theorem dX12_guard_90 : decode cX12_guard 90 = .ok (.iload 6, 2) := by decide +kernel
theorem dX12_guard_92 : decode cX12_guard 92 = .ok (.iload 6, 2) := by decide +kernel
theorem dX12_guard_94 : decode cX12_guard 94 = .ok (.invokevirtual 367, 3) := by decide +kernel
theorem dX12_isFixedWithout_0 : decode cX12_isFixedWithout 0 = .ok (.aload_n 0, 1) := by decide +kernel
theorem dX12_isFixedWithout_1 : decode cX12_isFixedWithout 1 = .ok (.getfield 305, 3) := by decide +kernel
theorem dX12_isFixedWithout_4 : decode cX12_isFixedWithout 4 = .ok (.istore 5, 2) := by decide +kernel
theorem dX12_isFixedWithout_6 : decode cX12_isFixedWithout 6 = .ok (.iconst 0, 1) := by decide +kernel
theorem dX12_isFixedWithout_7 : decode cX12_isFixedWithout 7 = .ok (.istore 6, 2) := by decide +kernel
theorem dX12_isFixedWithout_9 : decode cX12_isFixedWithout 9 = .ok (.iconst 0, 1) := by decide +kernel
theorem dX12_isFixedWithout_10 : decode cX12_isFixedWithout 10 = .ok (.istore 7, 2) := by decide +kernel
theorem dX12_isFixedWithout_12 : decode cX12_isFixedWithout 12 = .ok (.iload 7, 2) := by decide +kernel
theorem dX12_isFixedWithout_14 : decode cX12_isFixedWithout 14 = .ok (.iload 5, 2) := by decide +kernel
theorem dX12_isFixedWithout_16 : decode cX12_isFixedWithout 16 = .ok (.if_icmp .ge 87, 3) := by decide +kernel
theorem dX12_isFixedWithout_19 : decode cX12_isFixedWithout 19 = .ok (.aload_n 0, 1) := by decide +kernel
theorem dX12_isFixedWithout_20 : decode cX12_isFixedWithout 20 = .ok (.getfield 115, 3) := by decide +kernel
theorem dX12_isFixedWithout_23 : decode cX12_isFixedWithout 23 = .ok (.iload 7, 2) := by decide +kernel
theorem dX12_isFixedWithout_25 : decode cX12_isFixedWithout 25 = .ok (.aload_n 0, 1) := by decide +kernel
theorem dX12_isFixedWithout_26 : decode cX12_isFixedWithout 26 = .ok (.getfield 91, 3) := by decide +kernel
theorem dX12_isFixedWithout_29 : decode cX12_isFixedWithout 29 = .ok (.iload 7, 2) := by decide +kernel
theorem dX12_isFixedWithout_31 : decode cX12_isFixedWithout 31 = .ok (.iaload, 1) := by decide +kernel
theorem dX12_isFixedWithout_32 : decode cX12_isFixedWithout 32 = .ok (.iastore, 1) := by decide +kernel
theorem dX12_isFixedWithout_33 : decode cX12_isFixedWithout 33 = .ok (.aload_n 0, 1) := by decide +kernel
theorem dX12_isFixedWithout_34 : decode cX12_isFixedWithout 34 = .ok (.getfield 118, 3) := by decide +kernel
theorem dX12_isFixedWithout_37 : decode cX12_isFixedWithout 37 = .ok (.iload 7, 2) := by decide +kernel
theorem dX12_isFixedWithout_39 : decode cX12_isFixedWithout 39 = .ok (.aload_n 0, 1) := by decide +kernel
theorem dX12_isFixedWithout_40 : decode cX12_isFixedWithout 40 = .ok (.getfield 94, 3) := by decide +kernel
theorem dX12_isFixedWithout_43 : decode cX12_isFixedWithout 43 = .ok (.iload 7, 2) := by decide +kernel
theorem dX12_isFixedWithout_45 : decode cX12_isFixedWithout 45 = .ok (.iaload, 1) := by decide +kernel
theorem dX12_isFixedWithout_46 : decode cX12_isFixedWithout 46 = .ok (.iastore, 1) := by decide +kernel
theorem dX12_isFixedWithout_47 : decode cX12_isFixedWithout 47 = .ok (.iload 7, 2) := by decide +kernel
theorem dX12_isFixedWithout_49 : decode cX12_isFixedWithout 49 = .ok (.iload_n 2, 1) := by decide +kernel
theorem dX12_isFixedWithout_50 : decode cX12_isFixedWithout 50 = .ok (.if_icmp .eq 47, 3) := by decide +kernel
theorem dX12_isFixedWithout_53 : decode cX12_isFixedWithout 53 = .ok (.iload 7, 2) := by decide +kernel
theorem dX12_isFixedWithout_55 : decode cX12_isFixedWithout 55 = .ok (.iload_n 3, 1) := by decide +kernel
theorem dX12_isFixedWithout_56 : decode cX12_isFixedWithout 56 = .ok (.if_icmp .eq 41, 3) := by decide +kernel
theorem dX12_isFixedWithout_59 : decode cX12_isFixedWithout 59 = .ok (.iload 7, 2) := by decide +kernel
theorem dX12_isFixedWithout_61 : decode cX12_isFixedWithout 61 = .ok (.iload 4, 2) := by decide +kernel
theorem dX12_isFixedWithout_63 : decode cX12_isFixedWithout 63 = .ok (.if_icmp .eq 34, 3) := by decide +kernel
theorem dX12_isFixedWithout_66 : decode cX12_isFixedWithout 66 = .ok (.aload_n 0, 1) := by decide +kernel
theorem dX12_isFixedWithout_67 : decode cX12_isFixedWithout 67 = .ok (.getfield 91, 3) := by decide +kernel
theorem dX12_isFixedWithout_70 : decode cX12_isFixedWithout 70 = .ok (.iload 6, 2) := by decide +kernel
theorem dX12_isFixedWithout_72 : decode cX12_isFixedWithout 72 = .ok (.aload_n 0, 1) := by decide +kernel
theorem dX12_isFixedWithout_73 : decode cX12_isFixedWithout 73 = .ok (.getfield 91, 3) := by decide +kernel
theorem dX12_isFixedWithout_76 : decode cX12_isFixedWithout 76 = .ok (.iload 7, 2) := by decide +kernel
theorem dX12_isFixedWithout_78 : decode cX12_isFixedWithout 78 = .ok (.iaload, 1) := by decide +kernel
theorem dX12_isFixedWithout_79 : decode cX12_isFixedWithout 79 = .ok (.iastore, 1) := by decide +kernel
theorem dX12_isFixedWithout_80 : decode cX12_isFixedWithout 80 = .ok (.aload_n 0, 1) := by decide +kernel
theorem dX12_isFixedWithout_81 : decode cX12_isFixedWithout 81 = .ok (.getfield 94, 3) := by decide +kernel
theorem dX12_isFixedWithout_84 : decode cX12_isFixedWithout 84 = .ok (.iload 6, 2) := by decide +kernel
theorem dX12_isFixedWithout_86 : decode cX12_isFixedWithout 86 = .ok (.aload_n 0, 1) := by decide +kernel
theorem dX12_isFixedWithout_87 : decode cX12_isFixedWithout 87 = .ok (.getfield 94, 3) := by decide +kernel
theorem dX12_isFixedWithout_90 : decode cX12_isFixedWithout 90 = .ok (.iload 7, 2) := by decide +kernel
theorem dX12_isFixedWithout_92 : decode cX12_isFixedWithout 92 = .ok (.iaload, 1) := by decide +kernel
theorem dX12_isFixedWithout_93 : decode cX12_isFixedWithout 93 = .ok (.iastore, 1) := by decide +kernel
theorem dX12_isFixedWithout_94 : decode cX12_isFixedWithout 94 = .ok (.iinc 6 1, 3) := by decide +kernel
theorem dX12_isFixedWithout_97 : decode cX12_isFixedWithout 97 = .ok (.iinc 7 1, 3) := by decide +kernel
theorem dX12_isFixedWithout_100 : decode cX12_isFixedWithout 100 = .ok (.goto (-88), 3) := by decide +kernel
theorem dX12_isFixedWithout_103 : decode cX12_isFixedWithout 103 = .ok (.aload_n 0, 1) := by decide +kernel
theorem dX12_isFixedWithout_104 : decode cX12_isFixedWithout 104 = .ok (.iload 6, 2) := by decide +kernel
theorem dX12_isFixedWithout_106 : decode cX12_isFixedWithout 106 = .ok (.putfield 305, 3) := by decide +kernel
theorem dX12_isFixedWithout_109 : decode cX12_isFixedWithout 109 = .ok (.aload_n 0, 1) := by decide +kernel
theorem dX12_isFixedWithout_110 : decode cX12_isFixedWithout 110 = .ok (.invokevirtual 346, 3) := by decide +kernel
theorem dX12_isFixedWithout_113 : decode cX12_isFixedWithout 113 = .ok (.aload_n 0, 1) := by decide +kernel
theorem dX12_isFixedWithout_114 : decode cX12_isFixedWithout 114 = .ok (.iload_n 1, 1) := by decide +kernel
theorem dX12_isFixedWithout_115 : decode cX12_isFixedWithout 115 = .ok (.invokevirtual 330, 3) := by decide +kernel
theorem dX12_isFixedWithout_118 : decode cX12_isFixedWithout 118 = .ok (.istore 7, 2) := by decide +kernel
theorem dX12_isFixedWithout_120 : decode cX12_isFixedWithout 120 = .ok (.aload_n 0, 1) := by decide +kernel
theorem dX12_isFixedWithout_121 : decode cX12_isFixedWithout 121 = .ok (.iload 5, 2) := by decide +kernel
theorem dX12_isFixedWithout_123 : decode cX12_isFixedWithout 123 = .ok (.putfield 305, 3) := by decide +kernel
theorem dX12_isFixedWithout_126 : decode cX12_isFixedWithout 126 = .ok (.iconst 0, 1) := by decide +kernel
theorem dX12_isFixedWithout_127 : decode cX12_isFixedWithout 127 = .ok (.istore 8, 2) := by decide +kernel
theorem dX12_isFixedWithout_129 : decode cX12_isFixedWithout 129 = .ok (.iload 8, 2) := by decide +kernel
theorem dX12_isFixedWithout_131 : decode cX12_isFixedWithout 131 = .ok (.iload 5, 2) := by decide +kernel
theorem dX12_isFixedWithout_133 : decode cX12_isFixedWithout 133 = .ok (.if_icmp .ge 37, 3) := by decide +kernel
theorem dX12_isFixedWithout_136 : decode cX12_isFixedWithout 136 = .ok (.aload_n 0, 1) := by decide +kernel
theorem dX12_isFixedWithout_137 : decode cX12_isFixedWithout 137 = .ok (.getfield 91, 3) := by decide +kernel
theorem dX12_isFixedWithout_140 : decode cX12_isFixedWithout 140 = .ok (.iload 8, 2) := by decide +kernel
theorem dX12_isFixedWithout_142 : decode cX12_isFixedWithout 142 = .ok (.aload_n 0, 1) := by decide +kernel
theorem dX12_isFixedWithout_143 : decode cX12_isFixedWithout 143 = .ok (.getfield 115, 3) := by decide +kernel
theorem dX12_isFixedWithout_146 : decode cX12_isFixedWithout 146 = .ok (.iload 8, 2) := by decide +kernel
theorem dX12_isFixedWithout_148 : decode cX12_isFixedWithout 148 = .ok (.iaload, 1) := by decide +kernel
theorem dX12_isFixedWithout_149 : decode cX12_isFixedWithout 149 = .ok (.iastore, 1) := by decide +kernel
theorem dX12_isFixedWithout_150 : decode cX12_isFixedWithout 150 = .ok (.aload_n 0, 1) := by decide +kernel
theorem dX12_isFixedWithout_151 : decode cX12_isFixedWithout 151 = .ok (.getfield 94, 3) := by decide +kernel
theorem dX12_isFixedWithout_154 : decode cX12_isFixedWithout 154 = .ok (.iload 8, 2) := by decide +kernel
theorem dX12_isFixedWithout_156 : decode cX12_isFixedWithout 156 = .ok (.aload_n 0, 1) := by decide +kernel
theorem dX12_isFixedWithout_157 : decode cX12_isFixedWithout 157 = .ok (.getfield 118, 3) := by decide +kernel
theorem dX12_isFixedWithout_160 : decode cX12_isFixedWithout 160 = .ok (.iload 8, 2) := by decide +kernel
theorem dX12_isFixedWithout_162 : decode cX12_isFixedWithout 162 = .ok (.iaload, 1) := by decide +kernel
theorem dX12_isFixedWithout_163 : decode cX12_isFixedWithout 163 = .ok (.iastore, 1) := by decide +kernel
theorem dX12_isFixedWithout_164 : decode cX12_isFixedWithout 164 = .ok (.iinc 8 1, 3) := by decide +kernel
theorem dX12_isFixedWithout_167 : decode cX12_isFixedWithout 167 = .ok (.goto (-38), 3) := by decide +kernel
theorem dX12_isFixedWithout_170 : decode cX12_isFixedWithout 170 = .ok (.iload 7, 2) := by decide +kernel
theorem dX12_isFixedWithout_172 : decode cX12_isFixedWithout 172 = .ok (.ireturn, 1) := by decide +kernel
set_option maxHeartbeats 4000000 in
set_option maxRecDepth 100000 in
theorem s_X12_isFixedWithout {P : PP} {a0 : Nat} {a1 : Int32} {a2 : Int32} {a3 : Int32} {a4 : Int32} (I : IM P a0) (ha1 : 0 ≤ a1.toInt ∧ a1.toInt ≤ 19) (hW : MW P a0) : CtrI yX12_isFixedWithout cX12_isFixedWithout 9 (some Jvm.ClassFile.FieldType.boolean) ({ frames := 2, cells := 0, slots := 0, locals := 128 } : Room) 0 0 P [.ref a0, .int a1, .int a2, .int a3, .int a4] (fun r P2 => IM P2 a0 ∧ EM [28, 29, 30, 35, 36, 37, 38, 41, 42] a0 P P2 ∧ MW P2 a0 ∧ (0 ≤ r.toInt ∧ r.toInt ≤ 1)) := by
  refine enI (lv := [(0, .ref a0), (1, .int a1), (2, .int a2), (3, .int a3), (4, .int a4)]) (by decide) (Nat.le_of_ble_eq_true rfl) rfl (fun E D cy C Ci0 ret => ?_)
  have ha0 := I.2.1
  have J129 : ∀ (n129 : Nat) (P129 : PP) (v129_5 : Int32) (v129_7 : Int32) (v129_8 : Int32), (64 - v129_8.toInt).toNat < n129 → (IM P129 a0) → (EM [28, 29, 30, 35, 36, 37, 38, 41, 42] a0 P P129) → (MW P129 a0) → (0 ≤ v129_5.toInt ∧ v129_5.toInt ≤ 64) → (0 ≤ v129_7.toInt ∧ v129_7.toInt ≤ 1) → (0 ≤ v129_8.toInt ∧ v129_8.toInt ≤ 64) → G E ({ frames := 2, cells := 0, slots := 0, locals := 128 } : Room) D cy 9 P129 0 0 129 [(0, .ref a0), (5, .int v129_5), (7, .int v129_7), (8, .int v129_8)] [] := by
    intro n129
    induction n129 with
    | zero => intro P129 v129_5 v129_7 v129_8 hm129 I129 X129 W129 hv129_5 hv129_7 hv129_8; omega
    | succ n129 ih129 =>
      intro P129 v129_5 v129_7 v129_8 hm129 I129 X129 W129 hv129_5 hv129_7 hv129_8
      have h59563 := X129.at ha0
      refine g_iload C dX12_isFixedWithout_129 3 rfl ?_
      refine g_iload C dX12_isFixedWithout_131 1 rfl ?_
      refine b_icmp_ge C 170 dX12_isFixedWithout_133 (by decide) (fun h59564 => ?_) (fun h59564 => ?_)
      · have h59564 : v129_5.toInt ≤ v129_8.toInt := h59564
        refine g_iload C dX12_isFixedWithout_170 2 rfl ?_
        exact ret _ _ _ _ _ _ dX12_isFixedWithout_172 (nar_b (b01 (by omega))) (by decide) (by decide) ⟨I129, X129, W129, (by omega)⟩
      · have h59564 : v129_8.toInt < v129_5.toInt := h59564
        refine g_aload_n C dX12_isFixedWithout_136 rfl 0 rfl ?_
        obtain ⟨b59565, e59566, h59567⟩ := I129.fld (h59563) 29 13 64 rfl
        refine g_getR C fi_X12_91 rfl e59566 (h59563).1 (h59563).2 dX12_isFixedWithout_137 ?_
        refine g_iload C dX12_isFixedWithout_140 3 rfl ?_
        refine g_aload_n C dX12_isFixedWithout_142 rfl 0 rfl ?_
        obtain ⟨b59568, e59569, h59570⟩ := I129.fld (h59563) 41 13 64 rfl
        refine g_getR C fi_X12_115 rfl e59569 (h59563).1 (h59563).2 dX12_isFixedWithout_143 ?_
        refine g_iload C dX12_isFixedWithout_146 3 rfl ?_
        refine g_iald (j := (v129_8.toInt.toNat)) C h59570.1 h59570.2.1 (ix_in h59570.2.2 (by omega)) dX12_isFixedWithout_148 ?_
        refine g_iast (j := (v129_8.toInt.toNat)) C h59567.1 h59567.2.1 (ix_in h59567.2.2 (by omega)) dX12_isFixedWithout_149 ?_
        refine gqW (ks := [29]) (I129.setA e59566 h59567 (by decide) (arOk.none rfl)) (EM.setA I129 e59566 rfl (by decide)) (fun Y59571 Iy59572 Xy59573 w59574 => ?_)
        have w59574 : (pI Y59571 b59565 (v129_8.toInt.toNat)).toInt = (pI P129 b59568 (v129_8.toInt.toNat)).toInt := w59574
        have W59575 := W129.keep I129 Xy59573 (by decide) (by decide) (by decide)
        have Xz59576 : EM [28, 29, 30, 35, 36, 37, 38, 41, 42] a0 P Y59571 := EM.tr ha0 X129 (Xy59573.mono (by decide))
        have e59577 := Xy59573.ref h59563 (by decide) e59566
        have h59578 := Xy59573.at h59563
        have h59579 := Xy59573.ar h59567
        refine g_aload_n C dX12_isFixedWithout_150 rfl 0 rfl ?_
        obtain ⟨b59580, e59581, h59582⟩ := Iy59572.fld (h59578) 30 13 64 rfl
        refine g_getR C fi_X12_94 rfl e59581 (h59578).1 (h59578).2 dX12_isFixedWithout_151 ?_
        refine g_iload C dX12_isFixedWithout_154 3 rfl ?_
        refine g_aload_n C dX12_isFixedWithout_156 rfl 0 rfl ?_
        obtain ⟨b59583, e59584, h59585⟩ := Iy59572.fld (h59578) 42 13 64 rfl
        refine g_getR C fi_X12_118 rfl e59584 (h59578).1 (h59578).2 dX12_isFixedWithout_157 ?_
        refine g_iload C dX12_isFixedWithout_160 3 rfl ?_
        refine g_iald (j := (v129_8.toInt.toNat)) C h59585.1 h59585.2.1 (ix_in h59585.2.2 (by omega)) dX12_isFixedWithout_162 ?_
        refine g_iast (j := (v129_8.toInt.toNat)) C h59582.1 h59582.2.1 (ix_in h59582.2.2 (by omega)) dX12_isFixedWithout_163 ?_
        refine gqW (ks := [30]) (Iy59572.setA e59581 h59582 (by decide) (arOk.none rfl)) (EM.setA Iy59572 e59581 rfl (by decide)) (fun Y59586 Iy59587 Xy59588 w59589 => ?_)
        have w59589 : (pI Y59586 b59580 (v129_8.toInt.toNat)).toInt = (pI Y59571 b59583 (v129_8.toInt.toNat)).toInt := w59589
        have q59590 := Xy59588.keepA e59577 (by decide) rfl (v129_8.toInt.toNat)
        have W59591 := W59575.keep Iy59572 Xy59588 (by decide) (by decide) (by decide)
        have Xz59592 : EM [28, 29, 30, 35, 36, 37, 38, 41, 42] a0 P Y59586 := EM.tr ha0 Xz59576 (Xy59588.mono (by decide))
        have e59593 := Xy59588.ref h59578 (by decide) e59577
        have e59594 := Xy59588.ref h59578 (by decide) e59581
        have h59595 := Xy59588.at h59578
        have h59596 := Xy59588.ar h59579
        have h59597 := Xy59588.ar h59582
        refine s_iinc (lv0 := [(0, .ref a0), (5, .int v129_5), (7, .int v129_7)]) (m := 1) C dX12_isFixedWithout_164 3 rfl (by decide) rfl (by decide) (by omega) (fun z59598 h59599 => ?_)
        have h59599 : z59598.toInt = v129_8.toInt + 1 := h59599
        refine g_goto C 129 dX12_isFixedWithout_167 (by decide) ?_
        refine g_lv (lv' := [(0, .ref a0), (5, .int v129_5), (7, .int v129_7), (8, .int z59598)]) [1, 2, 3, 0] rfl ?_
        exact ih129 Y59586 v129_5 v129_7 z59598 (by omega) Iy59587 Xz59592 W59591 (by omega) (by omega) (by omega)
  have J12 : ∀ (n12 : Nat) (P12 : PP) (v12_5 : Int32) (v12_6 : Int32) (v12_7 : Int32), (64 - v12_7.toInt).toNat < n12 → (IM P12 a0) → (EM [28, 29, 30, 35, 36, 37, 38, 41, 42] a0 P P12) → (MW P12 a0) → (0 ≤ v12_5.toInt ∧ v12_5.toInt ≤ 64) → (0 ≤ v12_6.toInt ∧ v12_6.toInt ≤ 64) → (0 ≤ v12_7.toInt ∧ v12_7.toInt ≤ 64) → (v12_6.toInt ≤ v12_7.toInt) → G E ({ frames := 2, cells := 0, slots := 0, locals := 128 } : Room) D cy 9 P12 0 0 12 [(0, .ref a0), (1, .int a1), (2, .int a2), (3, .int a3), (4, .int a4), (5, .int v12_5), (6, .int v12_6), (7, .int v12_7)] [] := by
    intro n12
    induction n12 with
    | zero => intro P12 v12_5 v12_6 v12_7 hm12 I12 X12 W12 hv12_5 hv12_6 hv12_7 rel12_0; omega
    | succ n12 ih12 =>
      intro P12 v12_5 v12_6 v12_7 hm12 I12 X12 W12 hv12_5 hv12_6 hv12_7 rel12_0
      have h59600 := X12.at ha0
      have J97 : ∀ (P97 : PP) (v97_6 : Int32), (IM P97 a0) → (EM [28, 29, 30, 35, 36, 37, 38, 41, 42] a0 P P97) → (MW P97 a0) → (1 ≤ v12_5.toInt ∧ v12_5.toInt ≤ 64) → (0 ≤ v97_6.toInt ∧ v97_6.toInt ≤ 64) → (0 ≤ v12_7.toInt ∧ v12_7.toInt ≤ 63) → (v97_6.toInt ≤ v12_7.toInt + 1) → G E ({ frames := 2, cells := 0, slots := 0, locals := 128 } : Room) D cy 9 P97 0 0 97 [(0, .ref a0), (1, .int a1), (2, .int a2), (3, .int a3), (4, .int a4), (5, .int v12_5), (6, .int v97_6), (7, .int v12_7)] [] := by
        intro P97 v97_6 I97 X97 W97 hv97_5 hv97_6 hv97_7 rel97_0
        have h59601 := X97.at ha0
        refine s_iinc (lv0 := [(0, .ref a0), (1, .int a1), (2, .int a2), (3, .int a3), (4, .int a4), (5, .int v12_5), (6, .int v97_6)]) (m := 1) C dX12_isFixedWithout_97 7 rfl (by decide) rfl (by decide) (by omega) (fun z59602 h59603 => ?_)
        have h59603 : z59602.toInt = v12_7.toInt + 1 := h59603
        refine g_goto C 12 dX12_isFixedWithout_100 (by decide) ?_
        refine g_lv (lv' := [(0, .ref a0), (1, .int a1), (2, .int a2), (3, .int a3), (4, .int a4), (5, .int v12_5), (6, .int v97_6), (7, .int z59602)]) [1, 2, 3, 4, 5, 6, 7, 0] rfl ?_
        exact ih12 P97 v12_5 v97_6 z59602 (by omega) I97 X97 W97 (by omega) (by omega) (by omega) (by show v97_6.toInt ≤ z59602.toInt; omega)
      refine g_iload C dX12_isFixedWithout_12 7 rfl ?_
      refine g_iload C dX12_isFixedWithout_14 5 rfl ?_
      refine b_icmp_ge C 103 dX12_isFixedWithout_16 (by decide) (fun h59604 => ?_) (fun h59604 => ?_)
      · have h59604 : v12_5.toInt ≤ v12_7.toInt := h59604
        refine g_aload_n C dX12_isFixedWithout_103 rfl 0 rfl ?_
        refine g_iload C dX12_isFixedWithout_104 6 rfl ?_
        refine g_putI C fi_X12_305 rfl (h59600).1 (h59600).2 dX12_isFixedWithout_106 ?_
        refine gqW (ks := [28]) (I12.setI (rgOk.of rfl (by omega))) (EM.setI I12 (by decide)) (fun Y59605 Iy59606 Xy59607 w59608 => ?_)
        have w59608 : (pI Y59605 a0 28).toInt = v12_6.toInt := w59608
        have W59609 := W12.keep I12 Xy59607 (by decide) (by decide) (by decide)
        have Xz59610 : EM [28, 29, 30, 35, 36, 37, 38, 41, 42] a0 P Y59605 := EM.tr ha0 X12 (Xy59607.mono (by decide))
        have h59611 := Xy59607.at h59600
        refine g_aload_n C dX12_isFixedWithout_109 rfl 0 rfl ?_
        refine g_callVV (rest := []) C mv_X12_346 [] (s_X12_findSolved Iy59606 W59609) (h59611).1 (h59611).2 rfl rfl (by decide) (Nat.le_of_ble_eq_true rfl) (by decide) dX12_isFixedWithout_110 (fun Y59613 h59614 => ?_)
        obtain ⟨Iy59615, Xy59616, W59617⟩ := h59614
        have q59618 := Xy59616.keepF 28 (by decide)
        have Xz59619 : EM [28, 29, 30, 35, 36, 37, 38, 41, 42] a0 P Y59613 := EM.tr ha0 Xz59610 (Xy59616.mono (by decide))
        have h59620 := Xy59616.at h59611
        refine g_aload_n C dX12_isFixedWithout_113 rfl 0 rfl ?_
        refine g_iload_n C dX12_isFixedWithout_114 rfl 1 rfl ?_
        refine g_callVI (rest := []) C mv_X12_330 [.int a1] (s_X12_isFixed Iy59615 (by omega) W59617) (h59620).1 (h59620).2 rfl rfl (by decide) (Nat.le_of_ble_eq_true rfl) (by decide) dX12_isFixedWithout_115 (fun r59621 Y59622 h59623 => ?_)
        obtain ⟨rfl, h59623⟩ := h59623
        have h59623 : 0 ≤ r59621.toInt ∧ r59621.toInt ≤ 1 := h59623
        refine g_istore (lv' := [(7, .int r59621), (0, .ref a0), (1, .int a1), (2, .int a2), (3, .int a3), (4, .int a4), (5, .int v12_5), (6, .int v12_6)]) C dX12_isFixedWithout_118 (by decide) rfl ?_
        refine g_aload_n C dX12_isFixedWithout_120 rfl 1 rfl ?_
        refine g_iload C dX12_isFixedWithout_121 6 rfl ?_
        refine g_putI C fi_X12_305 rfl (h59620).1 (h59620).2 dX12_isFixedWithout_123 ?_
        refine gqW (ks := [28]) (Iy59615.setI (rgOk.of rfl (by omega))) (EM.setI Iy59615 (by decide)) (fun Y59624 Iy59625 Xy59626 w59627 => ?_)
        have w59627 : (pI Y59624 a0 28).toInt = v12_5.toInt := w59627
        have W59628 := W59617.keep Iy59615 Xy59626 (by decide) (by decide) (by decide)
        have Xz59629 : EM [28, 29, 30, 35, 36, 37, 38, 41, 42] a0 P Y59624 := EM.tr ha0 Xz59619 (Xy59626.mono (by decide))
        have h59630 := Xy59626.at h59620
        refine g_iconst (v := 0) C dX12_isFixedWithout_126 (by decide) ?_
        refine g_istore (lv' := [(8, .int 0), (7, .int r59621), (0, .ref a0), (1, .int a1), (2, .int a2), (3, .int a3), (4, .int a4), (5, .int v12_5), (6, .int v12_6)]) C dX12_isFixedWithout_127 (by decide) rfl ?_
        refine g_lv (lv' := [(0, .ref a0), (5, .int v12_5), (7, .int r59621), (8, .int 0)]) [2, 7, 1, 0] rfl ?_
        exact J129 _ Y59624 v12_5 r59621 0 (Nat.lt_succ_self _) Iy59625 Xz59629 W59628 (by omega) (by omega) (by decide)
      · have h59604 : v12_7.toInt < v12_5.toInt := h59604
        refine g_aload_n C dX12_isFixedWithout_19 rfl 0 rfl ?_
        obtain ⟨b59631, e59632, h59633⟩ := I12.fld (h59600) 41 13 64 rfl
        refine g_getR C fi_X12_115 rfl e59632 (h59600).1 (h59600).2 dX12_isFixedWithout_20 ?_
        refine g_iload C dX12_isFixedWithout_23 7 rfl ?_
        refine g_aload_n C dX12_isFixedWithout_25 rfl 0 rfl ?_
        obtain ⟨b59634, e59635, h59636⟩ := I12.fld (h59600) 29 13 64 rfl
        refine g_getR C fi_X12_91 rfl e59635 (h59600).1 (h59600).2 dX12_isFixedWithout_26 ?_
        refine g_iload C dX12_isFixedWithout_29 7 rfl ?_
        refine g_iald (j := (v12_7.toInt.toNat)) C h59636.1 h59636.2.1 (ix_in h59636.2.2 (by omega)) dX12_isFixedWithout_31 ?_
        refine g_iast (j := (v12_7.toInt.toNat)) C h59633.1 h59633.2.1 (ix_in h59633.2.2 (by omega)) dX12_isFixedWithout_32 ?_
        refine gqW (ks := [41]) (I12.setA e59632 h59633 (by decide) (arOk.none rfl)) (EM.setA I12 e59632 rfl (by decide)) (fun Y59637 Iy59638 Xy59639 w59640 => ?_)
        have w59640 : (pI Y59637 b59631 (v12_7.toInt.toNat)).toInt = (pI P12 b59634 (v12_7.toInt.toNat)).toInt := w59640
        have W59641 := W12.keep I12 Xy59639 (by decide) (by decide) (by decide)
        have Xz59642 : EM [28, 29, 30, 35, 36, 37, 38, 41, 42] a0 P Y59637 := EM.tr ha0 X12 (Xy59639.mono (by decide))
        have e59643 := Xy59639.ref h59600 (by decide) e59632
        have h59644 := Xy59639.at h59600
        have h59645 := Xy59639.ar h59633
        refine g_aload_n C dX12_isFixedWithout_33 rfl 0 rfl ?_
        obtain ⟨b59646, e59647, h59648⟩ := Iy59638.fld (h59644) 42 13 64 rfl
        refine g_getR C fi_X12_118 rfl e59647 (h59644).1 (h59644).2 dX12_isFixedWithout_34 ?_
        refine g_iload C dX12_isFixedWithout_37 7 rfl ?_
        refine g_aload_n C dX12_isFixedWithout_39 rfl 0 rfl ?_
        obtain ⟨b59649, e59650, h59651⟩ := Iy59638.fld (h59644) 30 13 64 rfl
        refine g_getR C fi_X12_94 rfl e59650 (h59644).1 (h59644).2 dX12_isFixedWithout_40 ?_
        refine g_iload C dX12_isFixedWithout_43 7 rfl ?_
        refine g_iald (j := (v12_7.toInt.toNat)) C h59651.1 h59651.2.1 (ix_in h59651.2.2 (by omega)) dX12_isFixedWithout_45 ?_
        refine g_iast (j := (v12_7.toInt.toNat)) C h59648.1 h59648.2.1 (ix_in h59648.2.2 (by omega)) dX12_isFixedWithout_46 ?_
        refine gqW (ks := [42]) (Iy59638.setA e59647 h59648 (by decide) (arOk.none rfl)) (EM.setA Iy59638 e59647 rfl (by decide)) (fun Y59652 Iy59653 Xy59654 w59655 => ?_)
        have w59655 : (pI Y59652 b59646 (v12_7.toInt.toNat)).toInt = (pI Y59637 b59649 (v12_7.toInt.toNat)).toInt := w59655
        have q59656 := Xy59654.keepA e59643 (by decide) rfl (v12_7.toInt.toNat)
        have W59657 := W59641.keep Iy59638 Xy59654 (by decide) (by decide) (by decide)
        have Xz59658 : EM [28, 29, 30, 35, 36, 37, 38, 41, 42] a0 P Y59652 := EM.tr ha0 Xz59642 (Xy59654.mono (by decide))
        have e59659 := Xy59654.ref h59644 (by decide) e59643
        have e59660 := Xy59654.ref h59644 (by decide) e59647
        have h59661 := Xy59654.at h59644
        have h59662 := Xy59654.ar h59645
        have h59663 := Xy59654.ar h59648
        refine g_iload C dX12_isFixedWithout_47 7 rfl ?_
        refine g_iload_n C dX12_isFixedWithout_49 rfl 2 rfl ?_
        have u59665 := ti_rng a2
        refine b_icmp_eq C 97 dX12_isFixedWithout_50 (by decide) (fun h59664 => ?_) (fun h59664 => ?_)
        · have h59664 : v12_7.toInt = a2.toInt := congrArg Int32.toInt h59664
          exact J97 Y59652 v12_6 Iy59653 Xz59658 W59657 (by omega) (by omega) (by omega) (by show v12_6.toInt ≤ v12_7.toInt + 1; omega)
        · have h59664 : v12_7.toInt ≠ a2.toInt := ti_ne h59664
          refine g_iload C dX12_isFixedWithout_53 7 rfl ?_
          refine g_iload_n C dX12_isFixedWithout_55 rfl 3 rfl ?_
          have u59667 := ti_rng a3
          refine b_icmp_eq C 97 dX12_isFixedWithout_56 (by decide) (fun h59666 => ?_) (fun h59666 => ?_)
          · have h59666 : v12_7.toInt = a3.toInt := congrArg Int32.toInt h59666
            exact J97 Y59652 v12_6 Iy59653 Xz59658 W59657 (by omega) (by omega) (by omega) (by show v12_6.toInt ≤ v12_7.toInt + 1; omega)
          · have h59666 : v12_7.toInt ≠ a3.toInt := ti_ne h59666
            refine g_iload C dX12_isFixedWithout_59 7 rfl ?_
            refine g_iload C dX12_isFixedWithout_61 4 rfl ?_
            have u59669 := ti_rng a4
            refine b_icmp_eq C 97 dX12_isFixedWithout_63 (by decide) (fun h59668 => ?_) (fun h59668 => ?_)
            · have h59668 : v12_7.toInt = a4.toInt := congrArg Int32.toInt h59668
              exact J97 Y59652 v12_6 Iy59653 Xz59658 W59657 (by omega) (by omega) (by omega) (by show v12_6.toInt ≤ v12_7.toInt + 1; omega)
            · have h59668 : v12_7.toInt ≠ a4.toInt := ti_ne h59668
              refine g_aload_n C dX12_isFixedWithout_66 rfl 0 rfl ?_
              obtain ⟨b59670, e59671, h59672⟩ := Iy59653.fld (h59661) 29 13 64 rfl
              refine g_getR C fi_X12_91 rfl e59671 (h59661).1 (h59661).2 dX12_isFixedWithout_67 ?_
              refine g_iload C dX12_isFixedWithout_70 6 rfl ?_
              refine g_aload_n C dX12_isFixedWithout_72 rfl 0 rfl ?_
              refine g_getR C fi_X12_91 rfl e59671 (h59661).1 (h59661).2 dX12_isFixedWithout_73 ?_
              refine g_iload C dX12_isFixedWithout_76 7 rfl ?_
              refine g_iald (j := (v12_7.toInt.toNat)) C h59672.1 h59672.2.1 (ix_in h59672.2.2 (by omega)) dX12_isFixedWithout_78 ?_
              refine g_iast (j := (v12_6.toInt.toNat)) C h59672.1 h59672.2.1 (ix_in h59672.2.2 (by omega)) dX12_isFixedWithout_79 ?_
              refine gqW (ks := [29]) (Iy59653.setA e59671 h59672 (by decide) (arOk.none rfl)) (EM.setA Iy59653 e59671 rfl (by decide)) (fun Y59673 Iy59674 Xy59675 w59676 => ?_)
              have w59676 : (pI Y59673 b59670 (v12_6.toInt.toNat)).toInt = (pI Y59652 b59670 (v12_7.toInt.toNat)).toInt := w59676
              have q59677 := Xy59675.keepA e59659 (by decide) rfl (v12_7.toInt.toNat)
              have q59678 := Xy59675.keepA e59660 (by decide) rfl (v12_7.toInt.toNat)
              have W59679 := W59657.keep Iy59653 Xy59675 (by decide) (by decide) (by decide)
              have Xz59680 : EM [28, 29, 30, 35, 36, 37, 38, 41, 42] a0 P Y59673 := EM.tr ha0 Xz59658 (Xy59675.mono (by decide))
              have e59681 := Xy59675.ref h59661 (by decide) e59659
              have e59682 := Xy59675.ref h59661 (by decide) e59660
              have e59683 := Xy59675.ref h59661 (by decide) e59671
              have h59684 := Xy59675.at h59661
              have h59685 := Xy59675.ar h59662
              have h59686 := Xy59675.ar h59663
              have h59687 := Xy59675.ar h59672
              refine g_aload_n C dX12_isFixedWithout_80 rfl 0 rfl ?_
              obtain ⟨b59688, e59689, h59690⟩ := Iy59674.fld (h59684) 30 13 64 rfl
              refine g_getR C fi_X12_94 rfl e59689 (h59684).1 (h59684).2 dX12_isFixedWithout_81 ?_
              refine g_iload C dX12_isFixedWithout_84 6 rfl ?_
              refine g_aload_n C dX12_isFixedWithout_86 rfl 0 rfl ?_
              refine g_getR C fi_X12_94 rfl e59689 (h59684).1 (h59684).2 dX12_isFixedWithout_87 ?_
              refine g_iload C dX12_isFixedWithout_90 7 rfl ?_
              refine g_iald (j := (v12_7.toInt.toNat)) C h59690.1 h59690.2.1 (ix_in h59690.2.2 (by omega)) dX12_isFixedWithout_92 ?_
              refine g_iast (j := (v12_6.toInt.toNat)) C h59690.1 h59690.2.1 (ix_in h59690.2.2 (by omega)) dX12_isFixedWithout_93 ?_
              refine gqW (ks := [30]) (Iy59674.setA e59689 h59690 (by decide) (arOk.none rfl)) (EM.setA Iy59674 e59689 rfl (by decide)) (fun Y59691 Iy59692 Xy59693 w59694 => ?_)
              have w59694 : (pI Y59691 b59688 (v12_6.toInt.toNat)).toInt = (pI Y59673 b59688 (v12_7.toInt.toNat)).toInt := w59694
              have q59695 := Xy59693.keepA e59681 (by decide) rfl (v12_7.toInt.toNat)
              have q59696 := Xy59693.keepA e59682 (by decide) rfl (v12_7.toInt.toNat)
              have q59697 := Xy59693.keepA e59683 (by decide) rfl (v12_6.toInt.toNat)
              have W59698 := W59679.keep Iy59674 Xy59693 (by decide) (by decide) (by decide)
              have Xz59699 : EM [28, 29, 30, 35, 36, 37, 38, 41, 42] a0 P Y59691 := EM.tr ha0 Xz59680 (Xy59693.mono (by decide))
              have e59700 := Xy59693.ref h59684 (by decide) e59681
              have e59701 := Xy59693.ref h59684 (by decide) e59682
              have e59702 := Xy59693.ref h59684 (by decide) e59683
              have e59703 := Xy59693.ref h59684 (by decide) e59689
              have h59704 := Xy59693.at h59684
              have h59705 := Xy59693.ar h59685
              have h59706 := Xy59693.ar h59686
              have h59707 := Xy59693.ar h59687
              have h59708 := Xy59693.ar h59690
              refine s_iinc (lv0 := [(0, .ref a0), (1, .int a1), (2, .int a2), (3, .int a3), (4, .int a4), (5, .int v12_5), (7, .int v12_7)]) (m := 1) C dX12_isFixedWithout_94 6 rfl (by decide) rfl (by decide) (by omega) (fun z59709 h59710 => ?_)
              have h59710 : z59709.toInt = v12_6.toInt + 1 := h59710
              refine g_lv (lv' := [(0, .ref a0), (1, .int a1), (2, .int a2), (3, .int a3), (4, .int a4), (5, .int v12_5), (6, .int z59709), (7, .int v12_7)]) [1, 2, 3, 4, 5, 6, 0, 7] rfl ?_
              exact J97 Y59691 z59709 Iy59692 Xz59699 W59698 (by omega) (by omega) (by omega) (by show z59709.toInt ≤ v12_7.toInt + 1; omega)
  refine g_aload_n C dX12_isFixedWithout_0 rfl 0 rfl ?_
  refine g_getI C fi_X12_305 (by decide) (ha0).1 (ha0).2 dX12_isFixedWithout_1 ?_
  have h59711 := I.rg (ha0) 28 rfl
  refine g_topi (fun z59712 h59713 => ?_)
  have h59713 : z59712.toInt = (pI P a0 28).toInt := congrArg Int32.toInt h59713
  refine g_istore (lv' := [(5, .int z59712), (0, .ref a0), (1, .int a1), (2, .int a2), (3, .int a3), (4, .int a4)]) C dX12_isFixedWithout_4 (by decide) rfl ?_
  refine g_iconst (v := 0) C dX12_isFixedWithout_6 (by decide) ?_
  refine g_istore (lv' := [(6, .int 0), (5, .int z59712), (0, .ref a0), (1, .int a1), (2, .int a2), (3, .int a3), (4, .int a4)]) C dX12_isFixedWithout_7 (by decide) rfl ?_
  refine g_iconst (v := 0) C dX12_isFixedWithout_9 (by decide) ?_
  refine g_istore (lv' := [(7, .int 0), (6, .int 0), (5, .int z59712), (0, .ref a0), (1, .int a1), (2, .int a2), (3, .int a3), (4, .int a4)]) C dX12_isFixedWithout_10 (by decide) rfl ?_
  refine g_lv (lv' := [(0, .ref a0), (1, .int a1), (2, .int a2), (3, .int a3), (4, .int a4), (5, .int z59712), (6, .int 0), (7, .int 0)]) [3, 4, 5, 6, 7, 2, 1, 0] rfl ?_
  exact J12 _ P z59712 0 0 (Nat.lt_succ_self _) I EM.rf hW (by omega) (by decide) (by decide) (by show 0 ≤ 0; omega)
theorem dX12_guard_97 : decode cX12_guard 97 = .ok (.ifCond .eq 8, 3) := by decide +kernel
theorem dX12_guard_100 : decode cX12_guard 100 = .ok (.iload 5, 2) := by decide +kernel
theorem dX12_guard_102 : decode cX12_guard 102 = .ok (.goto 4, 3) := by decide +kernel
theorem dX12_guard_105 : decode cX12_guard 105 = .ok (.iconst 1, 1) := by decide +kernel
theorem dX12_guard_106 : decode cX12_guard 106 = .ok (.istore 5, 2) := by decide +kernel
theorem dX12_guard_108 : decode cX12_guard 108 = .ok (.iinc 6 1, 3) := by decide +kernel
theorem dX12_guard_111 : decode cX12_guard 111 = .ok (.goto (-41), 3) := by decide +kernel
theorem dX12_guard_114 : decode cX12_guard 114 = .ok (.aload_n 0, 1) := by decide +kernel
theorem dX12_guard_115 : decode cX12_guard 115 = .ok (.getfield 60, 3) := by decide +kernel
theorem dX12_guard_118 : decode cX12_guard 118 = .ok (.iload_n 2, 1) := by decide +kernel
theorem dX12_guard_119 : decode cX12_guard 119 = .ok (.iaload, 1) := by decide +kernel
theorem dX12_guard_120 : decode cX12_guard 120 = .ok (.istore 6, 2) := by decide +kernel
theorem dX12_guard_122 : decode cX12_guard 122 = .ok (.iload 6, 2) := by decide +kernel
theorem dX12_guard_124 : decode cX12_guard 124 = .ok (.aload_n 0, 1) := by decide +kernel
theorem dX12_guard_125 : decode cX12_guard 125 = .ok (.getfield 305, 3) := by decide +kernel
theorem dX12_guard_128 : decode cX12_guard 128 = .ok (.if_icmp .ge 65, 3) := by decide +kernel
theorem dX12_guard_131 : decode cX12_guard 131 = .ok (.iload 5, 2) := by decide +kernel
theorem dX12_guard_133 : decode cX12_guard 133 = .ok (.iconst 2, 1) := by decide +kernel
theorem dX12_guard_134 : decode cX12_guard 134 = .ok (.if_icmp .le 59, 3) := by decide +kernel
theorem dX12_guard_137 : decode cX12_guard 137 = .ok (.iload 6, 2) := by decide +kernel
theorem dX12_guard_139 : decode cX12_guard 139 = .ok (.iconst 1, 1) := by decide +kernel
theorem dX12_guard_140 : decode cX12_guard 140 = .ok (.iadd, 1) := by decide +kernel
theorem dX12_guard_141 : decode cX12_guard 141 = .ok (.istore 7, 2) := by decide +kernel
theorem dX12_guard_143 : decode cX12_guard 143 = .ok (.iload 7, 2) := by decide +kernel
theorem dX12_guard_145 : decode cX12_guard 145 = .ok (.aload_n 0, 1) := by decide +kernel
theorem dX12_guard_146 : decode cX12_guard 146 = .ok (.getfield 305, 3) := by decide +kernel
theorem dX12_guard_149 : decode cX12_guard 149 = .ok (.if_icmp .ge 38, 3) := by decide +kernel
theorem dX12_guard_152 : decode cX12_guard 152 = .ok (.iload 5, 2) := by decide +kernel
theorem dX12_guard_154 : decode cX12_guard 154 = .ok (.iconst 2, 1) := by decide +kernel
theorem dX12_guard_155 : decode cX12_guard 155 = .ok (.if_icmp .le 32, 3) := by decide +kernel
theorem dX12_guard_158 : decode cX12_guard 158 = .ok (.aload_n 0, 1) := by decide +kernel
theorem dX12_guard_159 : decode cX12_guard 159 = .ok (.iload 4, 2) := by decide +kernel
theorem dX12_guard_161 : decode cX12_guard 161 = .ok (.iload 6, 2) := by decide +kernel
theorem dX12_guard_163 : decode cX12_guard 163 = .ok (.iload 7, 2) := by decide +kernel
theorem dX12_guard_165 : decode cX12_guard 165 = .ok (.iload 7, 2) := by decide +kernel
theorem dX12_guard_167 : decode cX12_guard 167 = .ok (.invokevirtual 367, 3) := by decide +kernel
theorem dX12_guard_170 : decode cX12_guard 170 = .ok (.ifCond .eq 8, 3) := by decide +kernel
theorem dX12_guard_173 : decode cX12_guard 173 = .ok (.iload 5, 2) := by decide +kernel
theorem dX12_guard_175 : decode cX12_guard 175 = .ok (.goto 4, 3) := by decide +kernel
theorem dX12_guard_178 : decode cX12_guard 178 = .ok (.iconst 2, 1) := by decide +kernel
theorem dX12_guard_179 : decode cX12_guard 179 = .ok (.istore 5, 2) := by decide +kernel
theorem dX12_guard_181 : decode cX12_guard 181 = .ok (.iinc 7 1, 3) := by decide +kernel
theorem dX12_guard_184 : decode cX12_guard 184 = .ok (.goto (-41), 3) := by decide +kernel
theorem dX12_guard_187 : decode cX12_guard 187 = .ok (.iinc 6 1, 3) := by decide +kernel
theorem dX12_guard_190 : decode cX12_guard 190 = .ok (.goto (-68), 3) := by decide +kernel
theorem dX12_guard_193 : decode cX12_guard 193 = .ok (.aload_n 0, 1) := by decide +kernel
theorem dX12_guard_194 : decode cX12_guard 194 = .ok (.getfield 60, 3) := by decide +kernel
theorem dX12_guard_197 : decode cX12_guard 197 = .ok (.iload_n 2, 1) := by decide +kernel
theorem dX12_guard_198 : decode cX12_guard 198 = .ok (.iaload, 1) := by decide +kernel
theorem dX12_guard_199 : decode cX12_guard 199 = .ok (.istore 6, 2) := by decide +kernel
theorem dX12_guard_201 : decode cX12_guard 201 = .ok (.iload 6, 2) := by decide +kernel
theorem dX12_guard_203 : decode cX12_guard 203 = .ok (.aload_n 0, 1) := by decide +kernel
theorem dX12_guard_204 : decode cX12_guard 204 = .ok (.getfield 305, 3) := by decide +kernel
theorem dX12_guard_207 : decode cX12_guard 207 = .ok (.if_icmp .ge 92, 3) := by decide +kernel
theorem dX12_guard_210 : decode cX12_guard 210 = .ok (.iload 5, 2) := by decide +kernel
theorem dX12_guard_212 : decode cX12_guard 212 = .ok (.iconst 3, 1) := by decide +kernel
theorem dX12_guard_213 : decode cX12_guard 213 = .ok (.if_icmp .le 86, 3) := by decide +kernel
theorem dX12_guard_216 : decode cX12_guard 216 = .ok (.iload 6, 2) := by decide +kernel
theorem dX12_guard_218 : decode cX12_guard 218 = .ok (.iconst 1, 1) := by decide +kernel
theorem dX12_guard_219 : decode cX12_guard 219 = .ok (.iadd, 1) := by decide +kernel
theorem dX12_guard_220 : decode cX12_guard 220 = .ok (.istore 7, 2) := by decide +kernel
theorem dX12_guard_222 : decode cX12_guard 222 = .ok (.iload 7, 2) := by decide +kernel
theorem dX12_guard_224 : decode cX12_guard 224 = .ok (.aload_n 0, 1) := by decide +kernel
theorem dX12_guard_225 : decode cX12_guard 225 = .ok (.getfield 305, 3) := by decide +kernel
theorem dX12_guard_228 : decode cX12_guard 228 = .ok (.if_icmp .ge 65, 3) := by decide +kernel
theorem dX12_guard_231 : decode cX12_guard 231 = .ok (.iload 5, 2) := by decide +kernel
theorem dX12_guard_233 : decode cX12_guard 233 = .ok (.iconst 3, 1) := by decide +kernel
theorem dX12_guard_234 : decode cX12_guard 234 = .ok (.if_icmp .le 59, 3) := by decide +kernel
theorem dX12_guard_237 : decode cX12_guard 237 = .ok (.iload 7, 2) := by decide +kernel
theorem dX12_guard_239 : decode cX12_guard 239 = .ok (.iconst 1, 1) := by decide +kernel
theorem dX12_guard_240 : decode cX12_guard 240 = .ok (.iadd, 1) := by decide +kernel
theorem dX12_guard_241 : decode cX12_guard 241 = .ok (.istore 8, 2) := by decide +kernel
theorem dX12_guard_243 : decode cX12_guard 243 = .ok (.iload 8, 2) := by decide +kernel
theorem dX12_guard_245 : decode cX12_guard 245 = .ok (.aload_n 0, 1) := by decide +kernel
theorem dX12_guard_246 : decode cX12_guard 246 = .ok (.getfield 305, 3) := by decide +kernel
theorem dX12_guard_249 : decode cX12_guard 249 = .ok (.if_icmp .ge 38, 3) := by decide +kernel
theorem dX12_guard_252 : decode cX12_guard 252 = .ok (.iload 5, 2) := by decide +kernel
theorem dX12_guard_254 : decode cX12_guard 254 = .ok (.iconst 3, 1) := by decide +kernel
theorem dX12_guard_255 : decode cX12_guard 255 = .ok (.if_icmp .le 32, 3) := by decide +kernel
theorem dX12_guard_258 : decode cX12_guard 258 = .ok (.aload_n 0, 1) := by decide +kernel
theorem dX12_guard_259 : decode cX12_guard 259 = .ok (.iload 4, 2) := by decide +kernel
theorem dX12_guard_261 : decode cX12_guard 261 = .ok (.iload 6, 2) := by decide +kernel
theorem dX12_guard_263 : decode cX12_guard 263 = .ok (.iload 7, 2) := by decide +kernel
theorem dX12_guard_265 : decode cX12_guard 265 = .ok (.iload 8, 2) := by decide +kernel
theorem dX12_guard_267 : decode cX12_guard 267 = .ok (.invokevirtual 367, 3) := by decide +kernel
theorem dX12_guard_270 : decode cX12_guard 270 = .ok (.ifCond .eq 8, 3) := by decide +kernel
theorem dX12_guard_273 : decode cX12_guard 273 = .ok (.iload 5, 2) := by decide +kernel
theorem dX12_guard_275 : decode cX12_guard 275 = .ok (.goto 4, 3) := by decide +kernel
theorem dX12_guard_278 : decode cX12_guard 278 = .ok (.iconst 3, 1) := by decide +kernel
theorem dX12_guard_279 : decode cX12_guard 279 = .ok (.istore 5, 2) := by decide +kernel
theorem dX12_guard_281 : decode cX12_guard 281 = .ok (.iinc 8 1, 3) := by decide +kernel
theorem dX12_guard_284 : decode cX12_guard 284 = .ok (.goto (-41), 3) := by decide +kernel
theorem dX12_guard_287 : decode cX12_guard 287 = .ok (.iinc 7 1, 3) := by decide +kernel
theorem dX12_guard_290 : decode cX12_guard 290 = .ok (.goto (-68), 3) := by decide +kernel
theorem dX12_guard_293 : decode cX12_guard 293 = .ok (.iinc 6 1, 3) := by decide +kernel
theorem dX12_guard_296 : decode cX12_guard 296 = .ok (.goto (-95), 3) := by decide +kernel
theorem dX12_guard_299 : decode cX12_guard 299 = .ok (.iload 5, 2) := by decide +kernel
theorem dX12_guard_301 : decode cX12_guard 301 = .ok (.iconst 3, 1) := by decide +kernel
theorem dX12_guard_302 : decode cX12_guard 302 = .ok (.if_icmp .le 7, 3) := by decide +kernel
theorem dX12_guard_305 : decode cX12_guard 305 = .ok (.iconst (-1), 1) := by decide +kernel
theorem dX12_guard_306 : decode cX12_guard 306 = .ok (.goto 5, 3) := by decide +kernel
theorem dX12_guard_309 : decode cX12_guard 309 = .ok (.iload 5, 2) := by decide +kernel
theorem dX12_guard_311 : decode cX12_guard 311 = .ok (.ireturn, 1) := by decide +kernel
set_option maxHeartbeats 4000000 in
set_option maxRecDepth 100000 in
theorem s_X12_guard {P : PP} {a0 : Nat} {a1 : Int32} {a2 : Int32} {a3 : Int32} {a4 : Int32} (I : IM P a0) (hW : MW P a0) : CtrI yX12_guard cX12_guard 9 (some Jvm.ClassFile.FieldType.int) ({ frames := 7, cells := 0, slots := 0, locals := 448 } : Room) 0 0 P [.ref a0, .int a1, .int a2, .int a3, .int a4] (fun r P2 => IM P2 a0 ∧ EM [0, 28, 29, 30, 31, 32, 35, 36, 37, 38, 41, 42] a0 P P2 ∧ MW P2 a0 ∧ (-1 ≤ r.toInt ∧ r.toInt ≤ 3)) := by
  refine enI (lv := [(0, .ref a0), (1, .int a1), (2, .int a2), (3, .int a3), (4, .int a4)]) (by decide) (Nat.le_of_ble_eq_true rfl) rfl (fun E D cy C Ci0 ret => ?_)
  have ha0 := I.2.1
  have J299 : ∀ (P299 : PP) (v299_5 : Int32), (IM P299 a0) → (EM [0, 28, 29, 30, 31, 32, 35, 36, 37, 38, 41, 42] a0 P P299) → (MW P299 a0) → (1 ≤ v299_5.toInt ∧ v299_5.toInt ≤ 4) → (0 ≤ (pI P299 a0 0).toInt ∧ (pI P299 a0 0).toInt ≤ 0) → (∀ b, pR P299 a0 10 = some b → 1 ≤ (pI P299 b (a2.toInt.toNat)).toInt ∧ (pI P299 b (a2.toInt.toNat)).toInt ≤ 16) → G E ({ frames := 7, cells := 0, slots := 0, locals := 448 } : Room) D cy 9 P299 0 0 299 [(5, .int v299_5)] [] := by
    intro P299 v299_5 I299 X299 W299 hv299_5 hq299_0 hq299_1
    have h62168 := X299.at ha0
    obtain ⟨b62169, e62170, h62171⟩ := I299.fld (h62168) 10 13 2 rfl
    have hq299_1 := hq299_1 b62169 e62170
    refine g_iload C dX12_guard_299 0 rfl ?_
    refine g_iconst (v := 3) C dX12_guard_301 (by decide) ?_
    refine b_icmp_le C 309 dX12_guard_302 (by decide) (fun h62172 => ?_) (fun h62172 => ?_)
    · have h62172 : v299_5.toInt ≤ 3 := h62172
      refine g_iload C dX12_guard_309 0 rfl ?_
      exact ret _ _ _ _ _ _ dX12_guard_311 rfl (by decide) (by decide) ⟨I299, X299, W299, (by omega)⟩
    · have h62172 : 3 < v299_5.toInt := h62172
      refine g_iconst (v := (-1)) C dX12_guard_305 (by decide) ?_
      refine g_goto C 311 dX12_guard_306 (by decide) ?_
      exact ret _ _ _ _ _ _ dX12_guard_311 rfl (by decide) (by decide) ⟨I299, X299, W299, (by decide)⟩
  have J201 : ∀ (n201 : Nat) (P201 : PP) (v201_5 : Int32) (v201_6 : Int32), (64 - v201_6.toInt).toNat < n201 → (IM P201 a0) → (EM [0, 28, 29, 30, 31, 32, 35, 36, 37, 38, 41, 42] a0 P P201) → (MW P201 a0) → (0 ≤ a4.toInt ∧ a4.toInt ≤ 19) → (1 ≤ v201_5.toInt ∧ v201_5.toInt ≤ 4) → (0 ≤ v201_6.toInt ∧ v201_6.toInt ≤ 64) → (0 ≤ (pI P201 a0 0).toInt ∧ (pI P201 a0 0).toInt ≤ 0) → (∀ b, pR P201 a0 10 = some b → 1 ≤ (pI P201 b (a2.toInt.toNat)).toInt ∧ (pI P201 b (a2.toInt.toNat)).toInt ≤ 16) → G E ({ frames := 7, cells := 0, slots := 0, locals := 448 } : Room) D cy 9 P201 0 0 201 [(0, .ref a0), (4, .int a4), (5, .int v201_5), (6, .int v201_6)] [] := by
    intro n201
    induction n201 with
    | zero => intro P201 v201_5 v201_6 hm201 I201 X201 W201 hv201_4 hv201_5 hv201_6 hq201_0 hq201_1; omega
    | succ n201 ih201 =>
      intro P201 v201_5 v201_6 hm201 I201 X201 W201 hv201_4 hv201_5 hv201_6 hq201_0 hq201_1
      have h62173 := X201.at ha0
      obtain ⟨b62174, e62175, h62176⟩ := I201.fld (h62173) 10 13 2 rfl
      have hq201_1 := hq201_1 b62174 e62175
      have J293 : ∀ (P293 : PP) (v293_5 : Int32), (IM P293 a0) → (EM [0, 28, 29, 30, 31, 32, 35, 36, 37, 38, 41, 42] a0 P P293) → (MW P293 a0) → (0 ≤ a4.toInt ∧ a4.toInt ≤ 19) → (3 ≤ v293_5.toInt ∧ v293_5.toInt ≤ 4) → (0 ≤ v201_6.toInt ∧ v201_6.toInt ≤ 63) → (0 ≤ (pI P293 a0 0).toInt ∧ (pI P293 a0 0).toInt ≤ 0) → (∀ b, pR P293 a0 10 = some b → 1 ≤ (pI P293 b (a2.toInt.toNat)).toInt ∧ (pI P293 b (a2.toInt.toNat)).toInt ≤ 16) → G E ({ frames := 7, cells := 0, slots := 0, locals := 448 } : Room) D cy 9 P293 0 0 293 [(0, .ref a0), (4, .int a4), (5, .int v293_5), (6, .int v201_6)] [] := by
        intro P293 v293_5 I293 X293 W293 hv293_4 hv293_5 hv293_6 hq293_0 hq293_1
        have h62177 := X293.at ha0
        obtain ⟨b62178, e62179, h62180⟩ := I293.fld (h62177) 10 13 2 rfl
        have hq293_1 := hq293_1 b62178 e62179
        refine s_iinc (lv0 := [(0, .ref a0), (4, .int a4), (5, .int v293_5)]) (m := 1) C dX12_guard_293 3 rfl (by decide) rfl (by decide) (by omega) (fun z62181 h62182 => ?_)
        have h62182 : z62181.toInt = v201_6.toInt + 1 := h62182
        refine g_goto C 201 dX12_guard_296 (by decide) ?_
        refine g_lv (lv' := [(0, .ref a0), (4, .int a4), (5, .int v293_5), (6, .int z62181)]) [1, 2, 3, 0] rfl ?_
        exact ih201 P293 v293_5 z62181 (by omega) I293 X293 W293 (by omega) (by omega) (by omega) (by omega) (fun b9 e9 => by rw [e62179] at e9; cases e9; omega)
      have J222 : ∀ (n222 : Nat) (P222 : PP) (v222_5 : Int32) (v222_7 : Int32), (64 - v222_7.toInt).toNat < n222 → (IM P222 a0) → (EM [0, 28, 29, 30, 31, 32, 35, 36, 37, 38, 41, 42] a0 P P222) → (MW P222 a0) → (0 ≤ a4.toInt ∧ a4.toInt ≤ 19) → (3 ≤ v222_5.toInt ∧ v222_5.toInt ≤ 4) → (0 ≤ v201_6.toInt ∧ v201_6.toInt ≤ 63) → (1 ≤ v222_7.toInt ∧ v222_7.toInt ≤ 64) → (0 ≤ (pI P222 a0 0).toInt ∧ (pI P222 a0 0).toInt ≤ 0) → (∀ b, pR P222 a0 10 = some b → 1 ≤ (pI P222 b (a2.toInt.toNat)).toInt ∧ (pI P222 b (a2.toInt.toNat)).toInt ≤ 16) → G E ({ frames := 7, cells := 0, slots := 0, locals := 448 } : Room) D cy 9 P222 0 0 222 [(0, .ref a0), (4, .int a4), (5, .int v222_5), (6, .int v201_6), (7, .int v222_7)] [] := by
        intro n222
        induction n222 with
        | zero => intro P222 v222_5 v222_7 hm222 I222 X222 W222 hv222_4 hv222_5 hv222_6 hv222_7 hq222_0 hq222_1; omega
        | succ n222 ih222 =>
          intro P222 v222_5 v222_7 hm222 I222 X222 W222 hv222_4 hv222_5 hv222_6 hv222_7 hq222_0 hq222_1
          have h62183 := X222.at ha0
          obtain ⟨b62184, e62185, h62186⟩ := I222.fld (h62183) 10 13 2 rfl
          have hq222_1 := hq222_1 b62184 e62185
          have J287 : ∀ (P287 : PP) (v287_5 : Int32), (IM P287 a0) → (EM [0, 28, 29, 30, 31, 32, 35, 36, 37, 38, 41, 42] a0 P P287) → (MW P287 a0) → (0 ≤ a4.toInt ∧ a4.toInt ≤ 19) → (3 ≤ v287_5.toInt ∧ v287_5.toInt ≤ 4) → (0 ≤ v201_6.toInt ∧ v201_6.toInt ≤ 63) → (1 ≤ v222_7.toInt ∧ v222_7.toInt ≤ 63) → (0 ≤ (pI P287 a0 0).toInt ∧ (pI P287 a0 0).toInt ≤ 0) → (∀ b, pR P287 a0 10 = some b → 1 ≤ (pI P287 b (a2.toInt.toNat)).toInt ∧ (pI P287 b (a2.toInt.toNat)).toInt ≤ 16) → G E ({ frames := 7, cells := 0, slots := 0, locals := 448 } : Room) D cy 9 P287 0 0 287 [(0, .ref a0), (4, .int a4), (5, .int v287_5), (6, .int v201_6), (7, .int v222_7)] [] := by
            intro P287 v287_5 I287 X287 W287 hv287_4 hv287_5 hv287_6 hv287_7 hq287_0 hq287_1
            have h62187 := X287.at ha0
            obtain ⟨b62188, e62189, h62190⟩ := I287.fld (h62187) 10 13 2 rfl
            have hq287_1 := hq287_1 b62188 e62189
            refine s_iinc (lv0 := [(0, .ref a0), (4, .int a4), (5, .int v287_5), (6, .int v201_6)]) (m := 1) C dX12_guard_287 4 rfl (by decide) rfl (by decide) (by omega) (fun z62191 h62192 => ?_)
            have h62192 : z62191.toInt = v222_7.toInt + 1 := h62192
            refine g_goto C 222 dX12_guard_290 (by decide) ?_
            refine g_lv (lv' := [(0, .ref a0), (4, .int a4), (5, .int v287_5), (6, .int v201_6), (7, .int z62191)]) [1, 2, 3, 4, 0] rfl ?_
            exact ih222 P287 v287_5 z62191 (by omega) I287 X287 W287 (by omega) (by omega) (by omega) (by omega) (by omega) (fun b9 e9 => by rw [e62189] at e9; cases e9; omega)
          have J243 : ∀ (n243 : Nat) (P243 : PP) (v243_5 : Int32) (v243_8 : Int32), (64 - v243_8.toInt).toNat < n243 → (IM P243 a0) → (EM [0, 28, 29, 30, 31, 32, 35, 36, 37, 38, 41, 42] a0 P P243) → (MW P243 a0) → (0 ≤ a4.toInt ∧ a4.toInt ≤ 19) → (3 ≤ v243_5.toInt ∧ v243_5.toInt ≤ 4) → (0 ≤ v201_6.toInt ∧ v201_6.toInt ≤ 63) → (1 ≤ v222_7.toInt ∧ v222_7.toInt ≤ 63) → (2 ≤ v243_8.toInt ∧ v243_8.toInt ≤ 64) → (0 ≤ (pI P243 a0 0).toInt ∧ (pI P243 a0 0).toInt ≤ 0) → (∀ b, pR P243 a0 10 = some b → 1 ≤ (pI P243 b (a2.toInt.toNat)).toInt ∧ (pI P243 b (a2.toInt.toNat)).toInt ≤ 16) → G E ({ frames := 7, cells := 0, slots := 0, locals := 448 } : Room) D cy 9 P243 0 0 243 [(0, .ref a0), (4, .int a4), (5, .int v243_5), (6, .int v201_6), (7, .int v222_7), (8, .int v243_8)] [] := by
            intro n243
            induction n243 with
            | zero => intro P243 v243_5 v243_8 hm243 I243 X243 W243 hv243_4 hv243_5 hv243_6 hv243_7 hv243_8 hq243_0 hq243_1; omega
            | succ n243 ih243 =>
              intro P243 v243_5 v243_8 hm243 I243 X243 W243 hv243_4 hv243_5 hv243_6 hv243_7 hv243_8 hq243_0 hq243_1
              have h62193 := X243.at ha0
              obtain ⟨b62194, e62195, h62196⟩ := I243.fld (h62193) 10 13 2 rfl
              have hq243_1 := hq243_1 b62194 e62195
              have J279 : ∀ (P279 : PP) (v279_s0 : Int32), (IM P279 a0) → (EM [0, 28, 29, 30, 31, 32, 35, 36, 37, 38, 41, 42] a0 P P279) → (MW P279 a0) → (0 ≤ a4.toInt ∧ a4.toInt ≤ 19) → (0 ≤ v201_6.toInt ∧ v201_6.toInt ≤ 63) → (1 ≤ v222_7.toInt ∧ v222_7.toInt ≤ 63) → (2 ≤ v243_8.toInt ∧ v243_8.toInt ≤ 63) → (3 ≤ v279_s0.toInt ∧ v279_s0.toInt ≤ 4) → (0 ≤ (pI P279 a0 0).toInt ∧ (pI P279 a0 0).toInt ≤ 0) → (∀ b, pR P279 a0 10 = some b → 1 ≤ (pI P279 b (a2.toInt.toNat)).toInt ∧ (pI P279 b (a2.toInt.toNat)).toInt ≤ 16) → G E ({ frames := 7, cells := 0, slots := 0, locals := 448 } : Room) D cy 9 P279 0 0 279 [(0, .ref a0), (4, .int a4), (6, .int v201_6), (7, .int v222_7), (8, .int v243_8)] [.int v279_s0] := by
                intro P279 v279_s0 I279 X279 W279 hv279_4 hv279_6 hv279_7 hv279_8 hv279_s0 hq279_0 hq279_1
                have h62197 := X279.at ha0
                obtain ⟨b62198, e62199, h62200⟩ := I279.fld (h62197) 10 13 2 rfl
                have hq279_1 := hq279_1 b62198 e62199
                refine g_istore (lv' := [(5, .int v279_s0), (0, .ref a0), (4, .int a4), (6, .int v201_6), (7, .int v222_7), (8, .int v243_8)]) C dX12_guard_279 (by decide) rfl ?_
                refine s_iinc (lv0 := [(5, .int v279_s0), (0, .ref a0), (4, .int a4), (6, .int v201_6), (7, .int v222_7)]) (m := 1) C dX12_guard_281 5 rfl (by decide) rfl (by decide) (by omega) (fun z62201 h62202 => ?_)
                have h62202 : z62201.toInt = v243_8.toInt + 1 := h62202
                refine g_goto C 243 dX12_guard_284 (by decide) ?_
                refine g_lv (lv' := [(0, .ref a0), (4, .int a4), (5, .int v279_s0), (6, .int v201_6), (7, .int v222_7), (8, .int z62201)]) [2, 3, 1, 4, 5, 0] rfl ?_
                exact ih243 P279 v279_s0 z62201 (by omega) I279 X279 W279 (by omega) (by omega) (by omega) (by omega) (by omega) (by omega) (fun b9 e9 => by rw [e62199] at e9; cases e9; omega)
              refine g_iload C dX12_guard_243 5 rfl ?_
              refine g_aload_n C dX12_guard_245 rfl 0 rfl ?_
              refine g_getI C fi_X12_305 (by decide) (h62193).1 (h62193).2 dX12_guard_246 ?_
              have h62203 := I243.rg (h62193) 28 rfl
              refine b_icmp_ge C 287 dX12_guard_249 (by decide) (fun h62204 => ?_) (fun h62204 => ?_)
              · have h62204 : (pI P243 a0 28).toInt ≤ v243_8.toInt := h62204
                refine g_lv (lv' := [(0, .ref a0), (4, .int a4), (5, .int v243_5), (6, .int v201_6), (7, .int v222_7)]) [0, 1, 2, 3, 4] rfl ?_
                exact J287 P243 v243_5 I243 X243 W243 (by omega) (by omega) (by omega) (by omega) (by omega) (fun b9 e9 => by rw [e62195] at e9; cases e9; omega)
              · have h62204 : v243_8.toInt < (pI P243 a0 28).toInt := h62204
                refine g_iload C dX12_guard_252 2 rfl ?_
                refine g_iconst (v := 3) C dX12_guard_254 (by decide) ?_
                refine b_icmp_le C 287 dX12_guard_255 (by decide) (fun h62205 => ?_) (fun h62205 => ?_)
                · have h62205 : v243_5.toInt ≤ 3 := h62205
                  refine g_lv (lv' := [(0, .ref a0), (4, .int a4), (5, .int v243_5), (6, .int v201_6), (7, .int v222_7)]) [0, 1, 2, 3, 4] rfl ?_
                  exact J287 P243 v243_5 I243 X243 W243 (by omega) (by omega) (by omega) (by omega) (by omega) (fun b9 e9 => by rw [e62195] at e9; cases e9; omega)
                · have h62205 : 3 < v243_5.toInt := h62205
                  refine g_aload_n C dX12_guard_258 rfl 0 rfl ?_
                  refine g_iload C dX12_guard_259 1 rfl ?_
                  refine g_iload C dX12_guard_261 3 rfl ?_
                  refine g_iload C dX12_guard_263 4 rfl ?_
                  refine g_iload C dX12_guard_265 5 rfl ?_
                  refine g_callVI (rest := []) C mv_X12_367 [.int a4, .int v201_6, .int v222_7, .int v243_8] (s_X12_isFixedWithout I243 (by omega) W243) (h62193).1 (h62193).2 rfl rfl (by decide) (Nat.le_of_ble_eq_true rfl) (by decide) dX12_guard_267 (fun r62206 Y62207 h62208 => ?_)
                  obtain ⟨Iy62209, Xy62210, W62211, h62208⟩ := h62208
                  have q62212 := Xy62210.keepF 0 (by decide)
                  have q62213 := Xy62210.keepA e62195 (by decide) rfl (a2.toInt.toNat)
                  have Xz62214 : EM [0, 28, 29, 30, 31, 32, 35, 36, 37, 38, 41, 42] a0 P Y62207 := EM.tr ha0 X243 (Xy62210.mono (by decide))
                  have e62215 := Xy62210.ref h62193 (by decide) e62195
                  have h62216 := Xy62210.at h62193
                  have h62217 := Xy62210.ar h62196
                  have h62208 : 0 ≤ r62206.toInt ∧ r62206.toInt ≤ 1 := h62208
                  refine b_if_eq C 278 dX12_guard_270 (by decide) (fun h62218 => ?_) (fun h62218 => ?_)
                  · have h62218 : r62206.toInt = 0 := congrArg Int32.toInt h62218
                    refine g_iconst (v := 3) C dX12_guard_278 (by decide) ?_
                    refine g_lv (lv' := [(0, .ref a0), (4, .int a4), (6, .int v201_6), (7, .int v222_7), (8, .int v243_8)]) [0, 1, 3, 4, 5] rfl ?_
                    exact J279 Y62207 3 Iy62209 Xz62214 W62211 (by omega) (by omega) (by omega) (by omega) (by decide) (by omega) (fun b9 e9 => by rw [e62215] at e9; cases e9; omega)
                  · have h62218 : r62206.toInt ≠ 0 := ti_ne h62218
                    refine g_iload C dX12_guard_273 2 rfl ?_
                    refine g_goto C 279 dX12_guard_275 (by decide) ?_
                    refine g_lv (lv' := [(0, .ref a0), (4, .int a4), (6, .int v201_6), (7, .int v222_7), (8, .int v243_8)]) [0, 1, 3, 4, 5] rfl ?_
                    exact J279 Y62207 v243_5 Iy62209 Xz62214 W62211 (by omega) (by omega) (by omega) (by omega) (by omega) (by omega) (fun b9 e9 => by rw [e62215] at e9; cases e9; omega)
          refine g_iload C dX12_guard_222 4 rfl ?_
          refine g_aload_n C dX12_guard_224 rfl 0 rfl ?_
          refine g_getI C fi_X12_305 (by decide) (h62183).1 (h62183).2 dX12_guard_225 ?_
          have h62219 := I222.rg (h62183) 28 rfl
          refine b_icmp_ge C 293 dX12_guard_228 (by decide) (fun h62220 => ?_) (fun h62220 => ?_)
          · have h62220 : (pI P222 a0 28).toInt ≤ v222_7.toInt := h62220
            refine g_lv (lv' := [(0, .ref a0), (4, .int a4), (5, .int v222_5), (6, .int v201_6)]) [0, 1, 2, 3] rfl ?_
            exact J293 P222 v222_5 I222 X222 W222 (by omega) (by omega) (by omega) (by omega) (fun b9 e9 => by rw [e62185] at e9; cases e9; omega)
          · have h62220 : v222_7.toInt < (pI P222 a0 28).toInt := h62220
            refine g_iload C dX12_guard_231 2 rfl ?_
            refine g_iconst (v := 3) C dX12_guard_233 (by decide) ?_
            refine b_icmp_le C 293 dX12_guard_234 (by decide) (fun h62221 => ?_) (fun h62221 => ?_)
            · have h62221 : v222_5.toInt ≤ 3 := h62221
              refine g_lv (lv' := [(0, .ref a0), (4, .int a4), (5, .int v222_5), (6, .int v201_6)]) [0, 1, 2, 3] rfl ?_
              exact J293 P222 v222_5 I222 X222 W222 (by omega) (by omega) (by omega) (by omega) (fun b9 e9 => by rw [e62185] at e9; cases e9; omega)
            · have h62221 : 3 < v222_5.toInt := h62221
              refine g_iload C dX12_guard_237 4 rfl ?_
              refine g_iconst (v := 1) C dX12_guard_239 (by decide) ?_
              refine s_iadd C dX12_guard_240 (by show -2147483648 ≤ v222_7.toInt + 1 ∧ v222_7.toInt + 1 ≤ 2147483647; omega) (fun z62222 h62223 => ?_)
              have h62223 : z62222.toInt = v222_7.toInt + 1 := h62223
              refine g_istore (lv' := [(8, .int z62222), (0, .ref a0), (4, .int a4), (5, .int v222_5), (6, .int v201_6), (7, .int v222_7)]) C dX12_guard_241 (by decide) rfl ?_
              refine g_lv (lv' := [(0, .ref a0), (4, .int a4), (5, .int v222_5), (6, .int v201_6), (7, .int v222_7), (8, .int z62222)]) [1, 2, 3, 4, 5, 0] rfl ?_
              exact J243 _ P222 v222_5 z62222 (Nat.lt_succ_self _) I222 X222 W222 (by omega) (by omega) (by omega) (by omega) (by omega) (by omega) (fun b9 e9 => by rw [e62185] at e9; cases e9; omega)
      refine g_iload C dX12_guard_201 3 rfl ?_
      refine g_aload_n C dX12_guard_203 rfl 0 rfl ?_
      refine g_getI C fi_X12_305 (by decide) (h62173).1 (h62173).2 dX12_guard_204 ?_
      have h62224 := I201.rg (h62173) 28 rfl
      refine b_icmp_ge C 299 dX12_guard_207 (by decide) (fun h62225 => ?_) (fun h62225 => ?_)
      · have h62225 : (pI P201 a0 28).toInt ≤ v201_6.toInt := h62225
        refine g_lv (lv' := [(5, .int v201_5)]) [2] rfl ?_
        exact J299 P201 v201_5 I201 X201 W201 (by omega) (by omega) (fun b9 e9 => by rw [e62175] at e9; cases e9; omega)
      · have h62225 : v201_6.toInt < (pI P201 a0 28).toInt := h62225
        refine g_iload C dX12_guard_210 2 rfl ?_
        refine g_iconst (v := 3) C dX12_guard_212 (by decide) ?_
        refine b_icmp_le C 299 dX12_guard_213 (by decide) (fun h62226 => ?_) (fun h62226 => ?_)
        · have h62226 : v201_5.toInt ≤ 3 := h62226
          refine g_lv (lv' := [(5, .int v201_5)]) [2] rfl ?_
          exact J299 P201 v201_5 I201 X201 W201 (by omega) (by omega) (fun b9 e9 => by rw [e62175] at e9; cases e9; omega)
        · have h62226 : 3 < v201_5.toInt := h62226
          refine g_iload C dX12_guard_216 3 rfl ?_
          refine g_iconst (v := 1) C dX12_guard_218 (by decide) ?_
          refine s_iadd C dX12_guard_219 (by show -2147483648 ≤ v201_6.toInt + 1 ∧ v201_6.toInt + 1 ≤ 2147483647; omega) (fun z62227 h62228 => ?_)
          have h62228 : z62227.toInt = v201_6.toInt + 1 := h62228
          refine g_istore (lv' := [(7, .int z62227), (0, .ref a0), (4, .int a4), (5, .int v201_5), (6, .int v201_6)]) C dX12_guard_220 (by decide) rfl ?_
          refine g_lv (lv' := [(0, .ref a0), (4, .int a4), (5, .int v201_5), (6, .int v201_6), (7, .int z62227)]) [1, 2, 3, 4, 0] rfl ?_
          exact J222 _ P201 v201_5 z62227 (Nat.lt_succ_self _) I201 X201 W201 (by omega) (by omega) (by omega) (by omega) (by omega) (fun b9 e9 => by rw [e62175] at e9; cases e9; omega)
  have J193 : ∀ (P193 : PP) (v193_5 : Int32), (IM P193 a0) → (EM [0, 28, 29, 30, 31, 32, 35, 36, 37, 38, 41, 42] a0 P P193) → (MW P193 a0) → (0 ≤ a2.toInt ∧ a2.toInt ≤ 1) → (0 ≤ a4.toInt ∧ a4.toInt ≤ 19) → (1 ≤ v193_5.toInt ∧ v193_5.toInt ≤ 4) → (0 ≤ (pI P193 a0 0).toInt ∧ (pI P193 a0 0).toInt ≤ 0) → (∀ b, pR P193 a0 10 = some b → 1 ≤ (pI P193 b (a2.toInt.toNat)).toInt ∧ (pI P193 b (a2.toInt.toNat)).toInt ≤ 16) → G E ({ frames := 7, cells := 0, slots := 0, locals := 448 } : Room) D cy 9 P193 0 0 193 [(0, .ref a0), (2, .int a2), (4, .int a4), (5, .int v193_5)] [] := by
    intro P193 v193_5 I193 X193 W193 hv193_2 hv193_4 hv193_5 hq193_0 hq193_1
    have h62229 := X193.at ha0
    obtain ⟨b62230, e62231, h62232⟩ := I193.fld (h62229) 10 13 2 rfl
    have hq193_1 := hq193_1 b62230 e62231
    refine g_aload_n C dX12_guard_193 rfl 0 rfl ?_
    obtain ⟨b62233, e62234, h62235⟩ := I193.fld (h62229) 15 13 3 rfl
    refine g_getR C fi_X12_60 rfl e62234 (h62229).1 (h62229).2 dX12_guard_194 ?_
    refine g_iload_n C dX12_guard_197 rfl 1 rfl ?_
    refine g_iald (j := (a2.toInt.toNat)) C h62235.1 h62235.2.1 (ix_in h62235.2.2 (by omega)) dX12_guard_198 ?_
    have h62236 := I193.arr e62234 rfl (a2.toInt.toNat)
    refine g_topi (fun z62237 h62238 => ?_)
    have h62238 : z62237.toInt = (pI P193 b62233 (a2.toInt.toNat)).toInt := congrArg Int32.toInt h62238
    refine g_istore (lv' := [(6, .int z62237), (0, .ref a0), (2, .int a2), (4, .int a4), (5, .int v193_5)]) C dX12_guard_199 (by decide) rfl ?_
    refine g_lv (lv' := [(0, .ref a0), (4, .int a4), (5, .int v193_5), (6, .int z62237)]) [1, 3, 4, 0] rfl ?_
    exact J201 _ P193 v193_5 z62237 (Nat.lt_succ_self _) I193 X193 W193 (by omega) (by omega) (by omega) (by omega) (fun b9 e9 => by rw [e62231] at e9; cases e9; omega)
  have J122 : ∀ (n122 : Nat) (P122 : PP) (v122_5 : Int32) (v122_6 : Int32), (64 - v122_6.toInt).toNat < n122 → (IM P122 a0) → (EM [0, 28, 29, 30, 31, 32, 35, 36, 37, 38, 41, 42] a0 P P122) → (MW P122 a0) → (0 ≤ a2.toInt ∧ a2.toInt ≤ 1) → (0 ≤ a4.toInt ∧ a4.toInt ≤ 19) → (1 ≤ v122_5.toInt ∧ v122_5.toInt ≤ 4) → (0 ≤ v122_6.toInt ∧ v122_6.toInt ≤ 64) → (0 ≤ (pI P122 a0 0).toInt ∧ (pI P122 a0 0).toInt ≤ 0) → (∀ b, pR P122 a0 10 = some b → 1 ≤ (pI P122 b (a2.toInt.toNat)).toInt ∧ (pI P122 b (a2.toInt.toNat)).toInt ≤ 16) → G E ({ frames := 7, cells := 0, slots := 0, locals := 448 } : Room) D cy 9 P122 0 0 122 [(0, .ref a0), (2, .int a2), (4, .int a4), (5, .int v122_5), (6, .int v122_6)] [] := by
    intro n122
    induction n122 with
    | zero => intro P122 v122_5 v122_6 hm122 I122 X122 W122 hv122_2 hv122_4 hv122_5 hv122_6 hq122_0 hq122_1; omega
    | succ n122 ih122 =>
      intro P122 v122_5 v122_6 hm122 I122 X122 W122 hv122_2 hv122_4 hv122_5 hv122_6 hq122_0 hq122_1
      have h62239 := X122.at ha0
      obtain ⟨b62240, e62241, h62242⟩ := I122.fld (h62239) 10 13 2 rfl
      have hq122_1 := hq122_1 b62240 e62241
      have J187 : ∀ (P187 : PP) (v187_5 : Int32), (IM P187 a0) → (EM [0, 28, 29, 30, 31, 32, 35, 36, 37, 38, 41, 42] a0 P P187) → (MW P187 a0) → (0 ≤ a2.toInt ∧ a2.toInt ≤ 1) → (0 ≤ a4.toInt ∧ a4.toInt ≤ 19) → (2 ≤ v187_5.toInt ∧ v187_5.toInt ≤ 4) → (0 ≤ v122_6.toInt ∧ v122_6.toInt ≤ 63) → (0 ≤ (pI P187 a0 0).toInt ∧ (pI P187 a0 0).toInt ≤ 0) → (∀ b, pR P187 a0 10 = some b → 1 ≤ (pI P187 b (a2.toInt.toNat)).toInt ∧ (pI P187 b (a2.toInt.toNat)).toInt ≤ 16) → G E ({ frames := 7, cells := 0, slots := 0, locals := 448 } : Room) D cy 9 P187 0 0 187 [(0, .ref a0), (2, .int a2), (4, .int a4), (5, .int v187_5), (6, .int v122_6)] [] := by
        intro P187 v187_5 I187 X187 W187 hv187_2 hv187_4 hv187_5 hv187_6 hq187_0 hq187_1
        have h62243 := X187.at ha0
        obtain ⟨b62244, e62245, h62246⟩ := I187.fld (h62243) 10 13 2 rfl
        have hq187_1 := hq187_1 b62244 e62245
        refine s_iinc (lv0 := [(0, .ref a0), (2, .int a2), (4, .int a4), (5, .int v187_5)]) (m := 1) C dX12_guard_187 4 rfl (by decide) rfl (by decide) (by omega) (fun z62247 h62248 => ?_)
        have h62248 : z62247.toInt = v122_6.toInt + 1 := h62248
        refine g_goto C 122 dX12_guard_190 (by decide) ?_
        refine g_lv (lv' := [(0, .ref a0), (2, .int a2), (4, .int a4), (5, .int v187_5), (6, .int z62247)]) [1, 2, 3, 4, 0] rfl ?_
        exact ih122 P187 v187_5 z62247 (by omega) I187 X187 W187 (by omega) (by omega) (by omega) (by omega) (by omega) (fun b9 e9 => by rw [e62245] at e9; cases e9; omega)
      have J143 : ∀ (n143 : Nat) (P143 : PP) (v143_5 : Int32) (v143_7 : Int32), (64 - v143_7.toInt).toNat < n143 → (IM P143 a0) → (EM [0, 28, 29, 30, 31, 32, 35, 36, 37, 38, 41, 42] a0 P P143) → (MW P143 a0) → (0 ≤ a2.toInt ∧ a2.toInt ≤ 1) → (0 ≤ a4.toInt ∧ a4.toInt ≤ 19) → (2 ≤ v143_5.toInt ∧ v143_5.toInt ≤ 4) → (0 ≤ v122_6.toInt ∧ v122_6.toInt ≤ 63) → (1 ≤ v143_7.toInt ∧ v143_7.toInt ≤ 64) → (0 ≤ (pI P143 a0 0).toInt ∧ (pI P143 a0 0).toInt ≤ 0) → (∀ b, pR P143 a0 10 = some b → 1 ≤ (pI P143 b (a2.toInt.toNat)).toInt ∧ (pI P143 b (a2.toInt.toNat)).toInt ≤ 16) → G E ({ frames := 7, cells := 0, slots := 0, locals := 448 } : Room) D cy 9 P143 0 0 143 [(0, .ref a0), (2, .int a2), (4, .int a4), (5, .int v143_5), (6, .int v122_6), (7, .int v143_7)] [] := by
        intro n143
        induction n143 with
        | zero => intro P143 v143_5 v143_7 hm143 I143 X143 W143 hv143_2 hv143_4 hv143_5 hv143_6 hv143_7 hq143_0 hq143_1; omega
        | succ n143 ih143 =>
          intro P143 v143_5 v143_7 hm143 I143 X143 W143 hv143_2 hv143_4 hv143_5 hv143_6 hv143_7 hq143_0 hq143_1
          have h62249 := X143.at ha0
          obtain ⟨b62250, e62251, h62252⟩ := I143.fld (h62249) 10 13 2 rfl
          have hq143_1 := hq143_1 b62250 e62251
          have J179 : ∀ (P179 : PP) (v179_s0 : Int32), (IM P179 a0) → (EM [0, 28, 29, 30, 31, 32, 35, 36, 37, 38, 41, 42] a0 P P179) → (MW P179 a0) → (0 ≤ a2.toInt ∧ a2.toInt ≤ 1) → (0 ≤ a4.toInt ∧ a4.toInt ≤ 19) → (0 ≤ v122_6.toInt ∧ v122_6.toInt ≤ 63) → (1 ≤ v143_7.toInt ∧ v143_7.toInt ≤ 63) → (2 ≤ v179_s0.toInt ∧ v179_s0.toInt ≤ 4) → (0 ≤ (pI P179 a0 0).toInt ∧ (pI P179 a0 0).toInt ≤ 0) → (∀ b, pR P179 a0 10 = some b → 1 ≤ (pI P179 b (a2.toInt.toNat)).toInt ∧ (pI P179 b (a2.toInt.toNat)).toInt ≤ 16) → G E ({ frames := 7, cells := 0, slots := 0, locals := 448 } : Room) D cy 9 P179 0 0 179 [(0, .ref a0), (2, .int a2), (4, .int a4), (6, .int v122_6), (7, .int v143_7)] [.int v179_s0] := by
            intro P179 v179_s0 I179 X179 W179 hv179_2 hv179_4 hv179_6 hv179_7 hv179_s0 hq179_0 hq179_1
            have h62253 := X179.at ha0
            obtain ⟨b62254, e62255, h62256⟩ := I179.fld (h62253) 10 13 2 rfl
            have hq179_1 := hq179_1 b62254 e62255
            refine g_istore (lv' := [(5, .int v179_s0), (0, .ref a0), (2, .int a2), (4, .int a4), (6, .int v122_6), (7, .int v143_7)]) C dX12_guard_179 (by decide) rfl ?_
            refine s_iinc (lv0 := [(5, .int v179_s0), (0, .ref a0), (2, .int a2), (4, .int a4), (6, .int v122_6)]) (m := 1) C dX12_guard_181 5 rfl (by decide) rfl (by decide) (by omega) (fun z62257 h62258 => ?_)
            have h62258 : z62257.toInt = v143_7.toInt + 1 := h62258
            refine g_goto C 143 dX12_guard_184 (by decide) ?_
            refine g_lv (lv' := [(0, .ref a0), (2, .int a2), (4, .int a4), (5, .int v179_s0), (6, .int v122_6), (7, .int z62257)]) [2, 3, 4, 1, 5, 0] rfl ?_
            exact ih143 P179 v179_s0 z62257 (by omega) I179 X179 W179 (by omega) (by omega) (by omega) (by omega) (by omega) (by omega) (fun b9 e9 => by rw [e62255] at e9; cases e9; omega)
          refine g_iload C dX12_guard_143 5 rfl ?_
          refine g_aload_n C dX12_guard_145 rfl 0 rfl ?_
          refine g_getI C fi_X12_305 (by decide) (h62249).1 (h62249).2 dX12_guard_146 ?_
          have h62259 := I143.rg (h62249) 28 rfl
          refine b_icmp_ge C 187 dX12_guard_149 (by decide) (fun h62260 => ?_) (fun h62260 => ?_)
          · have h62260 : (pI P143 a0 28).toInt ≤ v143_7.toInt := h62260
            refine g_lv (lv' := [(0, .ref a0), (2, .int a2), (4, .int a4), (5, .int v143_5), (6, .int v122_6)]) [0, 1, 2, 3, 4] rfl ?_
            exact J187 P143 v143_5 I143 X143 W143 (by omega) (by omega) (by omega) (by omega) (by omega) (fun b9 e9 => by rw [e62251] at e9; cases e9; omega)
          · have h62260 : v143_7.toInt < (pI P143 a0 28).toInt := h62260
            refine g_iload C dX12_guard_152 3 rfl ?_
            refine g_iconst (v := 2) C dX12_guard_154 (by decide) ?_
            refine b_icmp_le C 187 dX12_guard_155 (by decide) (fun h62261 => ?_) (fun h62261 => ?_)
            · have h62261 : v143_5.toInt ≤ 2 := h62261
              refine g_lv (lv' := [(0, .ref a0), (2, .int a2), (4, .int a4), (5, .int v143_5), (6, .int v122_6)]) [0, 1, 2, 3, 4] rfl ?_
              exact J187 P143 v143_5 I143 X143 W143 (by omega) (by omega) (by omega) (by omega) (by omega) (fun b9 e9 => by rw [e62251] at e9; cases e9; omega)
            · have h62261 : 2 < v143_5.toInt := h62261
              refine g_aload_n C dX12_guard_158 rfl 0 rfl ?_
              refine g_iload C dX12_guard_159 2 rfl ?_
              refine g_iload C dX12_guard_161 4 rfl ?_
              refine g_iload C dX12_guard_163 5 rfl ?_
              refine g_iload C dX12_guard_165 5 rfl ?_
              refine g_callVI (rest := []) C mv_X12_367 [.int a4, .int v122_6, .int v143_7, .int v143_7] (s_X12_isFixedWithout I143 (by omega) W143) (h62249).1 (h62249).2 rfl rfl (by decide) (Nat.le_of_ble_eq_true rfl) (by decide) dX12_guard_167 (fun r62262 Y62263 h62264 => ?_)
              obtain ⟨Iy62265, Xy62266, W62267, h62264⟩ := h62264
              have q62268 := Xy62266.keepF 0 (by decide)
              have q62269 := Xy62266.keepA e62251 (by decide) rfl (a2.toInt.toNat)
              have Xz62270 : EM [0, 28, 29, 30, 31, 32, 35, 36, 37, 38, 41, 42] a0 P Y62263 := EM.tr ha0 X143 (Xy62266.mono (by decide))
              have e62271 := Xy62266.ref h62249 (by decide) e62251
              have h62272 := Xy62266.at h62249
              have h62273 := Xy62266.ar h62252
              have h62264 : 0 ≤ r62262.toInt ∧ r62262.toInt ≤ 1 := h62264
              refine b_if_eq C 178 dX12_guard_170 (by decide) (fun h62274 => ?_) (fun h62274 => ?_)
              · have h62274 : r62262.toInt = 0 := congrArg Int32.toInt h62274
                refine g_iconst (v := 2) C dX12_guard_178 (by decide) ?_
                refine g_lv (lv' := [(0, .ref a0), (2, .int a2), (4, .int a4), (6, .int v122_6), (7, .int v143_7)]) [0, 1, 2, 4, 5] rfl ?_
                exact J179 Y62263 2 Iy62265 Xz62270 W62267 (by omega) (by omega) (by omega) (by omega) (by decide) (by omega) (fun b9 e9 => by rw [e62271] at e9; cases e9; omega)
              · have h62274 : r62262.toInt ≠ 0 := ti_ne h62274
                refine g_iload C dX12_guard_173 3 rfl ?_
                refine g_goto C 179 dX12_guard_175 (by decide) ?_
                refine g_lv (lv' := [(0, .ref a0), (2, .int a2), (4, .int a4), (6, .int v122_6), (7, .int v143_7)]) [0, 1, 2, 4, 5] rfl ?_
                exact J179 Y62263 v143_5 Iy62265 Xz62270 W62267 (by omega) (by omega) (by omega) (by omega) (by omega) (by omega) (fun b9 e9 => by rw [e62271] at e9; cases e9; omega)
      refine g_iload C dX12_guard_122 4 rfl ?_
      refine g_aload_n C dX12_guard_124 rfl 0 rfl ?_
      refine g_getI C fi_X12_305 (by decide) (h62239).1 (h62239).2 dX12_guard_125 ?_
      have h62275 := I122.rg (h62239) 28 rfl
      refine b_icmp_ge C 193 dX12_guard_128 (by decide) (fun h62276 => ?_) (fun h62276 => ?_)
      · have h62276 : (pI P122 a0 28).toInt ≤ v122_6.toInt := h62276
        refine g_lv (lv' := [(0, .ref a0), (2, .int a2), (4, .int a4), (5, .int v122_5)]) [0, 1, 2, 3] rfl ?_
        exact J193 P122 v122_5 I122 X122 W122 (by omega) (by omega) (by omega) (by omega) (fun b9 e9 => by rw [e62241] at e9; cases e9; omega)
      · have h62276 : v122_6.toInt < (pI P122 a0 28).toInt := h62276
        refine g_iload C dX12_guard_131 3 rfl ?_
        refine g_iconst (v := 2) C dX12_guard_133 (by decide) ?_
        refine b_icmp_le C 193 dX12_guard_134 (by decide) (fun h62277 => ?_) (fun h62277 => ?_)
        · have h62277 : v122_5.toInt ≤ 2 := h62277
          refine g_lv (lv' := [(0, .ref a0), (2, .int a2), (4, .int a4), (5, .int v122_5)]) [0, 1, 2, 3] rfl ?_
          exact J193 P122 v122_5 I122 X122 W122 (by omega) (by omega) (by omega) (by omega) (fun b9 e9 => by rw [e62241] at e9; cases e9; omega)
        · have h62277 : 2 < v122_5.toInt := h62277
          refine g_iload C dX12_guard_137 4 rfl ?_
          refine g_iconst (v := 1) C dX12_guard_139 (by decide) ?_
          refine s_iadd C dX12_guard_140 (by show -2147483648 ≤ v122_6.toInt + 1 ∧ v122_6.toInt + 1 ≤ 2147483647; omega) (fun z62278 h62279 => ?_)
          have h62279 : z62278.toInt = v122_6.toInt + 1 := h62279
          refine g_istore (lv' := [(7, .int z62278), (0, .ref a0), (2, .int a2), (4, .int a4), (5, .int v122_5), (6, .int v122_6)]) C dX12_guard_141 (by decide) rfl ?_
          refine g_lv (lv' := [(0, .ref a0), (2, .int a2), (4, .int a4), (5, .int v122_5), (6, .int v122_6), (7, .int z62278)]) [1, 2, 3, 4, 5, 0] rfl ?_
          exact J143 _ P122 v122_5 z62278 (Nat.lt_succ_self _) I122 X122 W122 (by omega) (by omega) (by omega) (by omega) (by omega) (by omega) (fun b9 e9 => by rw [e62241] at e9; cases e9; omega)
  have J114 : ∀ (P114 : PP) (v114_5 : Int32), (IM P114 a0) → (EM [0, 28, 29, 30, 31, 32, 35, 36, 37, 38, 41, 42] a0 P P114) → (MW P114 a0) → (0 ≤ a2.toInt ∧ a2.toInt ≤ 1) → (0 ≤ a4.toInt ∧ a4.toInt ≤ 19) → (1 ≤ v114_5.toInt ∧ v114_5.toInt ≤ 4) → (0 ≤ (pI P114 a0 0).toInt ∧ (pI P114 a0 0).toInt ≤ 0) → (∀ b, pR P114 a0 10 = some b → 1 ≤ (pI P114 b (a2.toInt.toNat)).toInt ∧ (pI P114 b (a2.toInt.toNat)).toInt ≤ 16) → G E ({ frames := 7, cells := 0, slots := 0, locals := 448 } : Room) D cy 9 P114 0 0 114 [(0, .ref a0), (2, .int a2), (4, .int a4), (5, .int v114_5)] [] := by
    intro P114 v114_5 I114 X114 W114 hv114_2 hv114_4 hv114_5 hq114_0 hq114_1
    have h62280 := X114.at ha0
    obtain ⟨b62281, e62282, h62283⟩ := I114.fld (h62280) 10 13 2 rfl
    have hq114_1 := hq114_1 b62281 e62282
    refine g_aload_n C dX12_guard_114 rfl 0 rfl ?_
    obtain ⟨b62284, e62285, h62286⟩ := I114.fld (h62280) 15 13 3 rfl
    refine g_getR C fi_X12_60 rfl e62285 (h62280).1 (h62280).2 dX12_guard_115 ?_
    refine g_iload_n C dX12_guard_118 rfl 1 rfl ?_
    refine g_iald (j := (a2.toInt.toNat)) C h62286.1 h62286.2.1 (ix_in h62286.2.2 (by omega)) dX12_guard_119 ?_
    have h62287 := I114.arr e62285 rfl (a2.toInt.toNat)
    refine g_topi (fun z62288 h62289 => ?_)
    have h62289 : z62288.toInt = (pI P114 b62284 (a2.toInt.toNat)).toInt := congrArg Int32.toInt h62289
    refine g_istore (lv' := [(6, .int z62288), (0, .ref a0), (2, .int a2), (4, .int a4), (5, .int v114_5)]) C dX12_guard_120 (by decide) rfl ?_
    refine g_lv (lv' := [(0, .ref a0), (2, .int a2), (4, .int a4), (5, .int v114_5), (6, .int z62288)]) [1, 2, 3, 4, 0] rfl ?_
    exact J122 _ P114 v114_5 z62288 (Nat.lt_succ_self _) I114 X114 W114 (by omega) (by omega) (by omega) (by omega) (by omega) (fun b9 e9 => by rw [e62282] at e9; cases e9; omega)
  have J70 : ∀ (n70 : Nat) (P70 : PP) (v70_5 : Int32) (v70_6 : Int32), (64 - v70_6.toInt).toNat < n70 → (IM P70 a0) → (EM [0, 28, 29, 30, 31, 32, 35, 36, 37, 38, 41, 42] a0 P P70) → (MW P70 a0) → (0 ≤ a2.toInt ∧ a2.toInt ≤ 1) → (0 ≤ a4.toInt ∧ a4.toInt ≤ 19) → (1 ≤ v70_5.toInt ∧ v70_5.toInt ≤ 4) → (0 ≤ v70_6.toInt ∧ v70_6.toInt ≤ 64) → (0 ≤ (pI P70 a0 0).toInt ∧ (pI P70 a0 0).toInt ≤ 0) → (∀ b, pR P70 a0 10 = some b → 1 ≤ (pI P70 b (a2.toInt.toNat)).toInt ∧ (pI P70 b (a2.toInt.toNat)).toInt ≤ 16) → G E ({ frames := 7, cells := 0, slots := 0, locals := 448 } : Room) D cy 9 P70 0 0 70 [(0, .ref a0), (2, .int a2), (4, .int a4), (5, .int v70_5), (6, .int v70_6)] [] := by
    intro n70
    induction n70 with
    | zero => intro P70 v70_5 v70_6 hm70 I70 X70 W70 hv70_2 hv70_4 hv70_5 hv70_6 hq70_0 hq70_1; omega
    | succ n70 ih70 =>
      intro P70 v70_5 v70_6 hm70 I70 X70 W70 hv70_2 hv70_4 hv70_5 hv70_6 hq70_0 hq70_1
      have h62290 := X70.at ha0
      obtain ⟨b62291, e62292, h62293⟩ := I70.fld (h62290) 10 13 2 rfl
      have hq70_1 := hq70_1 b62291 e62292
      have J106 : ∀ (P106 : PP) (v106_s0 : Int32), (IM P106 a0) → (EM [0, 28, 29, 30, 31, 32, 35, 36, 37, 38, 41, 42] a0 P P106) → (MW P106 a0) → (0 ≤ a2.toInt ∧ a2.toInt ≤ 1) → (0 ≤ a4.toInt ∧ a4.toInt ≤ 19) → (0 ≤ v70_6.toInt ∧ v70_6.toInt ≤ 63) → (1 ≤ v106_s0.toInt ∧ v106_s0.toInt ≤ 4) → (0 ≤ (pI P106 a0 0).toInt ∧ (pI P106 a0 0).toInt ≤ 0) → (∀ b, pR P106 a0 10 = some b → 1 ≤ (pI P106 b (a2.toInt.toNat)).toInt ∧ (pI P106 b (a2.toInt.toNat)).toInt ≤ 16) → G E ({ frames := 7, cells := 0, slots := 0, locals := 448 } : Room) D cy 9 P106 0 0 106 [(0, .ref a0), (2, .int a2), (4, .int a4), (6, .int v70_6)] [.int v106_s0] := by
        intro P106 v106_s0 I106 X106 W106 hv106_2 hv106_4 hv106_6 hv106_s0 hq106_0 hq106_1
        have h62294 := X106.at ha0
        obtain ⟨b62295, e62296, h62297⟩ := I106.fld (h62294) 10 13 2 rfl
        have hq106_1 := hq106_1 b62295 e62296
        refine g_istore (lv' := [(5, .int v106_s0), (0, .ref a0), (2, .int a2), (4, .int a4), (6, .int v70_6)]) C dX12_guard_106 (by decide) rfl ?_
        refine s_iinc (lv0 := [(5, .int v106_s0), (0, .ref a0), (2, .int a2), (4, .int a4)]) (m := 1) C dX12_guard_108 4 rfl (by decide) rfl (by decide) (by omega) (fun z62298 h62299 => ?_)
        have h62299 : z62298.toInt = v70_6.toInt + 1 := h62299
        refine g_goto C 70 dX12_guard_111 (by decide) ?_
        refine g_lv (lv' := [(0, .ref a0), (2, .int a2), (4, .int a4), (5, .int v106_s0), (6, .int z62298)]) [2, 3, 4, 1, 0] rfl ?_
        exact ih70 P106 v106_s0 z62298 (by omega) I106 X106 W106 (by omega) (by omega) (by omega) (by omega) (by omega) (fun b9 e9 => by rw [e62296] at e9; cases e9; omega)
      refine g_iload C dX12_guard_70 4 rfl ?_
      refine g_aload_n C dX12_guard_72 rfl 0 rfl ?_
      refine g_getI C fi_X12_305 (by decide) (h62290).1 (h62290).2 dX12_guard_73 ?_
      have h62300 := I70.rg (h62290) 28 rfl
      refine b_icmp_ge C 114 dX12_guard_76 (by decide) (fun h62301 => ?_) (fun h62301 => ?_)
      · have h62301 : (pI P70 a0 28).toInt ≤ v70_6.toInt := h62301
        refine g_lv (lv' := [(0, .ref a0), (2, .int a2), (4, .int a4), (5, .int v70_5)]) [0, 1, 2, 3] rfl ?_
        exact J114 P70 v70_5 I70 X70 W70 (by omega) (by omega) (by omega) (by omega) (fun b9 e9 => by rw [e62292] at e9; cases e9; omega)
      · have h62301 : v70_6.toInt < (pI P70 a0 28).toInt := h62301
        refine g_iload C dX12_guard_79 3 rfl ?_
        refine g_iconst (v := 1) C dX12_guard_81 (by decide) ?_
        refine b_icmp_le C 114 dX12_guard_82 (by decide) (fun h62302 => ?_) (fun h62302 => ?_)
        · have h62302 : v70_5.toInt ≤ 1 := h62302
          refine g_lv (lv' := [(0, .ref a0), (2, .int a2), (4, .int a4), (5, .int v70_5)]) [0, 1, 2, 3] rfl ?_
          exact J114 P70 v70_5 I70 X70 W70 (by omega) (by omega) (by omega) (by omega) (fun b9 e9 => by rw [e62292] at e9; cases e9; omega)
        · have h62302 : 1 < v70_5.toInt := h62302
          refine g_aload_n C dX12_guard_85 rfl 0 rfl ?_
          refine g_iload C dX12_guard_86 2 rfl ?_
          refine g_iload C dX12_guard_88 4 rfl ?_
          refine g_iload C dX12_guard_90 4 rfl ?_
          refine g_iload C dX12_guard_92 4 rfl ?_
          refine g_callVI (rest := []) C mv_X12_367 [.int a4, .int v70_6, .int v70_6, .int v70_6] (s_X12_isFixedWithout I70 (by omega) W70) (h62290).1 (h62290).2 rfl rfl (by decide) (Nat.le_of_ble_eq_true rfl) (by decide) dX12_guard_94 (fun r62303 Y62304 h62305 => ?_)
          obtain ⟨Iy62306, Xy62307, W62308, h62305⟩ := h62305
          have q62309 := Xy62307.keepF 0 (by decide)
          have q62310 := Xy62307.keepA e62292 (by decide) rfl (a2.toInt.toNat)
          have Xz62311 : EM [0, 28, 29, 30, 31, 32, 35, 36, 37, 38, 41, 42] a0 P Y62304 := EM.tr ha0 X70 (Xy62307.mono (by decide))
          have e62312 := Xy62307.ref h62290 (by decide) e62292
          have h62313 := Xy62307.at h62290
          have h62314 := Xy62307.ar h62293
          have h62305 : 0 ≤ r62303.toInt ∧ r62303.toInt ≤ 1 := h62305
          refine b_if_eq C 105 dX12_guard_97 (by decide) (fun h62315 => ?_) (fun h62315 => ?_)
          · have h62315 : r62303.toInt = 0 := congrArg Int32.toInt h62315
            refine g_iconst (v := 1) C dX12_guard_105 (by decide) ?_
            refine g_lv (lv' := [(0, .ref a0), (2, .int a2), (4, .int a4), (6, .int v70_6)]) [0, 1, 2, 4] rfl ?_
            exact J106 Y62304 1 Iy62306 Xz62311 W62308 (by omega) (by omega) (by omega) (by decide) (by omega) (fun b9 e9 => by rw [e62312] at e9; cases e9; omega)
          · have h62315 : r62303.toInt ≠ 0 := ti_ne h62315
            refine g_iload C dX12_guard_100 3 rfl ?_
            refine g_goto C 106 dX12_guard_102 (by decide) ?_
            refine g_lv (lv' := [(0, .ref a0), (2, .int a2), (4, .int a4), (6, .int v70_6)]) [0, 1, 2, 4] rfl ?_
            exact J106 Y62304 v70_5 Iy62306 Xz62311 W62308 (by omega) (by omega) (by omega) (by omega) (by omega) (fun b9 e9 => by rw [e62312] at e9; cases e9; omega)
  have J25 : ∀ (P25 : PP), (IM P25 a0) → (EM [0, 28, 29, 30, 31, 32, 35, 36, 37, 38, 41, 42] a0 P P25) → (MW P25 a0) → (0 ≤ (pI P25 a0 0).toInt ∧ (pI P25 a0 0).toInt ≤ 0) → G E ({ frames := 7, cells := 0, slots := 0, locals := 448 } : Room) D cy 9 P25 0 0 25 [] [] := by
    intro P25 I25 X25 W25 hq25_0
    have h62316 := X25.at ha0
    refine g_iconst (v := (-1)) C dX12_guard_25 (by decide) ?_
    exact ret _ _ _ _ _ _ dX12_guard_26 rfl (by decide) (by decide) ⟨I25, X25, W25, (by decide)⟩
  refine g_aload_n C dX12_guard_0 rfl 0 rfl ?_
  refine g_iconst (v := 0) C dX12_guard_1 (by decide) ?_
  refine g_putI C fi_X12_1 rfl (ha0).1 (ha0).2 dX12_guard_2 ?_
  refine gqW (ks := [0]) (I.setI (rgOk.of rfl (by decide))) (EM.setI I (by decide)) (fun Y62317 Iy62318 Xy62319 w62320 => ?_)
  have w62320 : (pI Y62317 a0 0).toInt = 0 := w62320
  have W62321 := hW.keep I Xy62319 (by decide) (by decide) (by decide)
  have Xz62322 : EM [0, 28, 29, 30, 31, 32, 35, 36, 37, 38, 41, 42] a0 P Y62317 := Xy62319.mono (by decide)
  have h62323 := Xy62319.at ha0
  refine g_aload_n C dX12_guard_5 rfl 0 rfl ?_
  refine g_iload_n C dX12_guard_6 rfl 1 rfl ?_
  refine g_iload_n C dX12_guard_7 rfl 2 rfl ?_
  refine g_iload_n C dX12_guard_8 rfl 3 rfl ?_
  refine g_callVI (rest := []) C mv_X12_333 [.int a1, .int a2, .int a3] (s_X12_isAsked Iy62318 W62321) (h62323).1 (h62323).2 rfl rfl (by decide) (Nat.le_of_ble_eq_true rfl) (by decide) dX12_guard_9 (fun r62324 Y62325 h62326 => ?_)
  obtain ⟨rfl, h62326⟩ := h62326
  obtain ⟨h62326, hi62327, hi62328⟩ := h62326
  have hi62327 : r62324.toInt = 0 ∨ (((0 : Int) ≤ a1.toInt ∧ a1.toInt ≤ (3 : Int)) ∧ ((0 : Int) ≤ a2.toInt ∧ a2.toInt ≤ (1 : Int)) ∧ ((0 : Int) ≤ a3.toInt ∧ a3.toInt ≤ (1 : Int))) := hi62327
  have h62326 : 0 ≤ r62324.toInt ∧ r62324.toInt ≤ 1 := h62326
  refine b_if_eq C 25 dX12_guard_12 (by decide) (fun h62329 => ?_) (fun h62329 => ?_)
  · have h62329 : r62324.toInt = 0 := congrArg Int32.toInt h62329
    clear hi62327
    refine g_lv (lv' := []) [] rfl ?_
    exact J25 Y62317 Iy62318 Xz62322 W62321 (by omega)
  · have h62329 : r62324.toInt ≠ 0 := ti_ne h62329
    replace hi62327 := hi62327.resolve_left (by omega)
    obtain ⟨b62330, e62331, h62332⟩ := Iy62318.fld (h62323) 10 13 2 rfl
    have hi62328 := (hi62328.resolve_left (by omega)) b62330 e62331
    have hi62328 : 0 < (pI Y62317 b62330 (a2.toInt.toNat)).toInt := hi62328
    have h62333 := Iy62318.arr e62331 rfl (a2.toInt.toNat)
    refine g_aload_n C dX12_guard_15 rfl 0 rfl ?_
    refine g_iload_n C dX12_guard_16 rfl 2 rfl ?_
    refine g_iload C dX12_guard_17 4 rfl ?_
    refine g_callVI (rest := []) C mv_X12_352 [.int a2, .int a4] (s_X12_isPage Iy62318 (by omega) W62321) (h62323).1 (h62323).2 rfl rfl (by decide) (Nat.le_of_ble_eq_true rfl) (by decide) dX12_guard_19 (fun r62334 Y62335 h62336 => ?_)
    obtain ⟨rfl, h62336⟩ := h62336
    obtain ⟨h62336, hi62337⟩ := h62336
    have hi62337 : r62334.toInt = 0 ∨ (((0 : Int) ≤ a4.toInt ∧ a4.toInt ≤ (19 : Int))) := hi62337
    have h62336 : 0 ≤ r62334.toInt ∧ r62334.toInt ≤ 1 := h62336
    refine b_if_ne C 27 dX12_guard_22 (by decide) (fun h62338 => ?_) (fun h62338 => ?_)
    · have h62338 : r62334.toInt ≠ 0 := ti_ne h62338
      replace hi62337 := hi62337.resolve_left (by omega)
      refine g_aload_n C dX12_guard_27 rfl 0 rfl ?_
      refine g_callVV (rest := []) C mv_X12_336 [] (s_X12_leavesNone Iy62318 W62321) (h62323).1 (h62323).2 rfl rfl (by decide) (Nat.le_of_ble_eq_true rfl) (by decide) dX12_guard_28 (fun Y62340 h62341 => ?_)
      obtain ⟨Iy62342, Xy62343, W62344⟩ := h62341
      have q62345 := Xy62343.keepF 0 (by decide)
      have q62346 := Xy62343.keepA e62331 (by decide) rfl (a2.toInt.toNat)
      have Xz62347 : EM [0, 28, 29, 30, 31, 32, 35, 36, 37, 38, 41, 42] a0 P Y62340 := EM.tr ha0 Xz62322 (Xy62343.mono (by decide))
      have e62348 := Xy62343.ref h62323 (by decide) e62331
      have h62349 := Xy62343.at h62323
      have h62350 := Xy62343.ar h62332
      refine g_aload_n C dX12_guard_31 rfl 0 rfl ?_
      refine g_iload_n C dX12_guard_32 rfl 1 rfl ?_
      refine g_iload_n C dX12_guard_33 rfl 2 rfl ?_
      refine g_iload_n C dX12_guard_34 rfl 3 rfl ?_
      refine g_aload_n C dX12_guard_35 rfl 0 rfl ?_
      obtain ⟨b62351, e62352, h62353⟩ := Iy62342.fld (h62349) 20 13 20 rfl
      refine g_getR C fi_X12_69 rfl e62352 (h62349).1 (h62349).2 dX12_guard_36 ?_
      refine g_iload_n C dX12_guard_39 rfl 1 rfl ?_
      refine g_iald (j := (a1.toInt.toNat)) C h62353.1 h62353.2.1 (ix_in h62353.2.2 (by omega)) dX12_guard_40 ?_
      have h62354 := Iy62342.arr e62352 rfl (a1.toInt.toNat)
      refine g_callVV (rest := []) C mv_X12_339 [.int a1, .int a2, .int a3, .int (pI Y62340 b62351 (a1.toInt.toNat))] (s_X12_gathers Iy62342 (by omega) (by omega) (by omega) (fun b9 e9 => by rw [e62348] at e9; cases e9; show 1 ≤ (pI Y62340 b62330 (a2.toInt.toNat)).toInt ∧ (pI Y62340 b62330 (a2.toInt.toNat)).toInt ≤ 16; omega) W62344) (h62349).1 (h62349).2 rfl rfl (by decide) (Nat.le_of_ble_eq_true rfl) (by decide) dX12_guard_41 (fun Y62356 h62357 => ?_)
      obtain ⟨Iy62358, Xy62359, W62360, p62361⟩ := h62357
      have p62361 : (pI Y62356 a0 28).toInt ≤ 4 + (pI Y62340 b62351 (a1.toInt.toNat)).toInt := p62361
      have q62362 := Xy62359.keepF 0 (by decide)
      have q62363 := Xy62359.keepA e62348 (by decide) rfl (a2.toInt.toNat)
      have q62364 := Xy62359.keepA e62352 (by decide) rfl (a1.toInt.toNat)
      have Xz62365 : EM [0, 28, 29, 30, 31, 32, 35, 36, 37, 38, 41, 42] a0 P Y62356 := EM.tr ha0 Xz62347 (Xy62359.mono (by decide))
      have e62366 := Xy62359.ref h62349 (by decide) e62348
      have e62367 := Xy62359.ref h62349 (by decide) e62352
      have h62368 := Xy62359.at h62349
      have h62369 := Xy62359.ar h62350
      have h62370 := Xy62359.ar h62353
      have h62371 := Iy62358.rg h62368 28 rfl
      refine g_aload_n C dX12_guard_44 rfl 0 rfl ?_
      refine g_callVV (rest := []) C mv_X12_346 [] (s_X12_findSolved Iy62358 W62360) (h62368).1 (h62368).2 rfl rfl (by decide) (Nat.le_of_ble_eq_true rfl) (by decide) dX12_guard_45 (fun Y62373 h62374 => ?_)
      obtain ⟨Iy62375, Xy62376, W62377⟩ := h62374
      have q62378 := Xy62376.keepF 0 (by decide)
      have q62379 := Xy62376.keepA e62366 (by decide) rfl (a2.toInt.toNat)
      have q62380 := Xy62376.keepA e62367 (by decide) rfl (a1.toInt.toNat)
      have q62381 := Xy62376.keepF 28 (by decide)
      have Xz62382 : EM [0, 28, 29, 30, 31, 32, 35, 36, 37, 38, 41, 42] a0 P Y62373 := EM.tr ha0 Xz62365 (Xy62376.mono (by decide))
      have e62383 := Xy62376.ref h62368 (by decide) e62366
      have e62384 := Xy62376.ref h62368 (by decide) e62367
      have h62385 := Xy62376.at h62368
      have h62386 := Xy62376.ar h62369
      have h62387 := Xy62376.ar h62370
      refine g_aload_n C dX12_guard_48 rfl 0 rfl ?_
      refine g_iload C dX12_guard_49 4 rfl ?_
      refine g_callVI (rest := []) C mv_X12_330 [.int a4] (s_X12_isFixed Iy62375 (by omega) W62377) (h62385).1 (h62385).2 rfl rfl (by decide) (Nat.le_of_ble_eq_true rfl) (by decide) dX12_guard_51 (fun r62388 Y62389 h62390 => ?_)
      obtain ⟨rfl, h62390⟩ := h62390
      have h62390 : 0 ≤ r62388.toInt ∧ r62388.toInt ≤ 1 := h62390
      refine b_if_ne C 59 dX12_guard_54 (by decide) (fun h62391 => ?_) (fun h62391 => ?_)
      · have h62391 : r62388.toInt ≠ 0 := ti_ne h62391
        refine g_iconst (v := 4) C dX12_guard_59 (by decide) ?_
        refine g_istore (lv' := [(5, .int 4), (0, .ref a0), (1, .int a1), (2, .int a2), (3, .int a3), (4, .int a4)]) C dX12_guard_60 (by decide) rfl ?_
        refine g_aload_n C dX12_guard_62 rfl 1 rfl ?_
        obtain ⟨b62392, e62393, h62394⟩ := Iy62375.fld (h62385) 15 13 3 rfl
        refine g_getR C fi_X12_60 rfl e62393 (h62385).1 (h62385).2 dX12_guard_63 ?_
        refine g_iload_n C dX12_guard_66 rfl 3 rfl ?_
        refine g_iald (j := (a2.toInt.toNat)) C h62394.1 h62394.2.1 (ix_in h62394.2.2 (by omega)) dX12_guard_67 ?_
        have h62395 := Iy62375.arr e62393 rfl (a2.toInt.toNat)
        refine g_topi (fun z62396 h62397 => ?_)
        have h62397 : z62396.toInt = (pI Y62373 b62392 (a2.toInt.toNat)).toInt := congrArg Int32.toInt h62397
        refine g_istore (lv' := [(6, .int z62396), (5, .int 4), (0, .ref a0), (1, .int a1), (2, .int a2), (3, .int a3), (4, .int a4)]) C dX12_guard_68 (by decide) rfl ?_
        refine g_lv (lv' := [(0, .ref a0), (2, .int a2), (4, .int a4), (5, .int 4), (6, .int z62396)]) [2, 4, 6, 1, 0] rfl ?_
        exact J70 _ Y62373 4 z62396 (Nat.lt_succ_self _) Iy62375 Xz62382 W62377 (by omega) (by omega) (by decide) (by omega) (by omega) (fun b9 e9 => by rw [e62383] at e9; cases e9; omega)
      · have h62391 : r62388.toInt = 0 := congrArg Int32.toInt h62391
        refine g_iconst (v := (-1)) C dX12_guard_57 (by decide) ?_
        exact ret _ _ _ _ _ _ dX12_guard_58 rfl (by decide) (by decide) ⟨Iy62375, Xz62382, W62377, (by decide)⟩
    · have h62338 : r62334.toInt = 0 := congrArg Int32.toInt h62338
      clear hi62337
      refine g_lv (lv' := []) [] rfl ?_
      exact J25 Y62317 Iy62318 Xz62322 W62321 (by omega)
theorem dX12_hasAlike_0 : decode cX12_hasAlike 0 = .ok (.iconst 0, 1) := by decide +kernel
theorem dX12_hasAlike_1 : decode cX12_hasAlike 1 = .ok (.istore_n 3, 1) := by decide +kernel
theorem dX12_hasAlike_2 : decode cX12_hasAlike 2 = .ok (.iconst 0, 1) := by decide +kernel
theorem dX12_hasAlike_3 : decode cX12_hasAlike 3 = .ok (.istore 4, 2) := by decide +kernel
theorem dX12_hasAlike_5 : decode cX12_hasAlike 5 = .ok (.iload 4, 2) := by decide +kernel
theorem dX12_hasAlike_7 : decode cX12_hasAlike 7 = .ok (.aload_n 0, 1) := by decide +kernel
theorem dX12_hasAlike_8 : decode cX12_hasAlike 8 = .ok (.getfield 69, 3) := by decide +kernel
theorem dX12_hasAlike_11 : decode cX12_hasAlike 11 = .ok (.iload_n 1, 1) := by decide +kernel
theorem dX12_hasAlike_12 : decode cX12_hasAlike 12 = .ok (.iaload, 1) := by decide +kernel
theorem dX12_hasAlike_13 : decode cX12_hasAlike 13 = .ok (.if_icmp .ge 45, 3) := by decide +kernel
theorem dX12_hasAlike_16 : decode cX12_hasAlike 16 = .ok (.iload_n 3, 1) := by decide +kernel
theorem dX12_hasAlike_17 : decode cX12_hasAlike 17 = .ok (.ifCond .ne 29, 3) := by decide +kernel
theorem dX12_hasAlike_20 : decode cX12_hasAlike 20 = .ok (.bipush 40, 2) := by decide +kernel
theorem dX12_hasAlike_22 : decode cX12_hasAlike 22 = .ok (.iload_n 1, 1) := by decide +kernel
theorem dX12_hasAlike_23 : decode cX12_hasAlike 23 = .ok (.imul, 1) := by decide +kernel
theorem dX12_hasAlike_24 : decode cX12_hasAlike 24 = .ok (.iload 4, 2) := by decide +kernel
theorem dX12_hasAlike_26 : decode cX12_hasAlike 26 = .ok (.iadd, 1) := by decide +kernel
theorem dX12_hasAlike_27 : decode cX12_hasAlike 27 = .ok (.iload_n 2, 1) := by decide +kernel
theorem dX12_hasAlike_28 : decode cX12_hasAlike 28 = .ok (.if_icmp .eq 22, 3) := by decide +kernel
theorem dX12_hasAlike_31 : decode cX12_hasAlike 31 = .ok (.aload_n 0, 1) := by decide +kernel
theorem dX12_hasAlike_32 : decode cX12_hasAlike 32 = .ok (.bipush 40, 2) := by decide +kernel
theorem dX12_hasAlike_34 : decode cX12_hasAlike 34 = .ok (.iload_n 1, 1) := by decide +kernel
theorem dX12_hasAlike_35 : decode cX12_hasAlike 35 = .ok (.imul, 1) := by decide +kernel
theorem dX12_hasAlike_36 : decode cX12_hasAlike 36 = .ok (.iload 4, 2) := by decide +kernel
theorem dX12_hasAlike_38 : decode cX12_hasAlike 38 = .ok (.iadd, 1) := by decide +kernel
theorem dX12_hasAlike_39 : decode cX12_hasAlike 39 = .ok (.iload_n 2, 1) := by decide +kernel
theorem dX12_hasAlike_40 : decode cX12_hasAlike 40 = .ok (.invokevirtual 399, 3) := by decide +kernel
theorem dX12_hasAlike_58 : decode cX12_hasAlike 58 = .ok (.iload_n 3, 1) := by decide +kernel
theorem dX12_hasAlike_59 : decode cX12_hasAlike 59 = .ok (.ireturn, 1) := by decide +kernel
theorem dX12_isAlike_0 : decode cX12_isAlike 0 = .ok (.aload_n 0, 1) := by decide +kernel
theorem dX12_isAlike_1 : decode cX12_isAlike 1 = .ok (.getfield 72, 3) := by decide +kernel
theorem dX12_isAlike_4 : decode cX12_isAlike 4 = .ok (.iload_n 1, 1) := by decide +kernel
theorem dX12_isAlike_5 : decode cX12_isAlike 5 = .ok (.iaload, 1) := by decide +kernel
theorem dX12_isAlike_6 : decode cX12_isAlike 6 = .ok (.aload_n 0, 1) := by decide +kernel
theorem dX12_isAlike_7 : decode cX12_isAlike 7 = .ok (.getfield 72, 3) := by decide +kernel
theorem dX12_isAlike_10 : decode cX12_isAlike 10 = .ok (.iload_n 2, 1) := by decide +kernel
theorem dX12_isAlike_11 : decode cX12_isAlike 11 = .ok (.iaload, 1) := by decide +kernel
theorem dX12_isAlike_12 : decode cX12_isAlike 12 = .ok (.if_icmp .ne 67, 3) := by decide +kernel
theorem dX12_isAlike_15 : decode cX12_isAlike 15 = .ok (.aload_n 0, 1) := by decide +kernel
theorem dX12_isAlike_16 : decode cX12_isAlike 16 = .ok (.getfield 75, 3) := by decide +kernel
theorem dX12_isAlike_19 : decode cX12_isAlike 19 = .ok (.iload_n 1, 1) := by decide +kernel
theorem dX12_isAlike_20 : decode cX12_isAlike 20 = .ok (.iaload, 1) := by decide +kernel
theorem dX12_isAlike_21 : decode cX12_isAlike 21 = .ok (.aload_n 0, 1) := by decide +kernel
theorem dX12_isAlike_22 : decode cX12_isAlike 22 = .ok (.getfield 75, 3) := by decide +kernel
theorem dX12_isAlike_25 : decode cX12_isAlike 25 = .ok (.iload_n 2, 1) := by decide +kernel
theorem dX12_isAlike_26 : decode cX12_isAlike 26 = .ok (.iaload, 1) := by decide +kernel
theorem dX12_isAlike_27 : decode cX12_isAlike 27 = .ok (.if_icmp .ne 52, 3) := by decide +kernel
theorem dX12_isAlike_30 : decode cX12_isAlike 30 = .ok (.aload_n 0, 1) := by decide +kernel
theorem dX12_isAlike_31 : decode cX12_isAlike 31 = .ok (.getfield 78, 3) := by decide +kernel
theorem dX12_isAlike_34 : decode cX12_isAlike 34 = .ok (.iload_n 1, 1) := by decide +kernel
theorem dX12_isAlike_35 : decode cX12_isAlike 35 = .ok (.iaload, 1) := by decide +kernel
theorem dX12_isAlike_36 : decode cX12_isAlike 36 = .ok (.aload_n 0, 1) := by decide +kernel
theorem dX12_isAlike_37 : decode cX12_isAlike 37 = .ok (.getfield 78, 3) := by decide +kernel
theorem dX12_isAlike_40 : decode cX12_isAlike 40 = .ok (.iload_n 2, 1) := by decide +kernel
theorem dX12_isAlike_41 : decode cX12_isAlike 41 = .ok (.iaload, 1) := by decide +kernel
theorem dX12_isAlike_42 : decode cX12_isAlike 42 = .ok (.if_icmp .ne 37, 3) := by decide +kernel
theorem dX12_isAlike_45 : decode cX12_isAlike 45 = .ok (.aload_n 0, 1) := by decide +kernel
theorem dX12_isAlike_46 : decode cX12_isAlike 46 = .ok (.getfield 81, 3) := by decide +kernel
theorem dX12_isAlike_49 : decode cX12_isAlike 49 = .ok (.iload_n 1, 1) := by decide +kernel
theorem dX12_isAlike_50 : decode cX12_isAlike 50 = .ok (.iaload, 1) := by decide +kernel
theorem dX12_isAlike_51 : decode cX12_isAlike 51 = .ok (.aload_n 0, 1) := by decide +kernel
theorem dX12_isAlike_52 : decode cX12_isAlike 52 = .ok (.getfield 81, 3) := by decide +kernel
theorem dX12_isAlike_55 : decode cX12_isAlike 55 = .ok (.iload_n 2, 1) := by decide +kernel
theorem dX12_isAlike_56 : decode cX12_isAlike 56 = .ok (.iaload, 1) := by decide +kernel
theorem dX12_isAlike_57 : decode cX12_isAlike 57 = .ok (.if_icmp .ne 22, 3) := by decide +kernel
theorem dX12_isAlike_60 : decode cX12_isAlike 60 = .ok (.aload_n 0, 1) := by decide +kernel
theorem dX12_isAlike_61 : decode cX12_isAlike 61 = .ok (.getfield 84, 3) := by decide +kernel
theorem dX12_isAlike_64 : decode cX12_isAlike 64 = .ok (.iload_n 1, 1) := by decide +kernel
theorem dX12_isAlike_65 : decode cX12_isAlike 65 = .ok (.iaload, 1) := by decide +kernel
theorem dX12_isAlike_66 : decode cX12_isAlike 66 = .ok (.aload_n 0, 1) := by decide +kernel
theorem dX12_isAlike_67 : decode cX12_isAlike 67 = .ok (.getfield 84, 3) := by decide +kernel
theorem dX12_isAlike_70 : decode cX12_isAlike 70 = .ok (.iload_n 2, 1) := by decide +kernel
theorem dX12_isAlike_71 : decode cX12_isAlike 71 = .ok (.iaload, 1) := by decide +kernel
theorem dX12_isAlike_72 : decode cX12_isAlike 72 = .ok (.if_icmp .ne 7, 3) := by decide +kernel
theorem dX12_isAlike_75 : decode cX12_isAlike 75 = .ok (.iconst 1, 1) := by decide +kernel
theorem dX12_isAlike_76 : decode cX12_isAlike 76 = .ok (.goto 4, 3) := by decide +kernel
theorem dX12_isAlike_79 : decode cX12_isAlike 79 = .ok (.iconst 0, 1) := by decide +kernel
theorem dX12_isAlike_80 : decode cX12_isAlike 80 = .ok (.ireturn, 1) := by decide +kernel
set_option maxHeartbeats 4000000 in
set_option maxRecDepth 100000 in
theorem s_X12_isAlike {P : PP} {a0 : Nat} {a1 : Int32} {a2 : Int32} (I : IM P a0) (ha1 : 0 ≤ a1.toInt ∧ a1.toInt ≤ 799) (ha2 : 0 ≤ a2.toInt ∧ a2.toInt ≤ 799) (hW : MW P a0) : CtrI yX12_isAlike cX12_isAlike 3 (some Jvm.ClassFile.FieldType.boolean) ({ frames := 1, cells := 0, slots := 0, locals := 64 } : Room) 0 0 P [.ref a0, .int a1, .int a2] (fun r P2 => P = P2 ∧ (0 ≤ r.toInt ∧ r.toInt ≤ 1)) := by
  refine enI (lv := [(0, .ref a0), (1, .int a1), (2, .int a2)]) (by decide) (Nat.le_of_ble_eq_true rfl) rfl (fun E D cy C Ci0 ret => ?_)
  have ha0 := I.2.1
  have J79 : G E ({ frames := 1, cells := 0, slots := 0, locals := 64 } : Room) D cy 3 P 0 0 79 [] [] := by
    refine g_iconst (v := 0) C dX12_isAlike_79 (by decide) ?_
    exact ret _ _ _ _ _ _ dX12_isAlike_80 rfl (by decide) (by decide) ⟨rfl, (by decide)⟩
  refine g_aload_n C dX12_isAlike_0 rfl 0 rfl ?_
  obtain ⟨b62443, e62444, h62445⟩ := I.fld (ha0) 21 13 800 rfl
  refine g_getR C fi_X12_72 rfl e62444 (ha0).1 (ha0).2 dX12_isAlike_1 ?_
  refine g_iload_n C dX12_isAlike_4 rfl 1 rfl ?_
  refine g_iald (j := (a1.toInt.toNat)) C h62445.1 h62445.2.1 (ix_in h62445.2.2 (by omega)) dX12_isAlike_5 ?_
  refine g_aload_n C dX12_isAlike_6 rfl 0 rfl ?_
  refine g_getR C fi_X12_72 rfl e62444 (ha0).1 (ha0).2 dX12_isAlike_7 ?_
  refine g_iload_n C dX12_isAlike_10 rfl 2 rfl ?_
  refine g_iald (j := (a2.toInt.toNat)) C h62445.1 h62445.2.1 (ix_in h62445.2.2 (by omega)) dX12_isAlike_11 ?_
  have u62447 := ti_rng (pI P b62443 (a1.toInt.toNat))
  have u62448 := ti_rng (pI P b62443 (a2.toInt.toNat))
  refine b_icmp_ne C 79 dX12_isAlike_12 (by decide) (fun h62446 => ?_) (fun h62446 => ?_)
  · have h62446 : (pI P b62443 (a1.toInt.toNat)).toInt ≠ (pI P b62443 (a2.toInt.toNat)).toInt := ti_ne h62446
    refine g_lv (lv' := []) [] rfl ?_
    exact J79 
  · have h62446 : (pI P b62443 (a1.toInt.toNat)).toInt = (pI P b62443 (a2.toInt.toNat)).toInt := congrArg Int32.toInt h62446
    refine g_aload_n C dX12_isAlike_15 rfl 0 rfl ?_
    obtain ⟨b62449, e62450, h62451⟩ := I.fld (ha0) 22 13 800 rfl
    refine g_getR C fi_X12_75 rfl e62450 (ha0).1 (ha0).2 dX12_isAlike_16 ?_
    refine g_iload_n C dX12_isAlike_19 rfl 1 rfl ?_
    refine g_iald (j := (a1.toInt.toNat)) C h62451.1 h62451.2.1 (ix_in h62451.2.2 (by omega)) dX12_isAlike_20 ?_
    have h62452 := I.arr e62450 rfl (a1.toInt.toNat)
    refine g_aload_n C dX12_isAlike_21 rfl 0 rfl ?_
    refine g_getR C fi_X12_75 rfl e62450 (ha0).1 (ha0).2 dX12_isAlike_22 ?_
    refine g_iload_n C dX12_isAlike_25 rfl 2 rfl ?_
    refine g_iald (j := (a2.toInt.toNat)) C h62451.1 h62451.2.1 (ix_in h62451.2.2 (by omega)) dX12_isAlike_26 ?_
    have h62453 := I.arr e62450 rfl (a2.toInt.toNat)
    refine b_icmp_ne C 79 dX12_isAlike_27 (by decide) (fun h62454 => ?_) (fun h62454 => ?_)
    · have h62454 : (pI P b62449 (a1.toInt.toNat)).toInt ≠ (pI P b62449 (a2.toInt.toNat)).toInt := ti_ne h62454
      refine g_lv (lv' := []) [] rfl ?_
      exact J79 
    · have h62454 : (pI P b62449 (a1.toInt.toNat)).toInt = (pI P b62449 (a2.toInt.toNat)).toInt := congrArg Int32.toInt h62454
      refine g_aload_n C dX12_isAlike_30 rfl 0 rfl ?_
      obtain ⟨b62455, e62456, h62457⟩ := I.fld (ha0) 23 13 800 rfl
      refine g_getR C fi_X12_78 rfl e62456 (ha0).1 (ha0).2 dX12_isAlike_31 ?_
      refine g_iload_n C dX12_isAlike_34 rfl 1 rfl ?_
      refine g_iald (j := (a1.toInt.toNat)) C h62457.1 h62457.2.1 (ix_in h62457.2.2 (by omega)) dX12_isAlike_35 ?_
      refine g_aload_n C dX12_isAlike_36 rfl 0 rfl ?_
      refine g_getR C fi_X12_78 rfl e62456 (ha0).1 (ha0).2 dX12_isAlike_37 ?_
      refine g_iload_n C dX12_isAlike_40 rfl 2 rfl ?_
      refine g_iald (j := (a2.toInt.toNat)) C h62457.1 h62457.2.1 (ix_in h62457.2.2 (by omega)) dX12_isAlike_41 ?_
      have u62459 := ti_rng (pI P b62455 (a1.toInt.toNat))
      have u62460 := ti_rng (pI P b62455 (a2.toInt.toNat))
      refine b_icmp_ne C 79 dX12_isAlike_42 (by decide) (fun h62458 => ?_) (fun h62458 => ?_)
      · have h62458 : (pI P b62455 (a1.toInt.toNat)).toInt ≠ (pI P b62455 (a2.toInt.toNat)).toInt := ti_ne h62458
        refine g_lv (lv' := []) [] rfl ?_
        exact J79 
      · have h62458 : (pI P b62455 (a1.toInt.toNat)).toInt = (pI P b62455 (a2.toInt.toNat)).toInt := congrArg Int32.toInt h62458
        refine g_aload_n C dX12_isAlike_45 rfl 0 rfl ?_
        obtain ⟨b62461, e62462, h62463⟩ := I.fld (ha0) 24 13 800 rfl
        refine g_getR C fi_X12_81 rfl e62462 (ha0).1 (ha0).2 dX12_isAlike_46 ?_
        refine g_iload_n C dX12_isAlike_49 rfl 1 rfl ?_
        refine g_iald (j := (a1.toInt.toNat)) C h62463.1 h62463.2.1 (ix_in h62463.2.2 (by omega)) dX12_isAlike_50 ?_
        refine g_aload_n C dX12_isAlike_51 rfl 0 rfl ?_
        refine g_getR C fi_X12_81 rfl e62462 (ha0).1 (ha0).2 dX12_isAlike_52 ?_
        refine g_iload_n C dX12_isAlike_55 rfl 2 rfl ?_
        refine g_iald (j := (a2.toInt.toNat)) C h62463.1 h62463.2.1 (ix_in h62463.2.2 (by omega)) dX12_isAlike_56 ?_
        have u62465 := ti_rng (pI P b62461 (a1.toInt.toNat))
        have u62466 := ti_rng (pI P b62461 (a2.toInt.toNat))
        refine b_icmp_ne C 79 dX12_isAlike_57 (by decide) (fun h62464 => ?_) (fun h62464 => ?_)
        · have h62464 : (pI P b62461 (a1.toInt.toNat)).toInt ≠ (pI P b62461 (a2.toInt.toNat)).toInt := ti_ne h62464
          refine g_lv (lv' := []) [] rfl ?_
          exact J79 
        · have h62464 : (pI P b62461 (a1.toInt.toNat)).toInt = (pI P b62461 (a2.toInt.toNat)).toInt := congrArg Int32.toInt h62464
          refine g_aload_n C dX12_isAlike_60 rfl 0 rfl ?_
          obtain ⟨b62467, e62468, h62469⟩ := I.fld (ha0) 25 13 800 rfl
          refine g_getR C fi_X12_84 rfl e62468 (ha0).1 (ha0).2 dX12_isAlike_61 ?_
          refine g_iload_n C dX12_isAlike_64 rfl 1 rfl ?_
          refine g_iald (j := (a1.toInt.toNat)) C h62469.1 h62469.2.1 (ix_in h62469.2.2 (by omega)) dX12_isAlike_65 ?_
          refine g_aload_n C dX12_isAlike_66 rfl 0 rfl ?_
          refine g_getR C fi_X12_84 rfl e62468 (ha0).1 (ha0).2 dX12_isAlike_67 ?_
          refine g_iload_n C dX12_isAlike_70 rfl 2 rfl ?_
          refine g_iald (j := (a2.toInt.toNat)) C h62469.1 h62469.2.1 (ix_in h62469.2.2 (by omega)) dX12_isAlike_71 ?_
          have u62471 := ti_rng (pI P b62467 (a1.toInt.toNat))
          have u62472 := ti_rng (pI P b62467 (a2.toInt.toNat))
          refine b_icmp_ne C 79 dX12_isAlike_72 (by decide) (fun h62470 => ?_) (fun h62470 => ?_)
          · have h62470 : (pI P b62467 (a1.toInt.toNat)).toInt ≠ (pI P b62467 (a2.toInt.toNat)).toInt := ti_ne h62470
            refine g_lv (lv' := []) [] rfl ?_
            exact J79 
          · have h62470 : (pI P b62467 (a1.toInt.toNat)).toInt = (pI P b62467 (a2.toInt.toNat)).toInt := congrArg Int32.toInt h62470
            refine g_iconst (v := 1) C dX12_isAlike_75 (by decide) ?_
            refine g_goto C 80 dX12_isAlike_76 (by decide) ?_
            exact ret _ _ _ _ _ _ dX12_isAlike_80 rfl (by decide) (by decide) ⟨rfl, (by decide)⟩
theorem dX12_hasAlike_43 : decode cX12_hasAlike 43 = .ok (.ifCond .eq 7, 3) := by decide +kernel
theorem dX12_hasAlike_46 : decode cX12_hasAlike 46 = .ok (.iconst 1, 1) := by decide +kernel
theorem dX12_hasAlike_47 : decode cX12_hasAlike 47 = .ok (.goto 4, 3) := by decide +kernel
theorem dX12_hasAlike_50 : decode cX12_hasAlike 50 = .ok (.iconst 0, 1) := by decide +kernel
theorem dX12_hasAlike_51 : decode cX12_hasAlike 51 = .ok (.istore_n 3, 1) := by decide +kernel
theorem dX12_hasAlike_52 : decode cX12_hasAlike 52 = .ok (.iinc 4 1, 3) := by decide +kernel
theorem dX12_hasAlike_55 : decode cX12_hasAlike 55 = .ok (.goto (-50), 3) := by decide +kernel
set_option maxHeartbeats 4000000 in
set_option maxRecDepth 100000 in
theorem s_X12_hasAlike {P : PP} {a0 : Nat} {a1 : Int32} {a2 : Int32} (I : IM P a0) (ha1 : 0 ≤ a1.toInt ∧ a1.toInt ≤ 3) (ha2 : 0 ≤ a2.toInt ∧ a2.toInt ≤ 799) (hW : MW P a0) : CtrI yX12_hasAlike cX12_hasAlike 5 (some Jvm.ClassFile.FieldType.boolean) ({ frames := 2, cells := 0, slots := 0, locals := 128 } : Room) 0 0 P [.ref a0, .int a1, .int a2] (fun r P2 => P = P2 ∧ (0 ≤ r.toInt ∧ r.toInt ≤ 1)) := by
  refine enI (lv := [(0, .ref a0), (1, .int a1), (2, .int a2)]) (by decide) (Nat.le_of_ble_eq_true rfl) rfl (fun E D cy C Ci0 ret => ?_)
  have ha0 := I.2.1
  have J5 : ∀ (n5 : Nat) (v5_3 : Int32) (v5_4 : Int32), (40 - v5_4.toInt).toNat < n5 → (0 ≤ v5_3.toInt ∧ v5_3.toInt ≤ 1) → (0 ≤ v5_4.toInt ∧ v5_4.toInt ≤ 40) → G E ({ frames := 2, cells := 0, slots := 0, locals := 128 } : Room) D cy 5 P 0 0 5 [(0, .ref a0), (1, .int a1), (2, .int a2), (3, .int v5_3), (4, .int v5_4)] [] := by
    intro n5
    induction n5 with
    | zero => intro v5_3 v5_4 hm5 hv5_3 hv5_4; omega
    | succ n5 ih5 =>
      intro v5_3 v5_4 hm5 hv5_3 hv5_4
      have J51 : ∀ (v51_s0 : Int32), (0 ≤ v5_4.toInt ∧ v5_4.toInt ≤ 39) → (0 ≤ v51_s0.toInt ∧ v51_s0.toInt ≤ 1) → (∀ b, pR P a0 20 = some b → 1 ≤ (pI P b (a1.toInt.toNat)).toInt ∧ (pI P b (a1.toInt.toNat)).toInt ≤ 40) → G E ({ frames := 2, cells := 0, slots := 0, locals := 128 } : Room) D cy 5 P 0 0 51 [(0, .ref a0), (1, .int a1), (2, .int a2), (4, .int v5_4)] [.int v51_s0] := by
        intro v51_s0 hv51_4 hv51_s0 hq51_0
        obtain ⟨b62923, e62924, h62925⟩ := I.fld (ha0) 20 13 20 rfl
        have hq51_0 := hq51_0 b62923 e62924
        refine g_istore_n (lv' := [(3, .int v51_s0), (0, .ref a0), (1, .int a1), (2, .int a2), (4, .int v5_4)]) C dX12_hasAlike_51 rfl (by decide) rfl ?_
        refine s_iinc (lv0 := [(3, .int v51_s0), (0, .ref a0), (1, .int a1), (2, .int a2)]) (m := 1) C dX12_hasAlike_52 4 rfl (by decide) rfl (by decide) (by omega) (fun z62926 h62927 => ?_)
        have h62927 : z62926.toInt = v5_4.toInt + 1 := h62927
        refine g_goto C 5 dX12_hasAlike_55 (by decide) ?_
        refine g_lv (lv' := [(0, .ref a0), (1, .int a1), (2, .int a2), (3, .int v51_s0), (4, .int z62926)]) [2, 3, 4, 1, 0] rfl ?_
        exact ih5 v51_s0 z62926 (by omega) (by omega) (by omega)
      have J50 : (0 ≤ v5_4.toInt ∧ v5_4.toInt ≤ 39) → (∀ b, pR P a0 20 = some b → 1 ≤ (pI P b (a1.toInt.toNat)).toInt ∧ (pI P b (a1.toInt.toNat)).toInt ≤ 40) → G E ({ frames := 2, cells := 0, slots := 0, locals := 128 } : Room) D cy 5 P 0 0 50 [(0, .ref a0), (1, .int a1), (2, .int a2), (4, .int v5_4)] [] := by
        intro hv50_4 hq50_0
        obtain ⟨b62928, e62929, h62930⟩ := I.fld (ha0) 20 13 20 rfl
        have hq50_0 := hq50_0 b62928 e62929
        refine g_iconst (v := 0) C dX12_hasAlike_50 (by decide) ?_
        exact J51 0 (by omega) (by decide) (fun b9 e9 => by rw [e62929] at e9; cases e9; omega)
      have J46 : (0 ≤ v5_4.toInt ∧ v5_4.toInt ≤ 39) → (∀ b, pR P a0 20 = some b → 1 ≤ (pI P b (a1.toInt.toNat)).toInt ∧ (pI P b (a1.toInt.toNat)).toInt ≤ 40) → G E ({ frames := 2, cells := 0, slots := 0, locals := 128 } : Room) D cy 5 P 0 0 46 [(0, .ref a0), (1, .int a1), (2, .int a2), (4, .int v5_4)] [] := by
        intro hv46_4 hq46_0
        obtain ⟨b62931, e62932, h62933⟩ := I.fld (ha0) 20 13 20 rfl
        have hq46_0 := hq46_0 b62931 e62932
        refine g_iconst (v := 1) C dX12_hasAlike_46 (by decide) ?_
        refine g_goto C 51 dX12_hasAlike_47 (by decide) ?_
        exact J51 1 (by omega) (by decide) (fun b9 e9 => by rw [e62932] at e9; cases e9; omega)
      refine g_iload C dX12_hasAlike_5 4 rfl ?_
      refine g_aload_n C dX12_hasAlike_7 rfl 0 rfl ?_
      obtain ⟨b62934, e62935, h62936⟩ := I.fld (ha0) 20 13 20 rfl
      refine g_getR C fi_X12_69 rfl e62935 (ha0).1 (ha0).2 dX12_hasAlike_8 ?_
      refine g_iload_n C dX12_hasAlike_11 rfl 1 rfl ?_
      refine g_iald (j := (a1.toInt.toNat)) C h62936.1 h62936.2.1 (ix_in h62936.2.2 (by omega)) dX12_hasAlike_12 ?_
      have h62937 := I.arr e62935 rfl (a1.toInt.toNat)
      refine b_icmp_ge C 58 dX12_hasAlike_13 (by decide) (fun h62938 => ?_) (fun h62938 => ?_)
      · have h62938 : (pI P b62934 (a1.toInt.toNat)).toInt ≤ v5_4.toInt := h62938
        refine g_iload_n C dX12_hasAlike_58 rfl 3 rfl ?_
        exact ret _ _ _ _ _ _ dX12_hasAlike_59 (nar_b (b01 (by omega))) (by decide) (by decide) ⟨rfl, (by omega)⟩
      · have h62938 : v5_4.toInt < (pI P b62934 (a1.toInt.toNat)).toInt := h62938
        refine g_iload_n C dX12_hasAlike_16 rfl 3 rfl ?_
        refine b_if_ne C 46 dX12_hasAlike_17 (by decide) (fun h62939 => ?_) (fun h62939 => ?_)
        · have h62939 : v5_3.toInt ≠ 0 := ti_ne h62939
          refine g_lv (lv' := [(0, .ref a0), (1, .int a1), (2, .int a2), (4, .int v5_4)]) [0, 1, 2, 4] rfl ?_
          exact J46 (by omega) (fun b9 e9 => by rw [e62935] at e9; cases e9; omega)
        · have h62939 : v5_3.toInt = 0 := congrArg Int32.toInt h62939
          refine g_bipush (v := 40) C dX12_hasAlike_20 (by decide) ?_
          refine g_iload_n C dX12_hasAlike_22 rfl 1 rfl ?_
          refine s_imul C dX12_hasAlike_23 (by show -2147483648 ≤ 40 * a1.toInt ∧ 40 * a1.toInt ≤ 2147483647; omega) (fun z62940 h62941 => ?_)
          have h62941 : z62940.toInt = 40 * a1.toInt := h62941
          refine g_iload C dX12_hasAlike_24 4 rfl ?_
          refine s_iadd C dX12_hasAlike_26 (by show -2147483648 ≤ z62940.toInt + v5_4.toInt ∧ z62940.toInt + v5_4.toInt ≤ 2147483647; omega) (fun z62942 h62943 => ?_)
          have h62943 : z62942.toInt = z62940.toInt + v5_4.toInt := h62943
          refine g_iload_n C dX12_hasAlike_27 rfl 2 rfl ?_
          refine b_icmp_eq C 50 dX12_hasAlike_28 (by decide) (fun h62944 => ?_) (fun h62944 => ?_)
          · have h62944 : z62942.toInt = a2.toInt := congrArg Int32.toInt h62944
            refine g_lv (lv' := [(0, .ref a0), (1, .int a1), (2, .int a2), (4, .int v5_4)]) [0, 1, 2, 4] rfl ?_
            exact J50 (by omega) (fun b9 e9 => by rw [e62935] at e9; cases e9; omega)
          · have h62944 : z62942.toInt ≠ a2.toInt := ti_ne h62944
            refine g_aload_n C dX12_hasAlike_31 rfl 0 rfl ?_
            refine g_bipush (v := 40) C dX12_hasAlike_32 (by decide) ?_
            refine g_iload_n C dX12_hasAlike_34 rfl 1 rfl ?_
            refine s_imul C dX12_hasAlike_35 (by show -2147483648 ≤ 40 * a1.toInt ∧ 40 * a1.toInt ≤ 2147483647; omega) (fun z62945 h62946 => ?_)
            have h62946 : z62945.toInt = 40 * a1.toInt := h62946
            refine g_iload C dX12_hasAlike_36 4 rfl ?_
            refine s_iadd C dX12_hasAlike_38 (by show -2147483648 ≤ z62945.toInt + v5_4.toInt ∧ z62945.toInt + v5_4.toInt ≤ 2147483647; omega) (fun z62947 h62948 => ?_)
            have h62948 : z62947.toInt = z62945.toInt + v5_4.toInt := h62948
            refine g_iload_n C dX12_hasAlike_39 rfl 2 rfl ?_
            refine g_callVI (rest := []) C mv_X12_399 [.int z62947, .int a2] (s_X12_isAlike I (by omega) (by omega) hW) (ha0).1 (ha0).2 rfl rfl (by decide) (Nat.le_of_ble_eq_true rfl) (by decide) dX12_hasAlike_40 (fun r62949 Y62950 h62951 => ?_)
            obtain ⟨rfl, h62951⟩ := h62951
            have h62951 : 0 ≤ r62949.toInt ∧ r62949.toInt ≤ 1 := h62951
            refine b_if_eq C 50 dX12_hasAlike_43 (by decide) (fun h62952 => ?_) (fun h62952 => ?_)
            · have h62952 : r62949.toInt = 0 := congrArg Int32.toInt h62952
              refine g_lv (lv' := [(0, .ref a0), (1, .int a1), (2, .int a2), (4, .int v5_4)]) [0, 1, 2, 4] rfl ?_
              exact J50 (by omega) (fun b9 e9 => by rw [e62935] at e9; cases e9; omega)
            · have h62952 : r62949.toInt ≠ 0 := ti_ne h62952
              refine g_lv (lv' := [(0, .ref a0), (1, .int a1), (2, .int a2), (4, .int v5_4)]) [0, 1, 2, 4] rfl ?_
              exact J46 (by omega) (fun b9 e9 => by rw [e62935] at e9; cases e9; omega)
  refine g_iconst (v := 0) C dX12_hasAlike_0 (by decide) ?_
  refine g_istore_n (lv' := [(3, .int 0), (0, .ref a0), (1, .int a1), (2, .int a2)]) C dX12_hasAlike_1 rfl (by decide) rfl ?_
  refine g_iconst (v := 0) C dX12_hasAlike_2 (by decide) ?_
  refine g_istore (lv' := [(4, .int 0), (3, .int 0), (0, .ref a0), (1, .int a1), (2, .int a2)]) C dX12_hasAlike_3 (by decide) rfl ?_
  refine g_lv (lv' := [(0, .ref a0), (1, .int a1), (2, .int a2), (3, .int 0), (4, .int 0)]) [2, 3, 4, 1, 0] rfl ?_
  exact J5 _ 0 0 (Nat.lt_succ_self _) (by decide) (by decide)
theorem dX12_hasWord_0 : decode cX12_hasWord 0 = .ok (.aload_n 0, 1) := by decide +kernel
theorem dX12_hasWord_1 : decode cX12_hasWord 1 = .ok (.iload_n 1, 1) := by decide +kernel
theorem dX12_hasWord_2 : decode cX12_hasWord 2 = .ok (.invokevirtual 172, 3) := by decide +kernel
theorem dX12_isWord_0 : decode cX12_isWord 0 = .ok (.aload_n 0, 1) := by decide +kernel
theorem dX12_isWord_1 : decode cX12_isWord 1 = .ok (.getfield 162, 3) := by decide +kernel
theorem dX12_isWord_4 : decode cX12_isWord 4 = .ok (.ifCond .ne 39, 3) := by decide +kernel
theorem dX12_isWord_7 : decode cX12_isWord 7 = .ok (.aload_n 0, 1) := by decide +kernel
theorem dX12_isWord_8 : decode cX12_isWord 8 = .ok (.getfield 24, 3) := by decide +kernel
theorem dX12_isWord_11 : decode cX12_isWord 11 = .ok (.aload_n 0, 1) := by decide +kernel
theorem dX12_isWord_12 : decode cX12_isWord 12 = .ok (.getfield 159, 3) := by decide +kernel
theorem dX12_isWord_15 : decode cX12_isWord 15 = .ok (.iaload, 1) := by decide +kernel
theorem dX12_isWord_16 : decode cX12_isWord 16 = .ok (.iconst 1, 1) := by decide +kernel
theorem dX12_isWord_17 : decode cX12_isWord 17 = .ok (.if_icmp .ne 26, 3) := by decide +kernel
theorem dX12_isWord_20 : decode cX12_isWord 20 = .ok (.aload_n 0, 1) := by decide +kernel
theorem dX12_isWord_21 : decode cX12_isWord 21 = .ok (.getfield 30, 3) := by decide +kernel
theorem dX12_isWord_24 : decode cX12_isWord 24 = .ok (.aload_n 0, 1) := by decide +kernel
theorem dX12_isWord_25 : decode cX12_isWord 25 = .ok (.getfield 159, 3) := by decide +kernel
theorem dX12_isWord_28 : decode cX12_isWord 28 = .ok (.laload, 1) := by decide +kernel
theorem dX12_isWord_29 : decode cX12_isWord 29 = .ok (.aload_n 0, 1) := by decide +kernel
theorem dX12_isWord_30 : decode cX12_isWord 30 = .ok (.getfield 42, 3) := by decide +kernel
theorem dX12_isWord_33 : decode cX12_isWord 33 = .ok (.iload_n 1, 1) := by decide +kernel
theorem dX12_isWord_34 : decode cX12_isWord 34 = .ok (.laload, 1) := by decide +kernel
theorem dX12_isWord_35 : decode cX12_isWord 35 = .ok (.lcmp, 1) := by decide +kernel
theorem dX12_isWord_36 : decode cX12_isWord 36 = .ok (.ifCond .ne 7, 3) := by decide +kernel
theorem dX12_isWord_39 : decode cX12_isWord 39 = .ok (.iconst 1, 1) := by decide +kernel
theorem dX12_isWord_40 : decode cX12_isWord 40 = .ok (.goto 4, 3) := by decide +kernel
theorem dX12_isWord_43 : decode cX12_isWord 43 = .ok (.iconst 0, 1) := by decide +kernel
theorem dX12_isWord_44 : decode cX12_isWord 44 = .ok (.ireturn, 1) := by decide +kernel
set_option maxHeartbeats 4000000 in
set_option maxRecDepth 100000 in
theorem s_X12_isWord {P : PP} {a0 : Nat} {a1 : Int32} (I : IM P a0) (ha1 : 0 ≤ a1.toInt ∧ a1.toInt ≤ 3) (hW : MW P a0) : CtrI yX12_isWord cX12_isWord 2 (some Jvm.ClassFile.FieldType.boolean) ({ frames := 1, cells := 0, slots := 0, locals := 64 } : Room) 0 0 P [.ref a0, .int a1] (fun r P2 => P = P2 ∧ (0 ≤ r.toInt ∧ r.toInt ≤ 1)) := by
  refine enI (lv := [(0, .ref a0), (1, .int a1)]) (by decide) (Nat.le_of_ble_eq_true rfl) rfl (fun E D cy C Ci0 ret => ?_)
  have ha0 := I.2.1
  have J43 : (0 ≤ (pI P a0 8).toInt ∧ (pI P a0 8).toInt ≤ 16005) → G E ({ frames := 1, cells := 0, slots := 0, locals := 64 } : Room) D cy 2 P 0 0 43 [] [] := by
    intro hq43_0
    refine g_iconst (v := 0) C dX12_isWord_43 (by decide) ?_
    exact ret _ _ _ _ _ _ dX12_isWord_44 rfl (by decide) (by decide) ⟨rfl, (by decide)⟩
  refine g_aload_n C dX12_isWord_0 rfl 0 rfl ?_
  refine g_getI C fi_X12_162 (by decide) (ha0).1 (ha0).2 dX12_isWord_1 ?_
  have h62972 := I.rg (ha0) 8 rfl
  refine b_if_ne C 43 dX12_isWord_4 (by decide) (fun h62973 => ?_) (fun h62973 => ?_)
  · have h62973 : (pI P a0 8).toInt ≠ 0 := ti_ne h62973
    refine g_lv (lv' := []) [] rfl ?_
    exact J43 (by omega)
  · have h62973 : (pI P a0 8).toInt = 0 := congrArg Int32.toInt h62973
    refine g_aload_n C dX12_isWord_7 rfl 0 rfl ?_
    obtain ⟨b62974, e62975, h62976⟩ := I.fld (ha0) 4 13 1002 rfl
    refine g_getR C fi_X12_24 rfl e62975 (ha0).1 (ha0).2 dX12_isWord_8 ?_
    refine g_aload_n C dX12_isWord_11 rfl 0 rfl ?_
    refine g_getI C fi_X12_159 (by decide) (ha0).1 (ha0).2 dX12_isWord_12 ?_
    have h62977 := I.rg (ha0) 7 rfl
    refine g_iald (j := ((pI P a0 7).toInt.toNat)) C h62976.1 h62976.2.1 (ix_in h62976.2.2 (by omega)) dX12_isWord_15 ?_
    have h62978 := I.arr e62975 rfl ((pI P a0 7).toInt.toNat)
    refine g_iconst (v := 1) C dX12_isWord_16 (by decide) ?_
    refine b_icmp_ne C 43 dX12_isWord_17 (by decide) (fun h62979 => ?_) (fun h62979 => ?_)
    · have h62979 : (pI P b62974 ((pI P a0 7).toInt.toNat)).toInt ≠ 1 := ti_ne h62979
      refine g_lv (lv' := []) [] rfl ?_
      exact J43 (by omega)
    · have h62979 : (pI P b62974 ((pI P a0 7).toInt.toNat)).toInt = 1 := congrArg Int32.toInt h62979
      refine g_aload_n C dX12_isWord_20 rfl 0 rfl ?_
      obtain ⟨b62980, e62981, h62982⟩ := I.fld (ha0) 6 14 1002 rfl
      refine g_getR C fi_X12_30 rfl e62981 (ha0).1 (ha0).2 dX12_isWord_21 ?_
      refine g_aload_n C dX12_isWord_24 rfl 0 rfl ?_
      refine g_getI C fi_X12_159 (by decide) (ha0).1 (ha0).2 dX12_isWord_25 ?_
      refine g_lald (j := ((pI P a0 7).toInt.toNat)) C h62982.1 h62982.2.1 (ix_in h62982.2.2 (by omega)) dX12_isWord_28 ?_
      refine g_topl (fun l62983 _ => ?_)
      refine g_aload_n C dX12_isWord_29 rfl 0 rfl ?_
      obtain ⟨b62984, e62985, h62986⟩ := I.fld (ha0) 9 14 4 rfl
      refine g_getR C fi_X12_42 rfl e62985 (ha0).1 (ha0).2 dX12_isWord_30 ?_
      refine g_iload_n C dX12_isWord_33 rfl 1 rfl ?_
      refine g_lald (j := (a1.toInt.toNat)) C h62986.1 h62986.2.1 (ix_in h62986.2.2 (by omega)) dX12_isWord_34 ?_
      refine g_topl (fun l62987 _ => ?_)
      refine a_lcmp C dX12_isWord_35 (fun z62988 => ?_)
      have u62990 := ti_rng z62988
      refine b_if_ne C 43 dX12_isWord_36 (by decide) (fun h62989 => ?_) (fun h62989 => ?_)
      · have h62989 : z62988.toInt ≠ 0 := ti_ne h62989
        refine g_lv (lv' := []) [] rfl ?_
        exact J43 (by omega)
      · have h62989 : z62988.toInt = 0 := congrArg Int32.toInt h62989
        refine g_iconst (v := 1) C dX12_isWord_39 (by decide) ?_
        refine g_goto C 44 dX12_isWord_40 (by decide) ?_
        exact ret _ _ _ _ _ _ dX12_isWord_44 rfl (by decide) (by decide) ⟨rfl, (by decide)⟩
theorem dX12_hasWord_5 : decode cX12_hasWord 5 = .ok (.istore_n 2, 1) := by decide +kernel
theorem dX12_hasWord_6 : decode cX12_hasWord 6 = .ok (.aload_n 0, 1) := by decide +kernel
theorem dX12_hasWord_7 : decode cX12_hasWord 7 = .ok (.dup, 1) := by decide +kernel
theorem dX12_hasWord_8 : decode cX12_hasWord 8 = .ok (.getfield 159, 3) := by decide +kernel
theorem dX12_hasWord_11 : decode cX12_hasWord 11 = .ok (.iload_n 2, 1) := by decide +kernel
theorem dX12_hasWord_12 : decode cX12_hasWord 12 = .ok (.ifCond .eq 7, 3) := by decide +kernel
theorem dX12_hasWord_15 : decode cX12_hasWord 15 = .ok (.iconst 1, 1) := by decide +kernel
theorem dX12_hasWord_16 : decode cX12_hasWord 16 = .ok (.goto 4, 3) := by decide +kernel
theorem dX12_hasWord_19 : decode cX12_hasWord 19 = .ok (.iconst 0, 1) := by decide +kernel
theorem dX12_hasWord_20 : decode cX12_hasWord 20 = .ok (.iadd, 1) := by decide +kernel
theorem dX12_hasWord_21 : decode cX12_hasWord 21 = .ok (.putfield 159, 3) := by decide +kernel
theorem dX12_howMany_0 : decode cX12_howMany 0 = .ok (.iconst 0, 1) := by decide +kernel
theorem dX12_howMany_1 : decode cX12_howMany 1 = .ok (.istore_n 2, 1) := by decide +kernel
theorem dX12_howMany_2 : decode cX12_howMany 2 = .ok (.iconst 1, 1) := by decide +kernel
theorem dX12_howMany_3 : decode cX12_howMany 3 = .ok (.istore_n 3, 1) := by decide +kernel
theorem dX12_howMany_4 : decode cX12_howMany 4 = .ok (.iload_n 3, 1) := by decide +kernel
theorem dX12_howMany_5 : decode cX12_howMany 5 = .ok (.aload_n 0, 1) := by decide +kernel
theorem dX12_howMany_6 : decode cX12_howMany 6 = .ok (.iload_n 1, 1) := by decide +kernel
theorem dX12_howMany_7 : decode cX12_howMany 7 = .ok (.invokevirtual 238, 3) := by decide +kernel
theorem dX12_howMany_10 : decode cX12_howMany 10 = .ok (.if_icmp .gt 18, 3) := by decide +kernel
theorem dX12_howMany_13 : decode cX12_howMany 13 = .ok (.iload_n 2, 1) := by decide +kernel
theorem dX12_howMany_14 : decode cX12_howMany 14 = .ok (.aload_n 0, 1) := by decide +kernel
theorem dX12_howMany_15 : decode cX12_howMany 15 = .ok (.iload_n 1, 1) := by decide +kernel
theorem dX12_howMany_16 : decode cX12_howMany 16 = .ok (.iload_n 3, 1) := by decide +kernel
theorem dX12_howMany_17 : decode cX12_howMany 17 = .ok (.invokevirtual 241, 3) := by decide +kernel
theorem dX12_howMany_28 : decode cX12_howMany 28 = .ok (.iload_n 2, 1) := by decide +kernel
theorem dX12_howMany_29 : decode cX12_howMany 29 = .ok (.ifCond .ne 5, 3) := by decide +kernel
theorem dX12_howMany_32 : decode cX12_howMany 32 = .ok (.iconst 1, 1) := by decide +kernel
theorem dX12_howMany_33 : decode cX12_howMany 33 = .ok (.ireturn, 1) := by decide +kernel
theorem dX12_oddsOf_0 : decode cX12_oddsOf 0 = .ok (.aload_n 0, 1) := by decide +kernel
theorem dX12_oddsOf_1 : decode cX12_oddsOf 1 = .ok (.getfield 51, 3) := by decide +kernel
theorem dX12_oddsOf_4 : decode cX12_oddsOf 4 = .ok (.bipush 21, 2) := by decide +kernel
theorem dX12_oddsOf_6 : decode cX12_oddsOf 6 = .ok (.iload_n 1, 1) := by decide +kernel
theorem dX12_oddsOf_7 : decode cX12_oddsOf 7 = .ok (.imul, 1) := by decide +kernel
theorem dX12_oddsOf_8 : decode cX12_oddsOf 8 = .ok (.iload_n 2, 1) := by decide +kernel
theorem dX12_oddsOf_9 : decode cX12_oddsOf 9 = .ok (.iadd, 1) := by decide +kernel
theorem dX12_oddsOf_10 : decode cX12_oddsOf 10 = .ok (.iaload, 1) := by decide +kernel
theorem dX12_oddsOf_11 : decode cX12_oddsOf 11 = .ok (.ifCond .ge 7, 3) := by decide +kernel
theorem dX12_oddsOf_14 : decode cX12_oddsOf 14 = .ok (.iconst 0, 1) := by decide +kernel
theorem dX12_oddsOf_15 : decode cX12_oddsOf 15 = .ok (.goto 14, 3) := by decide +kernel
theorem dX12_oddsOf_18 : decode cX12_oddsOf 18 = .ok (.aload_n 0, 1) := by decide +kernel
theorem dX12_oddsOf_19 : decode cX12_oddsOf 19 = .ok (.getfield 51, 3) := by decide +kernel
theorem dX12_oddsOf_22 : decode cX12_oddsOf 22 = .ok (.bipush 21, 2) := by decide +kernel
theorem dX12_oddsOf_24 : decode cX12_oddsOf 24 = .ok (.iload_n 1, 1) := by decide +kernel
theorem dX12_oddsOf_25 : decode cX12_oddsOf 25 = .ok (.imul, 1) := by decide +kernel
theorem dX12_oddsOf_26 : decode cX12_oddsOf 26 = .ok (.iload_n 2, 1) := by decide +kernel
theorem dX12_oddsOf_27 : decode cX12_oddsOf 27 = .ok (.iadd, 1) := by decide +kernel
theorem dX12_oddsOf_28 : decode cX12_oddsOf 28 = .ok (.iaload, 1) := by decide +kernel
theorem dX12_oddsOf_29 : decode cX12_oddsOf 29 = .ok (.ireturn, 1) := by decide +kernel
set_option maxHeartbeats 4000000 in
set_option maxRecDepth 100000 in
theorem s_X12_oddsOf {P : PP} {a0 : Nat} {a1 : Int32} {a2 : Int32} (I : IM P a0) (ha1 : 0 ≤ a1.toInt ∧ a1.toInt ≤ 1) (ha2 : 0 ≤ a2.toInt ∧ a2.toInt ≤ 20) (hW : MW P a0) : CtrI yX12_oddsOf cX12_oddsOf 3 (some Jvm.ClassFile.FieldType.int) ({ frames := 1, cells := 0, slots := 0, locals := 64 } : Room) 0 0 P [.ref a0, .int a1, .int a2] (fun r P2 => P = P2 ∧ (True)) := by
  refine enI (lv := [(0, .ref a0), (1, .int a1), (2, .int a2)]) (by decide) (Nat.le_of_ble_eq_true rfl) rfl (fun E D cy C Ci0 ret => ?_)
  have ha0 := I.2.1
  refine g_aload_n C dX12_oddsOf_0 rfl 0 rfl ?_
  obtain ⟨b63027, e63028, h63029⟩ := I.fld (ha0) 12 13 63 rfl
  refine g_getR C fi_X12_51 rfl e63028 (ha0).1 (ha0).2 dX12_oddsOf_1 ?_
  refine g_bipush (v := 21) C dX12_oddsOf_4 (by decide) ?_
  refine g_iload_n C dX12_oddsOf_6 rfl 1 rfl ?_
  refine s_imul C dX12_oddsOf_7 (by show -2147483648 ≤ 21 * a1.toInt ∧ 21 * a1.toInt ≤ 2147483647; omega) (fun z63030 h63031 => ?_)
  have h63031 : z63030.toInt = 21 * a1.toInt := h63031
  refine g_iload_n C dX12_oddsOf_8 rfl 2 rfl ?_
  refine s_iadd C dX12_oddsOf_9 (by show -2147483648 ≤ z63030.toInt + a2.toInt ∧ z63030.toInt + a2.toInt ≤ 2147483647; omega) (fun z63032 h63033 => ?_)
  have h63033 : z63032.toInt = z63030.toInt + a2.toInt := h63033
  refine g_iald (j := (z63032.toInt.toNat)) C h63029.1 h63029.2.1 (ix_in h63029.2.2 (by omega)) dX12_oddsOf_10 ?_
  have u63035 := ti_rng (pI P b63027 (z63032.toInt.toNat))
  refine b_if_ge C 18 dX12_oddsOf_11 (by decide) (fun h63034 => ?_) (fun h63034 => ?_)
  · have h63034 : 0 ≤ (pI P b63027 (z63032.toInt.toNat)).toInt := h63034
    refine g_aload_n C dX12_oddsOf_18 rfl 0 rfl ?_
    refine g_getR C fi_X12_51 rfl e63028 (ha0).1 (ha0).2 dX12_oddsOf_19 ?_
    refine g_bipush (v := 21) C dX12_oddsOf_22 (by decide) ?_
    refine g_iload_n C dX12_oddsOf_24 rfl 1 rfl ?_
    refine s_imul C dX12_oddsOf_25 (by show -2147483648 ≤ 21 * a1.toInt ∧ 21 * a1.toInt ≤ 2147483647; omega) (fun z63036 h63037 => ?_)
    have h63037 : z63036.toInt = 21 * a1.toInt := h63037
    refine g_iload_n C dX12_oddsOf_26 rfl 2 rfl ?_
    refine s_iadd C dX12_oddsOf_27 (by show -2147483648 ≤ z63036.toInt + a2.toInt ∧ z63036.toInt + a2.toInt ≤ 2147483647; omega) (fun z63038 h63039 => ?_)
    have h63039 : z63038.toInt = z63036.toInt + a2.toInt := h63039
    refine g_iald (j := (z63038.toInt.toNat)) C h63029.1 h63029.2.1 (ix_in h63029.2.2 (by omega)) dX12_oddsOf_28 ?_
    exact ret _ _ _ _ _ _ dX12_oddsOf_29 rfl (by decide) (by decide) ⟨rfl, trivial⟩
  · have h63034 : (pI P b63027 (z63032.toInt.toNat)).toInt < 0 := h63034
    refine g_iconst (v := 0) C dX12_oddsOf_14 (by decide) ?_
    refine g_goto C 29 dX12_oddsOf_15 (by decide) ?_
    exact ret _ _ _ _ _ _ dX12_oddsOf_29 rfl (by decide) (by decide) ⟨rfl, trivial⟩
theorem dX12_howMany_20 : decode cX12_howMany 20 = .ok (.iadd, 1) := by decide +kernel
theorem dX12_howMany_21 : decode cX12_howMany 21 = .ok (.istore_n 2, 1) := by decide +kernel
theorem dX12_howMany_22 : decode cX12_howMany 22 = .ok (.iinc 3 1, 3) := by decide +kernel
theorem dX12_howMany_25 : decode cX12_howMany 25 = .ok (.goto (-21), 3) := by decide +kernel
theorem dX12_howMany_34 : decode cX12_howMany 34 = .ok (.aload_n 0, 1) := by decide +kernel
theorem dX12_howMany_35 : decode cX12_howMany 35 = .ok (.invokevirtual 244, 3) := by decide +kernel
theorem dX12_howMany_38 : decode cX12_howMany 38 = .ok (.iload_n 2, 1) := by decide +kernel
theorem dX12_howMany_39 : decode cX12_howMany 39 = .ok (.irem, 1) := by decide +kernel
theorem dX12_howMany_40 : decode cX12_howMany 40 = .ok (.istore_n 3, 1) := by decide +kernel
theorem dX12_howMany_41 : decode cX12_howMany 41 = .ok (.iconst 1, 1) := by decide +kernel
theorem dX12_howMany_42 : decode cX12_howMany 42 = .ok (.istore 4, 2) := by decide +kernel
theorem dX12_howMany_44 : decode cX12_howMany 44 = .ok (.aload_n 0, 1) := by decide +kernel
theorem dX12_howMany_45 : decode cX12_howMany 45 = .ok (.iload_n 1, 1) := by decide +kernel
theorem dX12_howMany_46 : decode cX12_howMany 46 = .ok (.iconst 1, 1) := by decide +kernel
theorem dX12_howMany_47 : decode cX12_howMany 47 = .ok (.invokevirtual 241, 3) := by decide +kernel
theorem dX12_howMany_50 : decode cX12_howMany 50 = .ok (.istore 5, 2) := by decide +kernel
theorem dX12_howMany_52 : decode cX12_howMany 52 = .ok (.iload 5, 2) := by decide +kernel
theorem dX12_howMany_54 : decode cX12_howMany 54 = .ok (.iload_n 3, 1) := by decide +kernel
theorem dX12_howMany_55 : decode cX12_howMany 55 = .ok (.if_icmp .gt 21, 3) := by decide +kernel
theorem dX12_howMany_58 : decode cX12_howMany 58 = .ok (.iinc 4 1, 3) := by decide +kernel
theorem dX12_howMany_61 : decode cX12_howMany 61 = .ok (.iload 5, 2) := by decide +kernel
theorem dX12_howMany_63 : decode cX12_howMany 63 = .ok (.aload_n 0, 1) := by decide +kernel
theorem dX12_howMany_64 : decode cX12_howMany 64 = .ok (.iload_n 1, 1) := by decide +kernel
theorem dX12_howMany_65 : decode cX12_howMany 65 = .ok (.iload 4, 2) := by decide +kernel
theorem dX12_howMany_67 : decode cX12_howMany 67 = .ok (.invokevirtual 241, 3) := by decide +kernel
theorem dX12_howMany_70 : decode cX12_howMany 70 = .ok (.iadd, 1) := by decide +kernel
theorem dX12_howMany_71 : decode cX12_howMany 71 = .ok (.istore 5, 2) := by decide +kernel
theorem dX12_howMany_73 : decode cX12_howMany 73 = .ok (.goto (-21), 3) := by decide +kernel
theorem dX12_howMany_76 : decode cX12_howMany 76 = .ok (.iload 4, 2) := by decide +kernel
theorem dX12_howMany_78 : decode cX12_howMany 78 = .ok (.ireturn, 1) := by decide +kernel
theorem dX12_init_0 : decode cX12_init 0 = .ok (.aload_n 0, 1) := by decide +kernel
theorem dX12_init_1 : decode cX12_init 1 = .ok (.invokespecial 18, 3) := by decide +kernel
theorem dX12_init_4 : decode cX12_init 4 = .ok (.aload_n 0, 1) := by decide +kernel
theorem dX12_init_5 : decode cX12_init 5 = .ok (.sipush 1000, 3) := by decide +kernel
theorem dX12_init_8 : decode cX12_init 8 = .ok (.newarray .int, 2) := by decide +kernel
theorem dX12_isAllWith_0 : decode cX12_isAllWith 0 = .ok (.iconst 0, 1) := by decide +kernel
theorem dX12_isAllWith_1 : decode cX12_isAllWith 1 = .ok (.istore 4, 2) := by decide +kernel
theorem dX12_isAllWith_3 : decode cX12_isAllWith 3 = .ok (.iload 4, 2) := by decide +kernel
theorem dX12_isAllWith_5 : decode cX12_isAllWith 5 = .ok (.iconst 2, 1) := by decide +kernel
theorem dX12_isAllWith_6 : decode cX12_isAllWith 6 = .ok (.if_icmp .ge 95, 3) := by decide +kernel
theorem dX12_isAllWith_9 : decode cX12_isAllWith 9 = .ok (.aload_n 0, 1) := by decide +kernel
theorem dX12_isAllWith_10 : decode cX12_isAllWith 10 = .ok (.iload_n 1, 1) := by decide +kernel
theorem dX12_isAllWith_11 : decode cX12_isAllWith 11 = .ok (.iload_n 2, 1) := by decide +kernel
theorem dX12_isAllWith_12 : decode cX12_isAllWith 12 = .ok (.iload 4, 2) := by decide +kernel
theorem dX12_isAllWith_14 : decode cX12_isAllWith 14 = .ok (.aload_n 0, 1) := by decide +kernel
theorem dX12_isAllWith_15 : decode cX12_isAllWith 15 = .ok (.getfield 69, 3) := by decide +kernel
theorem dX12_isAllWith_18 : decode cX12_isAllWith 18 = .ok (.iload_n 1, 1) := by decide +kernel
theorem dX12_isAllWith_19 : decode cX12_isAllWith 19 = .ok (.iaload, 1) := by decide +kernel
theorem dX12_isAllWith_20 : decode cX12_isAllWith 20 = .ok (.invokevirtual 339, 3) := by decide +kernel
theorem dX12_isAllWith_23 : decode cX12_isAllWith 23 = .ok (.iconst 0, 1) := by decide +kernel
theorem dX12_isAllWith_24 : decode cX12_isAllWith 24 = .ok (.istore 5, 2) := by decide +kernel
theorem dX12_isAllWith_26 : decode cX12_isAllWith 26 = .ok (.iload 5, 2) := by decide +kernel
theorem dX12_isAllWith_28 : decode cX12_isAllWith 28 = .ok (.bipush 11, 2) := by decide +kernel
theorem dX12_isAllWith_30 : decode cX12_isAllWith 30 = .ok (.if_icmp .ge 47, 3) := by decide +kernel
theorem dX12_isAllWith_33 : decode cX12_isAllWith 33 = .ok (.iload_n 3, 1) := by decide +kernel
theorem dX12_isAllWith_34 : decode cX12_isAllWith 34 = .ok (.iload 5, 2) := by decide +kernel
theorem dX12_isAllWith_36 : decode cX12_isAllWith 36 = .ok (.ishr, 1) := by decide +kernel
theorem dX12_isAllWith_37 : decode cX12_isAllWith 37 = .ok (.iconst 1, 1) := by decide +kernel
theorem dX12_isAllWith_38 : decode cX12_isAllWith 38 = .ok (.iand, 1) := by decide +kernel
theorem dX12_isAllWith_39 : decode cX12_isAllWith 39 = .ok (.iconst 1, 1) := by decide +kernel
theorem dX12_isAllWith_40 : decode cX12_isAllWith 40 = .ok (.if_icmp .ne 31, 3) := by decide +kernel
theorem dX12_isAllWith_43 : decode cX12_isAllWith 43 = .ok (.aload_n 0, 1) := by decide +kernel
theorem dX12_isAllWith_44 : decode cX12_isAllWith 44 = .ok (.iload_n 2, 1) := by decide +kernel
theorem dX12_isAllWith_45 : decode cX12_isAllWith 45 = .ok (.iload 5, 2) := by decide +kernel
theorem dX12_isAllWith_47 : decode cX12_isAllWith 47 = .ok (.invokevirtual 261, 3) := by decide +kernel
theorem dX12_isAllWith_50 : decode cX12_isAllWith 50 = .ok (.istore 6, 2) := by decide +kernel
theorem dX12_isAllWith_52 : decode cX12_isAllWith 52 = .ok (.aload_n 0, 1) := by decide +kernel
theorem dX12_isAllWith_53 : decode cX12_isAllWith 53 = .ok (.iload 6, 2) := by decide +kernel
theorem dX12_isAllWith_55 : decode cX12_isAllWith 55 = .ok (.aload_n 0, 1) := by decide +kernel
theorem dX12_isAllWith_56 : decode cX12_isAllWith 56 = .ok (.iload_n 2, 1) := by decide +kernel
theorem dX12_isAllWith_57 : decode cX12_isAllWith 57 = .ok (.iload 6, 2) := by decide +kernel
theorem dX12_isAllWith_59 : decode cX12_isAllWith 59 = .ok (.invokevirtual 223, 3) := by decide +kernel
theorem dX12_isAllWith_62 : decode cX12_isAllWith 62 = .ok (.iload 4, 2) := by decide +kernel
theorem dX12_isAllWith_64 : decode cX12_isAllWith 64 = .ok (.invokestatic 315, 3) := by decide +kernel
theorem dX12_isAllWith_67 : decode cX12_isAllWith 67 = .ok (.iconst (-1), 1) := by decide +kernel
theorem dX12_isAllWith_68 : decode cX12_isAllWith 68 = .ok (.invokevirtual 308, 3) := by decide +kernel
theorem dX12_isAllWith_71 : decode cX12_isAllWith 71 = .ok (.iinc 5 1, 3) := by decide +kernel
theorem dX12_isAllWith_74 : decode cX12_isAllWith 74 = .ok (.goto (-48), 3) := by decide +kernel
theorem dX12_isAllWith_77 : decode cX12_isAllWith 77 = .ok (.aload_n 0, 1) := by decide +kernel
theorem dX12_isAllWith_78 : decode cX12_isAllWith 78 = .ok (.invokevirtual 346, 3) := by decide +kernel
theorem dX12_isAllWith_81 : decode cX12_isAllWith 81 = .ok (.aload_n 0, 1) := by decide +kernel
theorem dX12_isAllWith_82 : decode cX12_isAllWith 82 = .ok (.iload_n 2, 1) := by decide +kernel
theorem dX12_isAllWith_83 : decode cX12_isAllWith 83 = .ok (.aload_n 0, 1) := by decide +kernel
theorem dX12_isAllWith_84 : decode cX12_isAllWith 84 = .ok (.invokevirtual 349, 3) := by decide +kernel
theorem dX12_isAllWith_87 : decode cX12_isAllWith 87 = .ok (.invokevirtual 371, 3) := by decide +kernel
theorem dX12_isAllWith_90 : decode cX12_isAllWith 90 = .ok (.ifCond .ne 5, 3) := by decide +kernel
theorem dX12_isAllWith_93 : decode cX12_isAllWith 93 = .ok (.iconst 0, 1) := by decide +kernel
theorem dX12_isAllWith_94 : decode cX12_isAllWith 94 = .ok (.ireturn, 1) := by decide +kernel
theorem dX12_isAllWith_95 : decode cX12_isAllWith 95 = .ok (.iinc 4 1, 3) := by decide +kernel
theorem dX12_isAllWith_98 : decode cX12_isAllWith 98 = .ok (.goto (-95), 3) := by decide +kernel
theorem dX12_isAllWith_101 : decode cX12_isAllWith 101 = .ok (.iconst 1, 1) := by decide +kernel
theorem dX12_isAllWith_102 : decode cX12_isAllWith 102 = .ok (.ireturn, 1) := by decide +kernel
set_option maxHeartbeats 4000000 in
set_option maxRecDepth 100000 in
theorem s_X12_isAllWith {P : PP} {a0 : Nat} {a1 : Int32} {a2 : Int32} {a3 : Int32} (I : IM P a0) (ha1 : 0 ≤ a1.toInt ∧ a1.toInt ≤ 3) (ha2 : 0 ≤ a2.toInt ∧ a2.toInt ≤ 1) (hf0 : ∀ b, pR P a0 10 = some b → 1 ≤ (pI P b (a2.toInt.toNat)).toInt ∧ (pI P b (a2.toInt.toNat)).toInt ≤ 16) (hW : MW P a0) : CtrI yX12_isAllWith cX12_isAllWith 7 (some Jvm.ClassFile.FieldType.boolean) ({ frames := 7, cells := 0, slots := 0, locals := 448 } : Room) 0 0 P [.ref a0, .int a1, .int a2, .int a3] (fun r P2 => IM P2 a0 ∧ EM [28, 29, 30, 31, 35, 36, 37, 38] a0 P P2 ∧ MW P2 a0 ∧ (0 ≤ r.toInt ∧ r.toInt ≤ 1)) := by
  refine enI (lv := [(0, .ref a0), (1, .int a1), (2, .int a2), (3, .int a3)]) (by decide) (Nat.le_of_ble_eq_true rfl) rfl (fun E D cy C Ci0 ret => ?_)
  have ha0 := I.2.1
  have J3 : ∀ (n3 : Nat) (P3 : PP) (v3_4 : Int32), (2 - v3_4.toInt).toNat < n3 → (IM P3 a0) → (EM [28, 29, 30, 31, 35, 36, 37, 38] a0 P P3) → (MW P3 a0) → (0 ≤ v3_4.toInt ∧ v3_4.toInt ≤ 2) → (∀ b, pR P3 a0 10 = some b → 1 ≤ (pI P3 b (a2.toInt.toNat)).toInt ∧ (pI P3 b (a2.toInt.toNat)).toInt ≤ 16) → G E ({ frames := 7, cells := 0, slots := 0, locals := 448 } : Room) D cy 7 P3 0 0 3 [(0, .ref a0), (1, .int a1), (2, .int a2), (3, .int a3), (4, .int v3_4)] [] := by
    intro n3
    induction n3 with
    | zero => intro P3 v3_4 hm3 I3 X3 W3 hv3_4 hq3_0; omega
    | succ n3 ih3 =>
      intro P3 v3_4 hm3 I3 X3 W3 hv3_4 hq3_0
      have h64302 := X3.at ha0
      obtain ⟨b64303, e64304, h64305⟩ := I3.fld (h64302) 10 13 2 rfl
      have hq3_0 := hq3_0 b64303 e64304
      have J26 : ∀ (n26 : Nat) (P26 : PP) (v26_5 : Int32), (11 - v26_5.toInt).toNat < n26 → (IM P26 a0) → (EM [28, 29, 30, 31, 35, 36, 37, 38] a0 P P26) → (MW P26 a0) → (0 ≤ v3_4.toInt ∧ v3_4.toInt ≤ 1) → (0 ≤ v26_5.toInt ∧ v26_5.toInt ≤ 11) → (∀ b, pR P26 a0 10 = some b → 1 ≤ (pI P26 b (a2.toInt.toNat)).toInt ∧ (pI P26 b (a2.toInt.toNat)).toInt ≤ 16) → ((pI P26 a0 28).toInt ≤ 44 + v26_5.toInt) → G E ({ frames := 7, cells := 0, slots := 0, locals := 448 } : Room) D cy 7 P26 0 0 26 [(0, .ref a0), (1, .int a1), (2, .int a2), (3, .int a3), (4, .int v3_4), (5, .int v26_5)] [] := by
        intro n26
        induction n26 with
        | zero => intro P26 v26_5 hm26 I26 X26 W26 hv26_4 hv26_5 hq26_0 rel26_0; omega
        | succ n26 ih26 =>
          intro P26 v26_5 hm26 I26 X26 W26 hv26_4 hv26_5 hq26_0 rel26_0
          have h64306 := X26.at ha0
          obtain ⟨b64307, e64308, h64309⟩ := I26.fld (h64306) 10 13 2 rfl
          have hq26_0 := hq26_0 b64307 e64308
          have h64310 := I26.rg h64306 28 rfl
          have J71 : ∀ (P71 : PP), (IM P71 a0) → (EM [28, 29, 30, 31, 35, 36, 37, 38] a0 P P71) → (MW P71 a0) → (0 ≤ v3_4.toInt ∧ v3_4.toInt ≤ 1) → (0 ≤ v26_5.toInt ∧ v26_5.toInt ≤ 10) → (∀ b, pR P71 a0 10 = some b → 1 ≤ (pI P71 b (a2.toInt.toNat)).toInt ∧ (pI P71 b (a2.toInt.toNat)).toInt ≤ 16) → ((pI P71 a0 28).toInt ≤ 45 + v26_5.toInt) → G E ({ frames := 7, cells := 0, slots := 0, locals := 448 } : Room) D cy 7 P71 0 0 71 [(0, .ref a0), (1, .int a1), (2, .int a2), (3, .int a3), (4, .int v3_4), (5, .int v26_5)] [] := by
            intro P71 I71 X71 W71 hv71_4 hv71_5 hq71_0 rel71_0
            have h64311 := X71.at ha0
            obtain ⟨b64312, e64313, h64314⟩ := I71.fld (h64311) 10 13 2 rfl
            have hq71_0 := hq71_0 b64312 e64313
            have h64315 := I71.rg h64311 28 rfl
            refine s_iinc (lv0 := [(0, .ref a0), (1, .int a1), (2, .int a2), (3, .int a3), (4, .int v3_4)]) (m := 1) C dX12_isAllWith_71 5 rfl (by decide) rfl (by decide) (by omega) (fun z64316 h64317 => ?_)
            have h64317 : z64316.toInt = v26_5.toInt + 1 := h64317
            refine g_goto C 26 dX12_isAllWith_74 (by decide) ?_
            refine g_lv (lv' := [(0, .ref a0), (1, .int a1), (2, .int a2), (3, .int a3), (4, .int v3_4), (5, .int z64316)]) [1, 2, 3, 4, 5, 0] rfl ?_
            exact ih26 P71 z64316 (by omega) I71 X71 W71 (by omega) (by omega) (fun b9 e9 => by rw [e64313] at e9; cases e9; omega) (by show (pI P71 a0 28).toInt ≤ 44 + z64316.toInt; omega)
          refine g_iload C dX12_isAllWith_26 5 rfl ?_
          refine g_bipush (v := 11) C dX12_isAllWith_28 (by decide) ?_
          refine b_icmp_ge C 77 dX12_isAllWith_30 (by decide) (fun h64318 => ?_) (fun h64318 => ?_)
          · have h64318 : 11 ≤ v26_5.toInt := h64318
            refine g_aload_n C dX12_isAllWith_77 rfl 0 rfl ?_
            refine g_callVV (rest := []) C mv_X12_346 [] (s_X12_findSolved I26 W26) (h64306).1 (h64306).2 rfl rfl (by decide) (Nat.le_of_ble_eq_true rfl) (by decide) dX12_isAllWith_78 (fun Y64320 h64321 => ?_)
            obtain ⟨Iy64322, Xy64323, W64324⟩ := h64321
            have q64325 := Xy64323.keepA e64308 (by decide) rfl (a2.toInt.toNat)
            have q64326 := Xy64323.keepF 28 (by decide)
            have Xz64327 : EM [28, 29, 30, 31, 35, 36, 37, 38] a0 P Y64320 := EM.tr ha0 X26 (Xy64323.mono (by decide))
            have e64328 := Xy64323.ref h64306 (by decide) e64308
            have h64329 := Xy64323.at h64306
            have h64330 := Xy64323.ar h64309
            refine g_aload_n C dX12_isAllWith_81 rfl 0 rfl ?_
            refine g_iload_n C dX12_isAllWith_82 rfl 2 rfl ?_
            refine g_aload_n C dX12_isAllWith_83 rfl 0 rfl ?_
            refine g_callVI (rest := [.int a2, .ref a0]) C mv_X12_349 [] (s_X12_fixedSet Iy64322 W64324) (h64329).1 (h64329).2 rfl rfl (by decide) (Nat.le_of_ble_eq_true rfl) (by decide) dX12_isAllWith_84 (fun r64331 Y64332 h64333 => ?_)
            obtain ⟨rfl, h64333⟩ := h64333
            have h64333 : True := h64333
            refine g_callVI (rest := []) C mv_X12_371 [.int a2, .int r64331] (s_X12_givesAll Iy64322 (by omega) W64324) (h64329).1 (h64329).2 rfl rfl (by decide) (Nat.le_of_ble_eq_true rfl) (by decide) dX12_isAllWith_87 (fun r64334 Y64335 h64336 => ?_)
            obtain ⟨rfl, h64336⟩ := h64336
            have h64336 : 0 ≤ r64334.toInt ∧ r64334.toInt ≤ 1 := h64336
            refine b_if_ne C 95 dX12_isAllWith_90 (by decide) (fun h64337 => ?_) (fun h64337 => ?_)
            · have h64337 : r64334.toInt ≠ 0 := ti_ne h64337
              refine s_iinc (lv0 := [(0, .ref a0), (1, .int a1), (2, .int a2), (3, .int a3), (5, .int v26_5)]) (m := 1) C dX12_isAllWith_95 4 rfl (by decide) rfl (by decide) (by omega) (fun z64338 h64339 => ?_)
              have h64339 : z64338.toInt = v3_4.toInt + 1 := h64339
              refine g_goto C 3 dX12_isAllWith_98 (by decide) ?_
              refine g_lv (lv' := [(0, .ref a0), (1, .int a1), (2, .int a2), (3, .int a3), (4, .int z64338)]) [1, 2, 3, 4, 0] rfl ?_
              exact ih3 Y64320 z64338 (by omega) Iy64322 Xz64327 W64324 (by omega) (fun b9 e9 => by rw [e64328] at e9; cases e9; omega)
            · have h64337 : r64334.toInt = 0 := congrArg Int32.toInt h64337
              refine g_iconst (v := 0) C dX12_isAllWith_93 (by decide) ?_
              exact ret _ _ _ _ _ _ dX12_isAllWith_94 rfl (by decide) (by decide) ⟨Iy64322, Xz64327, W64324, (by decide)⟩
          · have h64318 : v26_5.toInt < 11 := h64318
            refine g_iload_n C dX12_isAllWith_33 rfl 3 rfl ?_
            refine g_iload C dX12_isAllWith_34 5 rfl ?_
            refine a_ishr C dX12_isAllWith_36 (fun z64340 => ?_)
            refine g_iconst (v := 1) C dX12_isAllWith_37 (by decide) ?_
            refine s_iand C dX12_isAllWith_38 (by show 0 ≤ 1; omega) (fun z64342 h64343 => ?_)
            have h64343 : 0 ≤ z64342.toInt ∧ z64342.toInt ≤ 1 := h64343
            refine g_iconst (v := 1) C dX12_isAllWith_39 (by decide) ?_
            refine b_icmp_ne C 71 dX12_isAllWith_40 (by decide) (fun h64344 => ?_) (fun h64344 => ?_)
            · have h64344 : z64342.toInt ≠ 1 := ti_ne h64344
              exact J71 P26 I26 X26 W26 (by omega) (by omega) (fun b9 e9 => by rw [e64308] at e9; cases e9; omega) (by show (pI P26 a0 28).toInt ≤ 45 + v26_5.toInt; omega)
            · have h64344 : z64342.toInt = 1 := congrArg Int32.toInt h64344
              refine g_aload_n C dX12_isAllWith_43 rfl 0 rfl ?_
              refine g_iload_n C dX12_isAllWith_44 rfl 2 rfl ?_
              refine g_iload C dX12_isAllWith_45 5 rfl ?_
              refine g_callVI (rest := []) C mv_X12_261 [.int a2, .int v26_5] (s_X12_setOf I26 (by omega) (fun b9 e9 => by rw [e64308] at e9; cases e9; show 1 ≤ (pI P26 b64307 (a2.toInt.toNat)).toInt ∧ (pI P26 b64307 (a2.toInt.toNat)).toInt ≤ 16; omega) W26) (h64306).1 (h64306).2 rfl rfl (by decide) (Nat.le_of_ble_eq_true rfl) (by decide) dX12_isAllWith_47 (fun r64345 Y64346 h64347 => ?_)
              obtain ⟨Iy64348, Xy64349, W64350, h64347⟩ := h64347
              have q64351 := Xy64349.keepA e64308 (by decide) rfl (a2.toInt.toNat)
              have q64352 := Xy64349.keepF 28 (by decide)
              have Xz64353 : EM [28, 29, 30, 31, 35, 36, 37, 38] a0 P Y64346 := EM.tr ha0 X26 (Xy64349.mono (by decide))
              have e64354 := Xy64349.ref h64306 (by decide) e64308
              have h64355 := Xy64349.at h64306
              have h64356 := Xy64349.ar h64309
              have h64347 : True := h64347
              refine g_istore (lv' := [(6, .int r64345), (0, .ref a0), (1, .int a1), (2, .int a2), (3, .int a3), (4, .int v3_4), (5, .int v26_5)]) C dX12_isAllWith_50 (by decide) rfl ?_
              refine g_aload_n C dX12_isAllWith_52 rfl 1 rfl ?_
              refine g_iload C dX12_isAllWith_53 0 rfl ?_
              refine g_aload_n C dX12_isAllWith_55 rfl 1 rfl ?_
              refine g_iload_n C dX12_isAllWith_56 rfl 3 rfl ?_
              refine g_iload C dX12_isAllWith_57 0 rfl ?_
              refine g_callVI (rest := [.int r64345, .ref a0]) C mv_X12_223 [.int a2, .int r64345] (s_X12_sumOf Iy64348 (by omega) W64350) (h64355).1 (h64355).2 rfl rfl (by decide) (Nat.le_of_ble_eq_true rfl) (by decide) dX12_isAllWith_59 (fun r64357 Y64358 h64359 => ?_)
              obtain ⟨rfl, h64359⟩ := h64359
              have h64359 : True := h64359
              refine g_iload C dX12_isAllWith_62 5 rfl ?_
              refine g_callSI (b := 0) (ci := 0) (rest := [.int r64345, .ref a0]) C ms_X12_315 [.int r64357, .int v3_4] (s_X12_byteOf Iy64348.1) rfl rfl (by decide) (Nat.le_of_ble_eq_true rfl) (by decide) dX12_isAllWith_64 (fun r64360 Y64361 h64362 => ?_)
              obtain ⟨rfl, h64362⟩ := h64362
              have h64362 : 0 ≤ r64360.toInt ∧ r64360.toInt ≤ 255 := h64362
              refine g_iconst (v := (-1)) C dX12_isAllWith_67 (by decide) ?_
              refine g_callVV (rest := []) C mv_X12_308 [.int r64345, .int r64360, .int (-1)] (s_X12_adds Iy64348 (by omega) W64350) (h64355).1 (h64355).2 rfl rfl (by decide) (Nat.le_of_ble_eq_true rfl) (by decide) dX12_isAllWith_68 (fun Y64364 h64365 => ?_)
              obtain ⟨Iy64366, Xy64367, W64368, p64369⟩ := h64365
              have p64369 : (pI Y64364 a0 28).toInt = (pI Y64346 a0 28).toInt + 1 := p64369
              have q64370 := Xy64367.keepA e64354 (by decide) rfl (a2.toInt.toNat)
              have Xz64371 : EM [28, 29, 30, 31, 35, 36, 37, 38] a0 P Y64364 := EM.tr ha0 Xz64353 (Xy64367.mono (by decide))
              have e64372 := Xy64367.ref h64355 (by decide) e64354
              have h64373 := Xy64367.at h64355
              have h64374 := Xy64367.ar h64356
              have h64375 := Iy64366.rg h64373 28 rfl
              refine g_lv (lv' := [(0, .ref a0), (1, .int a1), (2, .int a2), (3, .int a3), (4, .int v3_4), (5, .int v26_5)]) [1, 2, 3, 4, 5, 6] rfl ?_
              exact J71 Y64364 Iy64366 Xz64371 W64368 (by omega) (by omega) (fun b9 e9 => by rw [e64372] at e9; cases e9; omega) (by show (pI Y64364 a0 28).toInt ≤ 45 + v26_5.toInt; omega)
      refine g_iload C dX12_isAllWith_3 4 rfl ?_
      refine g_iconst (v := 2) C dX12_isAllWith_5 (by decide) ?_
      refine b_icmp_ge C 101 dX12_isAllWith_6 (by decide) (fun h64376 => ?_) (fun h64376 => ?_)
      · have h64376 : 2 ≤ v3_4.toInt := h64376
        refine g_iconst (v := 1) C dX12_isAllWith_101 (by decide) ?_
        exact ret _ _ _ _ _ _ dX12_isAllWith_102 rfl (by decide) (by decide) ⟨I3, X3, W3, (by decide)⟩
      · have h64376 : v3_4.toInt < 2 := h64376
        refine g_aload_n C dX12_isAllWith_9 rfl 0 rfl ?_
        refine g_iload_n C dX12_isAllWith_10 rfl 1 rfl ?_
        refine g_iload_n C dX12_isAllWith_11 rfl 2 rfl ?_
        refine g_iload C dX12_isAllWith_12 4 rfl ?_
        refine g_aload_n C dX12_isAllWith_14 rfl 0 rfl ?_
        obtain ⟨b64377, e64378, h64379⟩ := I3.fld (h64302) 20 13 20 rfl
        refine g_getR C fi_X12_69 rfl e64378 (h64302).1 (h64302).2 dX12_isAllWith_15 ?_
        refine g_iload_n C dX12_isAllWith_18 rfl 1 rfl ?_
        refine g_iald (j := (a1.toInt.toNat)) C h64379.1 h64379.2.1 (ix_in h64379.2.2 (by omega)) dX12_isAllWith_19 ?_
        have h64380 := I3.arr e64378 rfl (a1.toInt.toNat)
        refine g_callVV (rest := []) C mv_X12_339 [.int a1, .int a2, .int v3_4, .int (pI P3 b64377 (a1.toInt.toNat))] (s_X12_gathers I3 (by omega) (by omega) (by omega) (fun b9 e9 => by rw [e64304] at e9; cases e9; show 1 ≤ (pI P3 b64303 (a2.toInt.toNat)).toInt ∧ (pI P3 b64303 (a2.toInt.toNat)).toInt ≤ 16; omega) W3) (h64302).1 (h64302).2 rfl rfl (by decide) (Nat.le_of_ble_eq_true rfl) (by decide) dX12_isAllWith_20 (fun Y64382 h64383 => ?_)
        obtain ⟨Iy64384, Xy64385, W64386, p64387⟩ := h64383
        have p64387 : (pI Y64382 a0 28).toInt ≤ 4 + (pI P3 b64377 (a1.toInt.toNat)).toInt := p64387
        have q64388 := Xy64385.keepA e64304 (by decide) rfl (a2.toInt.toNat)
        have q64389 := Xy64385.keepA e64378 (by decide) rfl (a1.toInt.toNat)
        have Xz64390 : EM [28, 29, 30, 31, 35, 36, 37, 38] a0 P Y64382 := EM.tr ha0 X3 (Xy64385.mono (by decide))
        have e64391 := Xy64385.ref h64302 (by decide) e64304
        have e64392 := Xy64385.ref h64302 (by decide) e64378
        have h64393 := Xy64385.at h64302
        have h64394 := Xy64385.ar h64305
        have h64395 := Xy64385.ar h64379
        have h64396 := Iy64384.rg h64393 28 rfl
        refine g_iconst (v := 0) C dX12_isAllWith_23 (by decide) ?_
        refine g_istore (lv' := [(5, .int 0), (0, .ref a0), (1, .int a1), (2, .int a2), (3, .int a3), (4, .int v3_4)]) C dX12_isAllWith_24 (by decide) rfl ?_
        refine g_lv (lv' := [(0, .ref a0), (1, .int a1), (2, .int a2), (3, .int a3), (4, .int v3_4), (5, .int 0)]) [1, 2, 3, 4, 5, 0] rfl ?_
        exact J26 _ Y64382 0 (Nat.lt_succ_self _) Iy64384 Xz64390 W64386 (by omega) (by decide) (fun b9 e9 => by rw [e64391] at e9; cases e9; omega) (by show (pI Y64382 a0 28).toInt ≤ 44 + 0; omega)
  obtain ⟨b64397, e64398, h64399⟩ := I.fld (ha0) 10 13 2 rfl
  have hf0 := hf0 b64397 e64398
  refine g_iconst (v := 0) C dX12_isAllWith_0 (by decide) ?_
  refine g_istore (lv' := [(4, .int 0), (0, .ref a0), (1, .int a1), (2, .int a2), (3, .int a3)]) C dX12_isAllWith_1 (by decide) rfl ?_
  refine g_lv (lv' := [(0, .ref a0), (1, .int a1), (2, .int a2), (3, .int a3), (4, .int 0)]) [1, 2, 3, 4, 0] rfl ?_
  exact J3 _ P 0 (Nat.lt_succ_self _) I EM.rf hW (by decide) (fun b9 e9 => by rw [e64398] at e9; cases e9; omega)
