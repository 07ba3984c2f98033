theorem dX12_findSlipped_0 : decode cX12_findSlipped 0 = .ok (.aload_n 0, 1) := by decide +kernel
theorem dX12_findSlipped_1 : decode cX12_findSlipped 1 = .ok (.invokevirtual 336, 3) := by decide +kernel
theorem dX12_findSlipped_4 : decode cX12_findSlipped 4 = .ok (.aload_n 0, 1) := by decide +kernel
theorem dX12_findSlipped_5 : decode cX12_findSlipped 5 = .ok (.iload_n 1, 1) := by decide +kernel
theorem dX12_findSlipped_6 : decode cX12_findSlipped 6 = .ok (.iload_n 2, 1) := by decide +kernel
theorem dX12_findSlipped_7 : decode cX12_findSlipped 7 = .ok (.iload_n 3, 1) := by decide +kernel
theorem dX12_findSlipped_8 : decode cX12_findSlipped 8 = .ok (.aload_n 0, 1) := by decide +kernel
theorem dX12_findSlipped_9 : decode cX12_findSlipped 9 = .ok (.getfield 69, 3) := by decide +kernel
theorem dX12_findSlipped_12 : decode cX12_findSlipped 12 = .ok (.iload_n 1, 1) := by decide +kernel
theorem dX12_findSlipped_13 : decode cX12_findSlipped 13 = .ok (.iaload, 1) := by decide +kernel
theorem dX12_findSlipped_14 : decode cX12_findSlipped 14 = .ok (.invokevirtual 339, 3) := by decide +kernel
theorem dX12_findSlipped_17 : decode cX12_findSlipped 17 = .ok (.aload_n 0, 1) := by decide +kernel
theorem dX12_findSlipped_18 : decode cX12_findSlipped 18 = .ok (.invokevirtual 346, 3) := by decide +kernel
theorem dX12_findSlipped_21 : decode cX12_findSlipped 21 = .ok (.aload_n 0, 1) := by decide +kernel
theorem dX12_findSlipped_22 : decode cX12_findSlipped 22 = .ok (.iconst 0, 1) := by decide +kernel
theorem dX12_findSlipped_23 : decode cX12_findSlipped 23 = .ok (.putfield 361, 3) := by decide +kernel
theorem dX12_findSlipped_26 : decode cX12_findSlipped 26 = .ok (.aload_n 0, 1) := by decide +kernel
theorem dX12_findSlipped_27 : decode cX12_findSlipped 27 = .ok (.getfield 326, 3) := by decide +kernel
theorem dX12_findSlipped_30 : decode cX12_findSlipped 30 = .ok (.ifCond .eq 5, 3) := by decide +kernel
theorem dX12_findSlipped_33 : decode cX12_findSlipped 33 = .ok (.iconst 0, 1) := by decide +kernel
theorem dX12_findSlipped_34 : decode cX12_findSlipped 34 = .ok (.ireturn, 1) := by decide +kernel
theorem dX12_findSlipped_35 : decode cX12_findSlipped 35 = .ok (.iconst 0, 1) := by decide +kernel
theorem dX12_findSlipped_36 : decode cX12_findSlipped 36 = .ok (.istore 4, 2) := by decide +kernel
theorem dX12_findSlipped_38 : decode cX12_findSlipped 38 = .ok (.iload 4, 2) := by decide +kernel
theorem dX12_findSlipped_40 : decode cX12_findSlipped 40 = .ok (.aload_n 0, 1) := by decide +kernel
theorem dX12_findSlipped_41 : decode cX12_findSlipped 41 = .ok (.getfield 69, 3) := by decide +kernel
theorem dX12_findSlipped_44 : decode cX12_findSlipped 44 = .ok (.iload_n 1, 1) := by decide +kernel
theorem dX12_findSlipped_45 : decode cX12_findSlipped 45 = .ok (.iaload, 1) := by decide +kernel
theorem dX12_findSlipped_46 : decode cX12_findSlipped 46 = .ok (.if_icmp .ge 105, 3) := by decide +kernel
theorem dX12_findSlipped_49 : decode cX12_findSlipped 49 = .ok (.bipush 40, 2) := by decide +kernel
theorem dX12_findSlipped_51 : decode cX12_findSlipped 51 = .ok (.iload_n 1, 1) := by decide +kernel
theorem dX12_findSlipped_52 : decode cX12_findSlipped 52 = .ok (.imul, 1) := by decide +kernel
theorem dX12_findSlipped_53 : decode cX12_findSlipped 53 = .ok (.iload 4, 2) := by decide +kernel
theorem dX12_findSlipped_55 : decode cX12_findSlipped 55 = .ok (.iadd, 1) := by decide +kernel
theorem dX12_findSlipped_56 : decode cX12_findSlipped 56 = .ok (.istore 5, 2) := by decide +kernel
theorem dX12_findSlipped_58 : decode cX12_findSlipped 58 = .ok (.aload_n 0, 1) := by decide +kernel
theorem dX12_findSlipped_59 : decode cX12_findSlipped 59 = .ok (.getfield 75, 3) := by decide +kernel
theorem dX12_findSlipped_62 : decode cX12_findSlipped 62 = .ok (.iload 5, 2) := by decide +kernel
theorem dX12_findSlipped_64 : decode cX12_findSlipped 64 = .ok (.iaload, 1) := by decide +kernel
theorem dX12_findSlipped_65 : decode cX12_findSlipped 65 = .ok (.iload_n 2, 1) := by decide +kernel
theorem dX12_findSlipped_66 : decode cX12_findSlipped 66 = .ok (.if_icmp .ne 79, 3) := by decide +kernel
theorem dX12_findSlipped_69 : decode cX12_findSlipped 69 = .ok (.aload_n 0, 1) := by decide +kernel
theorem dX12_findSlipped_70 : decode cX12_findSlipped 70 = .ok (.getfield 81, 3) := by decide +kernel
theorem dX12_findSlipped_73 : decode cX12_findSlipped 73 = .ok (.iload 5, 2) := by decide +kernel
theorem dX12_findSlipped_75 : decode cX12_findSlipped 75 = .ok (.iaload, 1) := by decide +kernel
theorem dX12_findSlipped_76 : decode cX12_findSlipped 76 = .ok (.iload_n 3, 1) := by decide +kernel
theorem dX12_findSlipped_77 : decode cX12_findSlipped 77 = .ok (.ishr, 1) := by decide +kernel
theorem dX12_findSlipped_78 : decode cX12_findSlipped 78 = .ok (.iconst 1, 1) := by decide +kernel
theorem dX12_findSlipped_79 : decode cX12_findSlipped 79 = .ok (.iand, 1) := by decide +kernel
theorem dX12_findSlipped_80 : decode cX12_findSlipped 80 = .ok (.iconst 1, 1) := by decide +kernel
theorem dX12_findSlipped_81 : decode cX12_findSlipped 81 = .ok (.if_icmp .ne 64, 3) := by decide +kernel
theorem dX12_findSlipped_84 : decode cX12_findSlipped 84 = .ok (.aload_n 0, 1) := by decide +kernel
theorem dX12_findSlipped_85 : decode cX12_findSlipped 85 = .ok (.getfield 100, 3) := by decide +kernel
theorem dX12_findSlipped_88 : decode cX12_findSlipped 88 = .ok (.iload 4, 2) := by decide +kernel
theorem dX12_findSlipped_90 : decode cX12_findSlipped 90 = .ok (.iconst 1, 1) := by decide +kernel
theorem dX12_findSlipped_91 : decode cX12_findSlipped 91 = .ok (.bastore, 1) := by decide +kernel
theorem dX12_findSlipped_92 : decode cX12_findSlipped 92 = .ok (.aload_n 0, 1) := by decide +kernel
theorem dX12_findSlipped_93 : decode cX12_findSlipped 93 = .ok (.iload_n 1, 1) := by decide +kernel
theorem dX12_findSlipped_94 : decode cX12_findSlipped 94 = .ok (.iload_n 2, 1) := by decide +kernel
theorem dX12_findSlipped_95 : decode cX12_findSlipped 95 = .ok (.iload_n 3, 1) := by decide +kernel
theorem dX12_findSlipped_96 : decode cX12_findSlipped 96 = .ok (.aload_n 0, 1) := by decide +kernel
theorem dX12_findSlipped_97 : decode cX12_findSlipped 97 = .ok (.getfield 69, 3) := by decide +kernel
theorem dX12_findSlipped_100 : decode cX12_findSlipped 100 = .ok (.iload_n 1, 1) := by decide +kernel
theorem dX12_findSlipped_101 : decode cX12_findSlipped 101 = .ok (.iaload, 1) := by decide +kernel
theorem dX12_findSlipped_102 : decode cX12_findSlipped 102 = .ok (.invokevirtual 339, 3) := by decide +kernel
theorem dX12_findSlipped_105 : decode cX12_findSlipped 105 = .ok (.aload_n 0, 1) := by decide +kernel
theorem dX12_findSlipped_106 : decode cX12_findSlipped 106 = .ok (.invokevirtual 346, 3) := by decide +kernel
theorem dX12_findSlipped_109 : decode cX12_findSlipped 109 = .ok (.aload_n 0, 1) := by decide +kernel
theorem dX12_findSlipped_110 : decode cX12_findSlipped 110 = .ok (.getfield 100, 3) := by decide +kernel
theorem dX12_findSlipped_113 : decode cX12_findSlipped 113 = .ok (.iload 4, 2) := by decide +kernel
theorem dX12_findSlipped_115 : decode cX12_findSlipped 115 = .ok (.iconst 0, 1) := by decide +kernel
theorem dX12_findSlipped_116 : decode cX12_findSlipped 116 = .ok (.bastore, 1) := by decide +kernel
theorem dX12_findSlipped_117 : decode cX12_findSlipped 117 = .ok (.aload_n 0, 1) := by decide +kernel
theorem dX12_findSlipped_118 : decode cX12_findSlipped 118 = .ok (.getfield 326, 3) := by decide +kernel
theorem dX12_findSlipped_121 : decode cX12_findSlipped 121 = .ok (.ifCond .eq 24, 3) := by decide +kernel
theorem dX12_findSlipped_124 : decode cX12_findSlipped 124 = .ok (.aload_n 0, 1) := by decide +kernel
theorem dX12_findSlipped_125 : decode cX12_findSlipped 125 = .ok (.getfield 112, 3) := by decide +kernel
theorem dX12_findSlipped_128 : decode cX12_findSlipped 128 = .ok (.aload_n 0, 1) := by decide +kernel
theorem dX12_findSlipped_129 : decode cX12_findSlipped 129 = .ok (.getfield 361, 3) := by decide +kernel
theorem dX12_findSlipped_132 : decode cX12_findSlipped 132 = .ok (.iload 4, 2) := by decide +kernel
theorem dX12_findSlipped_134 : decode cX12_findSlipped 134 = .ok (.iastore, 1) := by decide +kernel
theorem dX12_findSlipped_135 : decode cX12_findSlipped 135 = .ok (.aload_n 0, 1) := by decide +kernel
theorem dX12_findSlipped_136 : decode cX12_findSlipped 136 = .ok (.dup, 1) := by decide +kernel
theorem dX12_findSlipped_137 : decode cX12_findSlipped 137 = .ok (.getfield 361, 3) := by decide +kernel
theorem dX12_findSlipped_140 : decode cX12_findSlipped 140 = .ok (.iconst 1, 1) := by decide +kernel
theorem dX12_findSlipped_141 : decode cX12_findSlipped 141 = .ok (.iadd, 1) := by decide +kernel
theorem dX12_findSlipped_142 : decode cX12_findSlipped 142 = .ok (.putfield 361, 3) := by decide +kernel
theorem dX12_findSlipped_145 : decode cX12_findSlipped 145 = .ok (.iinc 4 1, 3) := by decide +kernel
theorem dX12_findSlipped_148 : decode cX12_findSlipped 148 = .ok (.goto (-110), 3) := by decide +kernel
theorem dX12_findSlipped_151 : decode cX12_findSlipped 151 = .ok (.iconst 1, 1) := by decide +kernel
theorem dX12_findSlipped_152 : decode cX12_findSlipped 152 = .ok (.ireturn, 1) := by decide +kernel
set_option maxHeartbeats 4000000 in
set_option maxRecDepth 100000 in
theorem s_X12_findSlipped {P : PP} {a0 : Nat} {a1 : Int32} {a2 : Int32} {a3 : Int32} (I : IM P a0) (ha1 : 0 ≤ a1.toInt ∧ a1.toInt ≤ 3) (ha2 : 0 ≤ a2.toInt ∧ a2.toInt ≤ 1) (ha3 : 0 ≤ a3.toInt ∧ a3.toInt ≤ 1) (hf0 : ∀ b, pR P a0 10 = some b → 1 ≤ (pI P b (a2.toInt.toNat)).toInt ∧ (pI P b (a2.toInt.toNat)).toInt ≤ 16) (hW : MW P a0) : CtrI yX12_findSlipped cX12_findSlipped 6 (some Jvm.ClassFile.FieldType.boolean) ({ frames := 7, cells := 0, slots := 0, locals := 448 } : Room) 0 0 P [.ref a0, .int a1, .int a2, .int a3] (fun r P2 => IM P2 a0 ∧ EM [28, 29, 30, 31, 32, 35, 36, 37, 38, 39, 40] a0 P P2 ∧ MW P2 a0 ∧ (0 ≤ r.toInt ∧ r.toInt ≤ 1)) := by
  refine enI (lv := [(0, .ref a0), (1, .int a1), (2, .int a2), (3, .int a3)]) (by decide) (Nat.le_of_ble_eq_true rfl) rfl (fun E D cy C Ci0 ret => ?_)
  have ha0 := I.2.1
  have J38 : ∀ (n38 : Nat) (P38 : PP) (v38_4 : Int32), (40 - v38_4.toInt).toNat < n38 → (IM P38 a0) → (EM [28, 29, 30, 31, 32, 35, 36, 37, 38, 39, 40] a0 P P38) → (MW P38 a0) → (0 ≤ v38_4.toInt ∧ v38_4.toInt ≤ 40) → (0 ≤ (pI P38 a0 28).toInt ∧ (pI P38 a0 28).toInt ≤ 44) → (∀ b, pR P38 a0 10 = some b → 1 ≤ (pI P38 b (a2.toInt.toNat)).toInt ∧ (pI P38 b (a2.toInt.toNat)).toInt ≤ 16) → ((pI P38 a0 39).toInt ≤ v38_4.toInt) → G E ({ frames := 7, cells := 0, slots := 0, locals := 448 } : Room) D cy 6 P38 0 0 38 [(0, .ref a0), (1, .int a1), (2, .int a2), (3, .int a3), (4, .int v38_4)] [] := by
    intro n38
    induction n38 with
    | zero => intro P38 v38_4 hm38 I38 X38 W38 hv38_4 hq38_0 hq38_1 rel38_0; omega
    | succ n38 ih38 =>
      intro P38 v38_4 hm38 I38 X38 W38 hv38_4 hq38_0 hq38_1 rel38_0
      have h55490 := X38.at ha0
      obtain ⟨b55491, e55492, h55493⟩ := I38.fld (h55490) 10 13 2 rfl
      have hq38_1 := hq38_1 b55491 e55492
      have h55494 := I38.rg h55490 39 rfl
      have J145 : ∀ (P145 : PP), (IM P145 a0) → (EM [28, 29, 30, 31, 32, 35, 36, 37, 38, 39, 40] a0 P P145) → (MW P145 a0) → (0 ≤ v38_4.toInt ∧ v38_4.toInt ≤ 39) → (0 ≤ (pI P145 a0 28).toInt ∧ (pI P145 a0 28).toInt ≤ 44) → (∀ b, pR P145 a0 10 = some b → 1 ≤ (pI P145 b (a2.toInt.toNat)).toInt ∧ (pI P145 b (a2.toInt.toNat)).toInt ≤ 16) → (∀ b, pR P145 a0 20 = some b → 1 ≤ (pI P145 b (a1.toInt.toNat)).toInt ∧ (pI P145 b (a1.toInt.toNat)).toInt ≤ 40) → ((pI P145 a0 39).toInt ≤ v38_4.toInt + 1) → G E ({ frames := 7, cells := 0, slots := 0, locals := 448 } : Room) D cy 6 P145 0 0 145 [(0, .ref a0), (1, .int a1), (2, .int a2), (3, .int a3), (4, .int v38_4)] [] := by
        intro P145 I145 X145 W145 hv145_4 hq145_0 hq145_1 hq145_2 rel145_0
        have h55495 := X145.at ha0
        obtain ⟨b55496, e55497, h55498⟩ := I145.fld (h55495) 10 13 2 rfl
        have hq145_1 := hq145_1 b55496 e55497
        obtain ⟨b55499, e55500, h55501⟩ := I145.fld (h55495) 20 13 20 rfl
        have hq145_2 := hq145_2 b55499 e55500
        have h55502 := I145.rg h55495 39 rfl
        refine s_iinc (lv0 := [(0, .ref a0), (1, .int a1), (2, .int a2), (3, .int a3)]) (m := 1) C dX12_findSlipped_145 4 rfl (by decide) rfl (by decide) (by omega) (fun z55503 h55504 => ?_)
        have h55504 : z55503.toInt = v38_4.toInt + 1 := h55504
        refine g_goto C 38 dX12_findSlipped_148 (by decide) ?_
        refine g_lv (lv' := [(0, .ref a0), (1, .int a1), (2, .int a2), (3, .int a3), (4, .int z55503)]) [1, 2, 3, 4, 0] rfl ?_
        exact ih38 P145 z55503 (by omega) I145 X145 W145 (by omega) (by omega) (fun b9 e9 => by rw [e55497] at e9; cases e9; omega) (by show (pI P145 a0 39).toInt ≤ z55503.toInt; omega)
      refine g_iload C dX12_findSlipped_38 4 rfl ?_
      refine g_aload_n C dX12_findSlipped_40 rfl 0 rfl ?_
      obtain ⟨b55505, e55506, h55507⟩ := I38.fld (h55490) 20 13 20 rfl
      refine g_getR C fi_X12_69 rfl e55506 (h55490).1 (h55490).2 dX12_findSlipped_41 ?_
      refine g_iload_n C dX12_findSlipped_44 rfl 1 rfl ?_
      refine g_iald (j := (a1.toInt.toNat)) C h55507.1 h55507.2.1 (ix_in h55507.2.2 (by omega)) dX12_findSlipped_45 ?_
      have h55508 := I38.arr e55506 rfl (a1.toInt.toNat)
      refine b_icmp_ge C 151 dX12_findSlipped_46 (by decide) (fun h55509 => ?_) (fun h55509 => ?_)
      · have h55509 : (pI P38 b55505 (a1.toInt.toNat)).toInt ≤ v38_4.toInt := h55509
        refine g_iconst (v := 1) C dX12_findSlipped_151 (by decide) ?_
        exact ret _ _ _ _ _ _ dX12_findSlipped_152 rfl (by decide) (by decide) ⟨I38, X38, W38, (by decide)⟩
      · have h55509 : v38_4.toInt < (pI P38 b55505 (a1.toInt.toNat)).toInt := h55509
        refine g_bipush (v := 40) C dX12_findSlipped_49 (by decide) ?_
        refine g_iload_n C dX12_findSlipped_51 rfl 1 rfl ?_
        refine s_imul C dX12_findSlipped_52 (by show -2147483648 ≤ 40 * a1.toInt ∧ 40 * a1.toInt ≤ 2147483647; omega) (fun z55510 h55511 => ?_)
        have h55511 : z55510.toInt = 40 * a1.toInt := h55511
        refine g_iload C dX12_findSlipped_53 4 rfl ?_
        refine s_iadd C dX12_findSlipped_55 (by show -2147483648 ≤ z55510.toInt + v38_4.toInt ∧ z55510.toInt + v38_4.toInt ≤ 2147483647; omega) (fun z55512 h55513 => ?_)
        have h55513 : z55512.toInt = z55510.toInt + v38_4.toInt := h55513
        refine g_istore (lv' := [(5, .int z55512), (0, .ref a0), (1, .int a1), (2, .int a2), (3, .int a3), (4, .int v38_4)]) C dX12_findSlipped_56 (by decide) rfl ?_
        refine g_aload_n C dX12_findSlipped_58 rfl 1 rfl ?_
        obtain ⟨b55514, e55515, h55516⟩ := I38.fld (h55490) 22 13 800 rfl
        refine g_getR C fi_X12_75 rfl e55515 (h55490).1 (h55490).2 dX12_findSlipped_59 ?_
        refine g_iload C dX12_findSlipped_62 0 rfl ?_
        refine g_iald (j := (z55512.toInt.toNat)) C h55516.1 h55516.2.1 (ix_in h55516.2.2 (by omega)) dX12_findSlipped_64 ?_
        have h55517 := I38.arr e55515 rfl (z55512.toInt.toNat)
        refine g_iload_n C dX12_findSlipped_65 rfl 3 rfl ?_
        refine b_icmp_ne C 145 dX12_findSlipped_66 (by decide) (fun h55518 => ?_) (fun h55518 => ?_)
        · have h55518 : (pI P38 b55514 (z55512.toInt.toNat)).toInt ≠ a2.toInt := ti_ne h55518
          refine g_lv (lv' := [(0, .ref a0), (1, .int a1), (2, .int a2), (3, .int a3), (4, .int v38_4)]) [1, 2, 3, 4, 5] rfl ?_
          exact J145 P38 I38 X38 W38 (by omega) (by omega) (fun b9 e9 => by rw [e55492] at e9; cases e9; omega) (fun b9 e9 => by rw [e55506] at e9; cases e9; omega) (by show (pI P38 a0 39).toInt ≤ v38_4.toInt + 1; omega)
        · have h55518 : (pI P38 b55514 (z55512.toInt.toNat)).toInt = a2.toInt := congrArg Int32.toInt h55518
          refine g_aload_n C dX12_findSlipped_69 rfl 1 rfl ?_
          obtain ⟨b55519, e55520, h55521⟩ := I38.fld (h55490) 24 13 800 rfl
          refine g_getR C fi_X12_81 rfl e55520 (h55490).1 (h55490).2 dX12_findSlipped_70 ?_
          refine g_iload C dX12_findSlipped_73 0 rfl ?_
          refine g_iald (j := (z55512.toInt.toNat)) C h55521.1 h55521.2.1 (ix_in h55521.2.2 (by omega)) dX12_findSlipped_75 ?_
          refine g_iload_n C dX12_findSlipped_76 rfl 4 rfl ?_
          refine a_ishr C dX12_findSlipped_77 (fun z55522 => ?_)
          refine g_iconst (v := 1) C dX12_findSlipped_78 (by decide) ?_
          refine s_iand C dX12_findSlipped_79 (by show 0 ≤ 1; omega) (fun z55524 h55525 => ?_)
          have h55525 : 0 ≤ z55524.toInt ∧ z55524.toInt ≤ 1 := h55525
          refine g_iconst (v := 1) C dX12_findSlipped_80 (by decide) ?_
          refine b_icmp_ne C 145 dX12_findSlipped_81 (by decide) (fun h55526 => ?_) (fun h55526 => ?_)
          · have h55526 : z55524.toInt ≠ 1 := ti_ne h55526
            refine g_lv (lv' := [(0, .ref a0), (1, .int a1), (2, .int a2), (3, .int a3), (4, .int v38_4)]) [1, 2, 3, 4, 5] rfl ?_
            exact J145 P38 I38 X38 W38 (by omega) (by omega) (fun b9 e9 => by rw [e55492] at e9; cases e9; omega) (fun b9 e9 => by rw [e55506] at e9; cases e9; omega) (by show (pI P38 a0 39).toInt ≤ v38_4.toInt + 1; omega)
          · have h55526 : z55524.toInt = 1 := congrArg Int32.toInt h55526
            refine g_aload_n C dX12_findSlipped_84 rfl 1 rfl ?_
            obtain ⟨b55527, e55528, h55529⟩ := I38.fld (h55490) 32 15 40 rfl
            refine g_getR C fi_X12_100 rfl e55528 (h55490).1 (h55490).2 dX12_findSlipped_85 ?_
            refine g_iload C dX12_findSlipped_88 5 rfl ?_
            refine g_iconst (v := 1) C dX12_findSlipped_90 (by decide) ?_
            refine g_zast (j := (v38_4.toInt.toNat)) C h55529.1 h55529.2.1 (ix_in h55529.2.2 (by omega)) (Or.inr rfl) dX12_findSlipped_91 ?_
            refine gqW (ks := [32]) (I38.setA e55528 h55529 (by decide) (arOk.none rfl)) (EM.setA I38 e55528 rfl (by decide)) (fun Y55530 Iy55531 Xy55532 w55533 => ?_)
            have w55533 : (pI Y55530 b55527 (v38_4.toInt.toNat)).toInt = 1 := w55533
            have q55534 := Xy55532.keepF 28 (by decide)
            have q55535 := Xy55532.keepA e55492 (by decide) rfl (a2.toInt.toNat)
            have q55536 := Xy55532.keepF 39 (by decide)
            have q55537 := Xy55532.keepA e55506 (by decide) rfl (a1.toInt.toNat)
            have q55538 := Xy55532.keepA e55515 (by decide) rfl (z55512.toInt.toNat)
            have W55539 := W38.keep I38 Xy55532 (by decide) (by decide) (by decide)
            have Xz55540 : EM [28, 29, 30, 31, 32, 35, 36, 37, 38, 39, 40] a0 P Y55530 := EM.tr ha0 X38 (Xy55532.mono (by decide))
            have e55541 := Xy55532.ref h55490 (by decide) e55492
            have e55542 := Xy55532.ref h55490 (by decide) e55506
            have e55543 := Xy55532.ref h55490 (by decide) e55515
            have e55544 := Xy55532.ref h55490 (by decide) e55528
            have h55545 := Xy55532.at h55490
            have h55546 := Xy55532.ar h55493
            have h55547 := Xy55532.ar h55507
            have h55548 := Xy55532.ar h55516
            have h55549 := Xy55532.ar h55529
            refine g_aload_n C dX12_findSlipped_92 rfl 1 rfl ?_
            refine g_iload_n C dX12_findSlipped_93 rfl 2 rfl ?_
            refine g_iload_n C dX12_findSlipped_94 rfl 3 rfl ?_
            refine g_iload_n C dX12_findSlipped_95 rfl 4 rfl ?_
            refine g_aload_n C dX12_findSlipped_96 rfl 1 rfl ?_
            refine g_getR C fi_X12_69 rfl e55542 (h55545).1 (h55545).2 dX12_findSlipped_97 ?_
            refine g_iload_n C dX12_findSlipped_100 rfl 2 rfl ?_
            refine g_iald (j := (a1.toInt.toNat)) C h55547.1 h55547.2.1 (ix_in h55547.2.2 (by omega)) dX12_findSlipped_101 ?_
            refine g_callVV (rest := []) C mv_X12_339 [.int a1, .int a2, .int a3, .int (pI Y55530 b55505 (a1.toInt.toNat))] (s_X12_gathers Iy55531 (by omega) (by omega) (by omega) (fun b9 e9 => by rw [e55541] at e9; cases e9; show 1 ≤ (pI Y55530 b55491 (a2.toInt.toNat)).toInt ∧ (pI Y55530 b55491 (a2.toInt.toNat)).toInt ≤ 16; omega) W55539) (h55545).1 (h55545).2 rfl rfl (by decide) (Nat.le_of_ble_eq_true rfl) (by decide) dX12_findSlipped_102 (fun Y55551 h55552 => ?_)
            obtain ⟨Iy55553, Xy55554, W55555, p55556⟩ := h55552
            have p55556 : (pI Y55551 a0 28).toInt ≤ 4 + (pI Y55530 b55505 (a1.toInt.toNat)).toInt := p55556
            have q55557 := Xy55554.keepA e55541 (by decide) rfl (a2.toInt.toNat)
            have q55558 := Xy55554.keepF 39 (by decide)
            have q55559 := Xy55554.keepA e55542 (by decide) rfl (a1.toInt.toNat)
            have q55560 := Xy55554.keepA e55543 (by decide) rfl (z55512.toInt.toNat)
            have q55561 := Xy55554.keepA e55544 (by decide) rfl (v38_4.toInt.toNat)
            have Xz55562 : EM [28, 29, 30, 31, 32, 35, 36, 37, 38, 39, 40] a0 P Y55551 := EM.tr ha0 Xz55540 (Xy55554.mono (by decide))
            have e55563 := Xy55554.ref h55545 (by decide) e55541
            have e55564 := Xy55554.ref h55545 (by decide) e55542
            have e55565 := Xy55554.ref h55545 (by decide) e55543
            have e55566 := Xy55554.ref h55545 (by decide) e55544
            have h55567 := Xy55554.at h55545
            have h55568 := Xy55554.ar h55546
            have h55569 := Xy55554.ar h55547
            have h55570 := Xy55554.ar h55548
            have h55571 := Xy55554.ar h55549
            have h55572 := Iy55553.rg h55567 28 rfl
            refine g_aload_n C dX12_findSlipped_105 rfl 1 rfl ?_
            refine g_callVV (rest := []) C mv_X12_346 [] (s_X12_findSolved Iy55553 W55555) (h55567).1 (h55567).2 rfl rfl (by decide) (Nat.le_of_ble_eq_true rfl) (by decide) dX12_findSlipped_106 (fun Y55574 h55575 => ?_)
            obtain ⟨Iy55576, Xy55577, W55578⟩ := h55575
            have q55579 := Xy55577.keepA e55563 (by decide) rfl (a2.toInt.toNat)
            have q55580 := Xy55577.keepF 39 (by decide)
            have q55581 := Xy55577.keepA e55564 (by decide) rfl (a1.toInt.toNat)
            have q55582 := Xy55577.keepA e55565 (by decide) rfl (z55512.toInt.toNat)
            have q55583 := Xy55577.keepA e55566 (by decide) rfl (v38_4.toInt.toNat)
            have q55584 := Xy55577.keepF 28 (by decide)
            have Xz55585 : EM [28, 29, 30, 31, 32, 35, 36, 37, 38, 39, 40] a0 P Y55574 := EM.tr ha0 Xz55562 (Xy55577.mono (by decide))
            have e55586 := Xy55577.ref h55567 (by decide) e55563
            have e55587 := Xy55577.ref h55567 (by decide) e55564
            have e55588 := Xy55577.ref h55567 (by decide) e55565
            have e55589 := Xy55577.ref h55567 (by decide) e55566
            have h55590 := Xy55577.at h55567
            have h55591 := Xy55577.ar h55568
            have h55592 := Xy55577.ar h55569
            have h55593 := Xy55577.ar h55570
            have h55594 := Xy55577.ar h55571
            refine g_aload_n C dX12_findSlipped_109 rfl 1 rfl ?_
            refine g_getR C fi_X12_100 rfl e55589 (h55590).1 (h55590).2 dX12_findSlipped_110 ?_
            refine g_iload C dX12_findSlipped_113 5 rfl ?_
            refine g_iconst (v := 0) C dX12_findSlipped_115 (by decide) ?_
            refine g_zast (j := (v38_4.toInt.toNat)) C h55594.1 h55594.2.1 (ix_in h55594.2.2 (by omega)) (Or.inl rfl) dX12_findSlipped_116 ?_
            refine gqW (ks := [32]) (Iy55576.setA e55589 h55594 (by decide) (arOk.none rfl)) (EM.setA Iy55576 e55589 rfl (by decide)) (fun Y55595 Iy55596 Xy55597 w55598 => ?_)
            have w55598 : (pI Y55595 b55527 (v38_4.toInt.toNat)).toInt = 0 := w55598
            have q55599 := Xy55597.keepA e55586 (by decide) rfl (a2.toInt.toNat)
            have q55600 := Xy55597.keepF 39 (by decide)
            have q55601 := Xy55597.keepA e55587 (by decide) rfl (a1.toInt.toNat)
            have q55602 := Xy55597.keepA e55588 (by decide) rfl (z55512.toInt.toNat)
            have q55603 := Xy55597.keepF 28 (by decide)
            have W55604 := W55578.keep Iy55576 Xy55597 (by decide) (by decide) (by decide)
            have Xz55605 : EM [28, 29, 30, 31, 32, 35, 36, 37, 38, 39, 40] a0 P Y55595 := EM.tr ha0 Xz55585 (Xy55597.mono (by decide))
            have e55606 := Xy55597.ref h55590 (by decide) e55586
            have e55607 := Xy55597.ref h55590 (by decide) e55587
            have e55608 := Xy55597.ref h55590 (by decide) e55588
            have e55609 := Xy55597.ref h55590 (by decide) e55589
            have h55610 := Xy55597.at h55590
            have h55611 := Xy55597.ar h55591
            have h55612 := Xy55597.ar h55592
            have h55613 := Xy55597.ar h55593
            have h55614 := Xy55597.ar h55594
            refine g_aload_n C dX12_findSlipped_117 rfl 1 rfl ?_
            refine g_getI C fi_X12_326 (by decide) (h55610).1 (h55610).2 dX12_findSlipped_118 ?_
            have h55615 := Iy55596.rg (h55610) 36 rfl
            refine b_if_eq C 145 dX12_findSlipped_121 (by decide) (fun h55616 => ?_) (fun h55616 => ?_)
            · have h55616 : (pI Y55595 a0 36).toInt = 0 := congrArg Int32.toInt h55616
              refine g_lv (lv' := [(0, .ref a0), (1, .int a1), (2, .int a2), (3, .int a3), (4, .int v38_4)]) [1, 2, 3, 4, 5] rfl ?_
              exact J145 Y55595 Iy55596 Xz55605 W55604 (by omega) (by omega) (fun b9 e9 => by rw [e55606] at e9; cases e9; omega) (fun b9 e9 => by rw [e55607] at e9; cases e9; omega) (by show (pI Y55595 a0 39).toInt ≤ v38_4.toInt + 1; omega)
            · have h55616 : (pI Y55595 a0 36).toInt ≠ 0 := ti_ne h55616
              refine g_aload_n C dX12_findSlipped_124 rfl 1 rfl ?_
              obtain ⟨b55617, e55618, h55619⟩ := Iy55596.fld (h55610) 40 13 40 rfl
              refine g_getR C fi_X12_112 rfl e55618 (h55610).1 (h55610).2 dX12_findSlipped_125 ?_
              refine g_aload_n C dX12_findSlipped_128 rfl 1 rfl ?_
              refine g_getI C fi_X12_361 (by decide) (h55610).1 (h55610).2 dX12_findSlipped_129 ?_
              refine g_iload C dX12_findSlipped_132 5 rfl ?_
              refine g_iast (j := ((pI Y55595 a0 39).toInt.toNat)) C h55619.1 h55619.2.1 (ix_in h55619.2.2 (by omega)) dX12_findSlipped_134 ?_
              refine gqW (ks := [40]) (Iy55596.setA e55618 h55619 (by decide) (arOk.of rfl (by omega))) (EM.setA Iy55596 e55618 rfl (by decide)) (fun Y55620 Iy55621 Xy55622 w55623 => ?_)
              have w55623 : (pI Y55620 b55617 ((pI Y55595 a0 39).toInt.toNat)).toInt = v38_4.toInt := w55623
              have q55624 := Xy55622.keepA e55606 (by decide) rfl (a2.toInt.toNat)
              have q55625 := Xy55622.keepF 39 (by decide)
              have q55626 := Xy55622.keepA e55607 (by decide) rfl (a1.toInt.toNat)
              have q55627 := Xy55622.keepA e55608 (by decide) rfl (z55512.toInt.toNat)
              have q55628 := Xy55622.keepF 28 (by decide)
              have q55629 := Xy55622.keepA e55609 (by decide) rfl (v38_4.toInt.toNat)
              have q55630 := Xy55622.keepF 36 (by decide)
              have W55631 := W55604.keep Iy55596 Xy55622 (by decide) (by decide) (by decide)
              have Xz55632 : EM [28, 29, 30, 31, 32, 35, 36, 37, 38, 39, 40] a0 P Y55620 := EM.tr ha0 Xz55605 (Xy55622.mono (by decide))
              have e55633 := Xy55622.ref h55610 (by decide) e55606
              have e55634 := Xy55622.ref h55610 (by decide) e55607
              have e55635 := Xy55622.ref h55610 (by decide) e55608
              have e55636 := Xy55622.ref h55610 (by decide) e55609
              have h55637 := Xy55622.at h55610
              have h55638 := Xy55622.ar h55611
              have h55639 := Xy55622.ar h55612
              have h55640 := Xy55622.ar h55613
              have h55641 := Xy55622.ar h55614
              refine g_aload_n C dX12_findSlipped_135 rfl 1 rfl ?_
              refine g_dup C dX12_findSlipped_136 rfl ?_
              refine g_getI C fi_X12_361 (by decide) (h55637).1 (h55637).2 dX12_findSlipped_137 ?_
              refine g_iconst (v := 1) C dX12_findSlipped_140 (by decide) ?_
              refine s_iadd C dX12_findSlipped_141 (by show -2147483648 ≤ (pI Y55620 a0 39).toInt + 1 ∧ (pI Y55620 a0 39).toInt + 1 ≤ 2147483647; omega) (fun z55642 h55643 => ?_)
              have h55643 : z55642.toInt = (pI Y55620 a0 39).toInt + 1 := h55643
              refine g_putI C fi_X12_361 rfl (h55637).1 (h55637).2 dX12_findSlipped_142 ?_
              refine gqW (ks := [39]) (Iy55621.setI (rgOk.of rfl (by omega))) (EM.setI Iy55621 (by decide)) (fun Y55644 Iy55645 Xy55646 w55647 => ?_)
              have w55647 : (pI Y55644 a0 39).toInt = z55642.toInt := w55647
              have q55648 := Xy55646.keepA e55633 (by decide) rfl (a2.toInt.toNat)
              have q55649 := Xy55646.keepA e55634 (by decide) rfl (a1.toInt.toNat)
              have q55650 := Xy55646.keepA e55635 (by decide) rfl (z55512.toInt.toNat)
              have q55651 := Xy55646.keepF 28 (by decide)
              have q55652 := Xy55646.keepA e55636 (by decide) rfl (v38_4.toInt.toNat)
              have q55653 := Xy55646.keepF 36 (by decide)
              have W55654 := W55631.keep Iy55621 Xy55646 (by decide) (by decide) (by decide)
              have Xz55655 : EM [28, 29, 30, 31, 32, 35, 36, 37, 38, 39, 40] a0 P Y55644 := EM.tr ha0 Xz55632 (Xy55646.mono (by decide))
              have e55656 := Xy55646.ref h55637 (by decide) e55633
              have e55657 := Xy55646.ref h55637 (by decide) e55634
              have e55658 := Xy55646.ref h55637 (by decide) e55635
              have e55659 := Xy55646.ref h55637 (by decide) e55636
              have h55660 := Xy55646.at h55637
              have h55661 := Xy55646.ar h55638
              have h55662 := Xy55646.ar h55639
              have h55663 := Xy55646.ar h55640
              have h55664 := Xy55646.ar h55641
              refine g_lv (lv' := [(0, .ref a0), (1, .int a1), (2, .int a2), (3, .int a3), (4, .int v38_4)]) [1, 2, 3, 4, 5] rfl ?_
              exact J145 Y55644 Iy55645 Xz55655 W55654 (by omega) (by omega) (fun b9 e9 => by rw [e55656] at e9; cases e9; omega) (fun b9 e9 => by rw [e55657] at e9; cases e9; omega) (by show (pI Y55644 a0 39).toInt ≤ v38_4.toInt + 1; omega)
  obtain ⟨b55665, e55666, h55667⟩ := I.fld (ha0) 10 13 2 rfl
  have hf0 := hf0 b55665 e55666
  refine g_aload_n C dX12_findSlipped_0 rfl 0 rfl ?_
  refine g_callVV (rest := []) C mv_X12_336 [] (s_X12_leavesNone I hW) (ha0).1 (ha0).2 rfl rfl (by decide) (Nat.le_of_ble_eq_true rfl) (by decide) dX12_findSlipped_1 (fun Y55669 h55670 => ?_)
  obtain ⟨Iy55671, Xy55672, W55673⟩ := h55670
  have q55674 := Xy55672.keepA e55666 (by decide) rfl (a2.toInt.toNat)
  have Xz55675 : EM [28, 29, 30, 31, 32, 35, 36, 37, 38, 39, 40] a0 P Y55669 := Xy55672.mono (by decide)
  have e55676 := Xy55672.ref ha0 (by decide) e55666
  have h55677 := Xy55672.at ha0
  have h55678 := Xy55672.ar h55667
  refine g_aload_n C dX12_findSlipped_4 rfl 0 rfl ?_
  refine g_iload_n C dX12_findSlipped_5 rfl 1 rfl ?_
  refine g_iload_n C dX12_findSlipped_6 rfl 2 rfl ?_
  refine g_iload_n C dX12_findSlipped_7 rfl 3 rfl ?_
  refine g_aload_n C dX12_findSlipped_8 rfl 0 rfl ?_
  obtain ⟨b55679, e55680, h55681⟩ := Iy55671.fld (h55677) 20 13 20 rfl
  refine g_getR C fi_X12_69 rfl e55680 (h55677).1 (h55677).2 dX12_findSlipped_9 ?_
  refine g_iload_n C dX12_findSlipped_12 rfl 1 rfl ?_
  refine g_iald (j := (a1.toInt.toNat)) C h55681.1 h55681.2.1 (ix_in h55681.2.2 (by omega)) dX12_findSlipped_13 ?_
  have h55682 := Iy55671.arr e55680 rfl (a1.toInt.toNat)
  refine g_callVV (rest := []) C mv_X12_339 [.int a1, .int a2, .int a3, .int (pI Y55669 b55679 (a1.toInt.toNat))] (s_X12_gathers Iy55671 (by omega) (by omega) (by omega) (fun b9 e9 => by rw [e55676] at e9; cases e9; show 1 ≤ (pI Y55669 b55665 (a2.toInt.toNat)).toInt ∧ (pI Y55669 b55665 (a2.toInt.toNat)).toInt ≤ 16; omega) W55673) (h55677).1 (h55677).2 rfl rfl (by decide) (Nat.le_of_ble_eq_true rfl) (by decide) dX12_findSlipped_14 (fun Y55684 h55685 => ?_)
  obtain ⟨Iy55686, Xy55687, W55688, p55689⟩ := h55685
  have p55689 : (pI Y55684 a0 28).toInt ≤ 4 + (pI Y55669 b55679 (a1.toInt.toNat)).toInt := p55689
  have q55690 := Xy55687.keepA e55676 (by decide) rfl (a2.toInt.toNat)
  have q55691 := Xy55687.keepA e55680 (by decide) rfl (a1.toInt.toNat)
  have Xz55692 : EM [28, 29, 30, 31, 32, 35, 36, 37, 38, 39, 40] a0 P Y55684 := EM.tr ha0 Xz55675 (Xy55687.mono (by decide))
  have e55693 := Xy55687.ref h55677 (by decide) e55676
  have e55694 := Xy55687.ref h55677 (by decide) e55680
  have h55695 := Xy55687.at h55677
  have h55696 := Xy55687.ar h55678
  have h55697 := Xy55687.ar h55681
  have h55698 := Iy55686.rg h55695 28 rfl
  refine g_aload_n C dX12_findSlipped_17 rfl 0 rfl ?_
  refine g_callVV (rest := []) C mv_X12_346 [] (s_X12_findSolved Iy55686 W55688) (h55695).1 (h55695).2 rfl rfl (by decide) (Nat.le_of_ble_eq_true rfl) (by decide) dX12_findSlipped_18 (fun Y55700 h55701 => ?_)
  obtain ⟨Iy55702, Xy55703, W55704⟩ := h55701
  have q55705 := Xy55703.keepA e55693 (by decide) rfl (a2.toInt.toNat)
  have q55706 := Xy55703.keepA e55694 (by decide) rfl (a1.toInt.toNat)
  have q55707 := Xy55703.keepF 28 (by decide)
  have Xz55708 : EM [28, 29, 30, 31, 32, 35, 36, 37, 38, 39, 40] a0 P Y55700 := EM.tr ha0 Xz55692 (Xy55703.mono (by decide))
  have e55709 := Xy55703.ref h55695 (by decide) e55693
  have e55710 := Xy55703.ref h55695 (by decide) e55694
  have h55711 := Xy55703.at h55695
  have h55712 := Xy55703.ar h55696
  have h55713 := Xy55703.ar h55697
  refine g_aload_n C dX12_findSlipped_21 rfl 0 rfl ?_
  refine g_iconst (v := 0) C dX12_findSlipped_22 (by decide) ?_
  refine g_putI C fi_X12_361 rfl (h55711).1 (h55711).2 dX12_findSlipped_23 ?_
  refine gqW (ks := [39]) (Iy55702.setI (rgOk.of rfl (by decide))) (EM.setI Iy55702 (by decide)) (fun Y55714 Iy55715 Xy55716 w55717 => ?_)
  have w55717 : (pI Y55714 a0 39).toInt = 0 := w55717
  have q55718 := Xy55716.keepA e55709 (by decide) rfl (a2.toInt.toNat)
  have q55719 := Xy55716.keepA e55710 (by decide) rfl (a1.toInt.toNat)
  have q55720 := Xy55716.keepF 28 (by decide)
  have W55721 := W55704.keep Iy55702 Xy55716 (by decide) (by decide) (by decide)
  have Xz55722 : EM [28, 29, 30, 31, 32, 35, 36, 37, 38, 39, 40] a0 P Y55714 := EM.tr ha0 Xz55708 (Xy55716.mono (by decide))
  have e55723 := Xy55716.ref h55711 (by decide) e55709
  have e55724 := Xy55716.ref h55711 (by decide) e55710
  have h55725 := Xy55716.at h55711
  have h55726 := Xy55716.ar h55712
  have h55727 := Xy55716.ar h55713
  refine g_aload_n C dX12_findSlipped_26 rfl 0 rfl ?_
  refine g_getI C fi_X12_326 (by decide) (h55725).1 (h55725).2 dX12_findSlipped_27 ?_
  have h55728 := Iy55715.rg (h55725) 36 rfl
  refine b_if_eq C 35 dX12_findSlipped_30 (by decide) (fun h55729 => ?_) (fun h55729 => ?_)
  · have h55729 : (pI Y55714 a0 36).toInt = 0 := congrArg Int32.toInt h55729
    refine g_iconst (v := 0) C dX12_findSlipped_35 (by decide) ?_
    refine g_istore (lv' := [(4, .int 0), (0, .ref a0), (1, .int a1), (2, .int a2), (3, .int a3)]) C dX12_findSlipped_36 (by decide) rfl ?_
    refine g_lv (lv' := [(0, .ref a0), (1, .int a1), (2, .int a2), (3, .int a3), (4, .int 0)]) [1, 2, 3, 4, 0] rfl ?_
    exact J38 _ Y55714 0 (Nat.lt_succ_self _) Iy55715 Xz55722 W55721 (by decide) (by omega) (fun b9 e9 => by rw [e55723] at e9; cases e9; omega) (by show (pI Y55714 a0 39).toInt ≤ 0; omega)
  · have h55729 : (pI Y55714 a0 36).toInt ≠ 0 := ti_ne h55729
    refine g_iconst (v := 0) C dX12_findSlipped_33 (by decide) ?_
    exact ret _ _ _ _ _ _ dX12_findSlipped_34 rfl (by decide) (by decide) ⟨Iy55715, Xz55722, W55721, (by decide)⟩
theorem dX12_forged_0 : decode cX12_forged 0 = .ok (.aload_n 0, 1) := by decide +kernel
theorem dX12_forged_1 : decode cX12_forged 1 = .ok (.iconst 0, 1) := by decide +kernel
theorem dX12_forged_2 : decode cX12_forged 2 = .ok (.putfield 1, 3) := by decide +kernel
theorem dX12_forged_5 : decode cX12_forged 5 = .ok (.iload_n 1, 1) := by decide +kernel
theorem dX12_forged_6 : decode cX12_forged 6 = .ok (.invokestatic 278, 3) := by decide +kernel
theorem dX12_forged_9 : decode cX12_forged 9 = .ok (.ifCond .eq 45, 3) := by decide +kernel
theorem dX12_forged_12 : decode cX12_forged 12 = .ok (.aload_n 0, 1) := by decide +kernel
theorem dX12_forged_13 : decode cX12_forged 13 = .ok (.iload_n 2, 1) := by decide +kernel
theorem dX12_forged_14 : decode cX12_forged 14 = .ok (.invokevirtual 192, 3) := by decide +kernel
theorem dX12_forged_17 : decode cX12_forged 17 = .ok (.ifCond .eq 37, 3) := by decide +kernel
theorem dX12_forged_20 : decode cX12_forged 20 = .ok (.iload_n 3, 1) := by decide +kernel
theorem dX12_forged_21 : decode cX12_forged 21 = .ok (.invokestatic 258, 3) := by decide +kernel
theorem dX12_forged_24 : decode cX12_forged 24 = .ok (.ifCond .eq 30, 3) := by decide +kernel
theorem dX12_forged_27 : decode cX12_forged 27 = .ok (.iload 4, 2) := by decide +kernel
theorem dX12_forged_29 : decode cX12_forged 29 = .ok (.iconst 0, 1) := by decide +kernel
theorem dX12_forged_30 : decode cX12_forged 30 = .ok (.ldc 195, 2) := by decide +kernel
theorem dX12_forged_32 : decode cX12_forged 32 = .ok (.invokestatic 178, 3) := by decide +kernel
theorem dX12_forged_35 : decode cX12_forged 35 = .ok (.ifCond .eq 19, 3) := by decide +kernel
theorem dX12_forged_38 : decode cX12_forged 38 = .ok (.iload 5, 2) := by decide +kernel
theorem dX12_forged_40 : decode cX12_forged 40 = .ok (.iconst 0, 1) := by decide +kernel
theorem dX12_forged_41 : decode cX12_forged 41 = .ok (.sipush 996, 3) := by decide +kernel
theorem dX12_forged_44 : decode cX12_forged 44 = .ok (.invokestatic 178, 3) := by decide +kernel
theorem dX12_forged_47 : decode cX12_forged 47 = .ok (.ifCond .eq 7, 3) := by decide +kernel
theorem dX12_forged_50 : decode cX12_forged 50 = .ok (.iconst 1, 1) := by decide +kernel
theorem dX12_forged_51 : decode cX12_forged 51 = .ok (.goto 4, 3) := by decide +kernel
theorem dX12_forged_54 : decode cX12_forged 54 = .ok (.iconst 0, 1) := by decide +kernel
theorem dX12_forged_55 : decode cX12_forged 55 = .ok (.istore 6, 2) := by decide +kernel
theorem dX12_forged_57 : decode cX12_forged 57 = .ok (.iload 6, 2) := by decide +kernel
theorem dX12_forged_59 : decode cX12_forged 59 = .ok (.ifCond .eq 28, 3) := by decide +kernel
theorem dX12_forged_62 : decode cX12_forged 62 = .ok (.aload_n 0, 1) := by decide +kernel
theorem dX12_forged_63 : decode cX12_forged 63 = .ok (.getfield 69, 3) := by decide +kernel
theorem dX12_forged_66 : decode cX12_forged 66 = .ok (.iload_n 1, 1) := by decide +kernel
theorem dX12_forged_67 : decode cX12_forged 67 = .ok (.iaload, 1) := by decide +kernel
theorem dX12_forged_68 : decode cX12_forged 68 = .ok (.bipush 40, 2) := by decide +kernel
theorem dX12_forged_70 : decode cX12_forged 70 = .ok (.if_icmp .ge 17, 3) := by decide +kernel
theorem dX12_forged_73 : decode cX12_forged 73 = .ok (.aload_n 0, 1) := by decide +kernel
theorem dX12_forged_74 : decode cX12_forged 74 = .ok (.iload_n 1, 1) := by decide +kernel
theorem dX12_forged_75 : decode cX12_forged 75 = .ok (.iload_n 2, 1) := by decide +kernel
theorem dX12_forged_76 : decode cX12_forged 76 = .ok (.iload_n 3, 1) := by decide +kernel
theorem dX12_forged_77 : decode cX12_forged 77 = .ok (.iload 4, 2) := by decide +kernel
theorem dX12_forged_79 : decode cX12_forged 79 = .ok (.iload 5, 2) := by decide +kernel
theorem dX12_forged_81 : decode cX12_forged 81 = .ok (.invokevirtual 291, 3) := by decide +kernel
theorem dX12_laysIf_0 : decode cX12_laysIf 0 = .ok (.aload_n 0, 1) := by decide +kernel
theorem dX12_laysIf_1 : decode cX12_laysIf 1 = .ok (.getfield 66, 3) := by decide +kernel
theorem dX12_laysIf_4 : decode cX12_laysIf 4 = .ok (.iload_n 2, 1) := by decide +kernel
theorem dX12_laysIf_5 : decode cX12_laysIf 5 = .ok (.iaload, 1) := by decide +kernel
theorem dX12_laysIf_6 : decode cX12_laysIf 6 = .ok (.ifCond .le 28, 3) := by decide +kernel
theorem dX12_laysIf_9 : decode cX12_laysIf 9 = .ok (.iload 5, 2) := by decide +kernel
theorem dX12_laysIf_11 : decode cX12_laysIf 11 = .ok (.aload_n 0, 1) := by decide +kernel
theorem dX12_laysIf_12 : decode cX12_laysIf 12 = .ok (.iload_n 2, 1) := by decide +kernel
theorem dX12_laysIf_13 : decode cX12_laysIf 13 = .ok (.iload_n 3, 1) := by decide +kernel
theorem dX12_laysIf_14 : decode cX12_laysIf 14 = .ok (.iload 4, 2) := by decide +kernel
theorem dX12_laysIf_16 : decode cX12_laysIf 16 = .ok (.invokevirtual 267, 3) := by decide +kernel
theorem dX12_laysIf_19 : decode cX12_laysIf 19 = .ok (.if_icmp .eq 15, 3) := by decide +kernel
theorem dX12_laysIf_22 : decode cX12_laysIf 22 = .ok (.aload_n 0, 1) := by decide +kernel
theorem dX12_laysIf_23 : decode cX12_laysIf 23 = .ok (.dup, 1) := by decide +kernel
theorem dX12_laysIf_24 : decode cX12_laysIf 24 = .ok (.getfield 288, 3) := by decide +kernel
theorem dX12_laysIf_27 : decode cX12_laysIf 27 = .ok (.iconst 1, 1) := by decide +kernel
theorem dX12_laysIf_28 : decode cX12_laysIf 28 = .ok (.iadd, 1) := by decide +kernel
theorem dX12_laysIf_29 : decode cX12_laysIf 29 = .ok (.putfield 288, 3) := by decide +kernel
theorem dX12_laysIf_32 : decode cX12_laysIf 32 = .ok (.iconst (-1), 1) := by decide +kernel
theorem dX12_laysIf_33 : decode cX12_laysIf 33 = .ok (.ireturn, 1) := by decide +kernel
theorem dX12_laysIf_34 : decode cX12_laysIf 34 = .ok (.aload_n 0, 1) := by decide +kernel
theorem dX12_laysIf_35 : decode cX12_laysIf 35 = .ok (.iload_n 1, 1) := by decide +kernel
theorem dX12_laysIf_36 : decode cX12_laysIf 36 = .ok (.iload_n 2, 1) := by decide +kernel
theorem dX12_laysIf_37 : decode cX12_laysIf 37 = .ok (.iload_n 3, 1) := by decide +kernel
theorem dX12_laysIf_38 : decode cX12_laysIf 38 = .ok (.iload 4, 2) := by decide +kernel
theorem dX12_laysIf_40 : decode cX12_laysIf 40 = .ok (.iconst 3, 1) := by decide +kernel
theorem dX12_laysIf_41 : decode cX12_laysIf 41 = .ok (.iload 5, 2) := by decide +kernel
theorem dX12_laysIf_43 : decode cX12_laysIf 43 = .ok (.invokevirtual 284, 3) := by decide +kernel
theorem dX12_laysIf_46 : decode cX12_laysIf 46 = .ok (.ireturn, 1) := by decide +kernel
set_option maxHeartbeats 4000000 in
set_option maxRecDepth 100000 in
theorem s_X12_laysIf {P : PP} {a0 : Nat} {a1 : Int32} {a2 : Int32} {a3 : Int32} {a4 : Int32} {a5 : Int32} (I : IM P a0) (ha1 : 0 ≤ a1.toInt ∧ a1.toInt ≤ 3) (ha2 : 0 ≤ a2.toInt ∧ a2.toInt ≤ 1) (hf0 : ∀ b, pR P a0 10 = some b → 1 ≤ (pI P b (a2.toInt.toNat)).toInt ∧ (pI P b (a2.toInt.toNat)).toInt ≤ 16) (hf1 : ∀ b, pR P a0 20 = some b → 0 ≤ (pI P b (a1.toInt.toNat)).toInt ∧ (pI P b (a1.toInt.toNat)).toInt ≤ 39) (hW : MW P a0) : CtrI yX12_laysIf cX12_laysIf 6 (some Jvm.ClassFile.FieldType.int) ({ frames := 2, cells := 0, slots := 0, locals := 128 } : Room) 0 0 P [.ref a0, .int a1, .int a2, .int a3, .int a4, .int a5] (fun r P2 => IM P2 a0 ∧ EM [20, 21, 22, 23, 24, 25, 27] a0 P P2 ∧ MW P2 a0 ∧ (-1 ≤ r.toInt ∧ r.toInt ≤ 39)) := by
  refine enI (lv := [(0, .ref a0), (1, .int a1), (2, .int a2), (3, .int a3), (4, .int a4), (5, .int a5)]) (by decide) (Nat.le_of_ble_eq_true rfl) rfl (fun E D cy C Ci0 ret => ?_)
  have ha0 := I.2.1
  have J34 : (∀ b, pR P a0 10 = some b → 1 ≤ (pI P b (a2.toInt.toNat)).toInt ∧ (pI P b (a2.toInt.toNat)).toInt ≤ 16) → (∀ b, pR P a0 17 = some b → (pI P b (a2.toInt.toNat)).toInt ≤ 2147483647) → (∀ b, pR P a0 20 = some b → 0 ≤ (pI P b (a1.toInt.toNat)).toInt ∧ (pI P b (a1.toInt.toNat)).toInt ≤ 39) → G E ({ frames := 2, cells := 0, slots := 0, locals := 128 } : Room) D cy 6 P 0 0 34 [(0, .ref a0), (1, .int a1), (2, .int a2), (3, .int a3), (4, .int a4), (5, .int a5)] [] := by
    intro hq34_0 hq34_1 hq34_2
    obtain ⟨b55840, e55841, h55842⟩ := I.fld (ha0) 10 13 2 rfl
    have hq34_0 := hq34_0 b55840 e55841
    obtain ⟨b55843, e55844, h55845⟩ := I.fld (ha0) 17 13 3 rfl
    have hq34_1 := hq34_1 b55843 e55844
    obtain ⟨b55846, e55847, h55848⟩ := I.fld (ha0) 20 13 20 rfl
    have hq34_2 := hq34_2 b55846 e55847
    refine g_aload_n C dX12_laysIf_34 rfl 0 rfl ?_
    refine g_iload_n C dX12_laysIf_35 rfl 1 rfl ?_
    refine g_iload_n C dX12_laysIf_36 rfl 2 rfl ?_
    refine g_iload_n C dX12_laysIf_37 rfl 3 rfl ?_
    refine g_iload C dX12_laysIf_38 4 rfl ?_
    refine g_iconst (v := 3) C dX12_laysIf_40 (by decide) ?_
    refine g_iload C dX12_laysIf_41 5 rfl ?_
    refine g_callVI (rest := []) C mv_X12_284 [.int a1, .int a2, .int a3, .int a4, .int 3, .int a5] (s_X12_lays I (by omega) (by omega) (fun b9 e9 => by rw [e55847] at e9; cases e9; show 0 ≤ (pI P b55846 (a1.toInt.toNat)).toInt ∧ (pI P b55846 (a1.toInt.toNat)).toInt ≤ 39; omega) hW (fun c9 f9 _ => by rw [e55841] at f9; cases f9; show 0 < (pI P b55840 (a2.toInt.toNat)).toInt; omega)) (ha0).1 (ha0).2 rfl rfl (by decide) (Nat.le_of_ble_eq_true rfl) (by decide) dX12_laysIf_43 (fun r55849 Y55850 h55851 => ?_)
    obtain ⟨Iy55852, Xy55853, W55854, p55855, h55851⟩ := h55851
    have p55855 := p55855 b55846 e55847
    have p55855 : (pI Y55850 b55846 (a1.toInt.toNat)).toInt = (pI P b55846 (a1.toInt.toNat)).toInt + 1 := p55855
    have q55856 := Xy55853.keepA e55841 (by decide) rfl (a2.toInt.toNat)
    have q55857 := Xy55853.keepA e55844 (by decide) rfl (a2.toInt.toNat)
    have Xz55858 : EM [20, 21, 22, 23, 24, 25, 27] a0 P Y55850 := Xy55853.mono (by decide)
    have e55859 := Xy55853.ref ha0 (by decide) e55841
    have e55860 := Xy55853.ref ha0 (by decide) e55844
    have e55861 := Xy55853.ref ha0 (by decide) e55847
    have h55862 := Xy55853.at ha0
    have h55863 := Xy55853.ar h55842
    have h55864 := Xy55853.ar h55845
    have h55865 := Xy55853.ar h55848
    have h55851 : 0 ≤ r55849.toInt ∧ r55849.toInt ≤ 39 := h55851
    exact ret _ _ _ _ _ _ dX12_laysIf_46 rfl (by decide) (by decide) ⟨Iy55852, Xz55858, W55854, (by omega)⟩
  obtain ⟨b55866, e55867, h55868⟩ := I.fld (ha0) 10 13 2 rfl
  have hf0 := hf0 b55866 e55867
  obtain ⟨b55869, e55870, h55871⟩ := I.fld (ha0) 20 13 20 rfl
  have hf1 := hf1 b55869 e55870
  refine g_aload_n C dX12_laysIf_0 rfl 0 rfl ?_
  obtain ⟨b55872, e55873, h55874⟩ := I.fld (ha0) 17 13 3 rfl
  refine g_getR C fi_X12_66 rfl e55873 (ha0).1 (ha0).2 dX12_laysIf_1 ?_
  refine g_iload_n C dX12_laysIf_4 rfl 2 rfl ?_
  refine g_iald (j := (a2.toInt.toNat)) C h55874.1 h55874.2.1 (ix_in h55874.2.2 (by omega)) dX12_laysIf_5 ?_
  have u55876 := ti_rng (pI P b55872 (a2.toInt.toNat))
  refine b_if_le C 34 dX12_laysIf_6 (by decide) (fun h55875 => ?_) (fun h55875 => ?_)
  · have h55875 : (pI P b55872 (a2.toInt.toNat)).toInt ≤ 0 := h55875
    exact J34 (fun b9 e9 => by rw [e55867] at e9; cases e9; omega) (fun b9 e9 => by rw [e55873] at e9; cases e9; omega) (fun b9 e9 => by rw [e55870] at e9; cases e9; omega)
  · have h55875 : 0 < (pI P b55872 (a2.toInt.toNat)).toInt := h55875
    refine g_iload C dX12_laysIf_9 5 rfl ?_
    refine g_aload_n C dX12_laysIf_11 rfl 0 rfl ?_
    refine g_iload_n C dX12_laysIf_12 rfl 2 rfl ?_
    refine g_iload_n C dX12_laysIf_13 rfl 3 rfl ?_
    refine g_iload C dX12_laysIf_14 4 rfl ?_
    refine g_callVI (rest := [.int a5]) C mv_X12_267 [.int a2, .int a3, .int a4] (s_X12_sealOf I (by omega) hW) (ha0).1 (ha0).2 rfl rfl (by decide) (Nat.le_of_ble_eq_true rfl) (by decide) dX12_laysIf_16 (fun r55877 Y55878 h55879 => ?_)
    obtain ⟨rfl, h55879⟩ := h55879
    have h55879 : True := h55879
    have u55881 := ti_rng a5
    have u55882 := ti_rng r55877
    refine b_icmp_eq C 34 dX12_laysIf_19 (by decide) (fun h55880 => ?_) (fun h55880 => ?_)
    · have h55880 : a5.toInt = r55877.toInt := congrArg Int32.toInt h55880
      exact J34 (fun b9 e9 => by rw [e55867] at e9; cases e9; omega) (fun b9 e9 => by rw [e55873] at e9; cases e9; omega) (fun b9 e9 => by rw [e55870] at e9; cases e9; omega)
    · have h55880 : a5.toInt ≠ r55877.toInt := ti_ne h55880
      refine g_aload_n C dX12_laysIf_22 rfl 0 rfl ?_
      refine g_dup C dX12_laysIf_23 rfl ?_
      refine g_getI C fi_X12_288 (by decide) (ha0).1 (ha0).2 dX12_laysIf_24 ?_
      refine g_iconst (v := 1) C dX12_laysIf_27 (by decide) ?_
      refine a_iadd C dX12_laysIf_28 (fun z55883 => ?_)
      refine g_putI C fi_X12_288 rfl (ha0).1 (ha0).2 dX12_laysIf_29 ?_
      refine gqW (ks := [27]) (I.setI (rgOk.none rfl)) (EM.setI I (by decide)) (fun Y55885 Iy55886 Xy55887 w55888 => ?_)
      have w55888 : (pI Y55885 a0 27).toInt = z55883.toInt := w55888
      have q55889 := Xy55887.keepA e55867 (by decide) rfl (a2.toInt.toNat)
      have q55890 := Xy55887.keepA e55870 (by decide) rfl (a1.toInt.toNat)
      have q55891 := Xy55887.keepA e55873 (by decide) rfl (a2.toInt.toNat)
      have W55892 := hW.keep I Xy55887 (by decide) (by decide) (by decide)
      have Xz55893 : EM [20, 21, 22, 23, 24, 25, 27] a0 P Y55885 := Xy55887.mono (by decide)
      have e55894 := Xy55887.ref ha0 (by decide) e55867
      have e55895 := Xy55887.ref ha0 (by decide) e55870
      have e55896 := Xy55887.ref ha0 (by decide) e55873
      have h55897 := Xy55887.at ha0
      have h55898 := Xy55887.ar h55868
      have h55899 := Xy55887.ar h55871
      have h55900 := Xy55887.ar h55874
      refine g_iconst (v := (-1)) C dX12_laysIf_32 (by decide) ?_
      exact ret _ _ _ _ _ _ dX12_laysIf_33 rfl (by decide) (by decide) ⟨Iy55886, Xz55893, W55892, (by decide)⟩
theorem dX12_forged_84 : decode cX12_forged 84 = .ok (.goto 4, 3) := by decide +kernel
theorem dX12_forged_87 : decode cX12_forged 87 = .ok (.iconst (-1), 1) := by decide +kernel
theorem dX12_forged_88 : decode cX12_forged 88 = .ok (.ireturn, 1) := by decide +kernel
set_option maxHeartbeats 4000000 in
set_option maxRecDepth 100000 in
theorem s_X12_forged {P : PP} {a0 : Nat} {a1 : Int32} {a2 : Int32} {a3 : Int32} {a4 : Int32} {a5 : Int32} (I : IM P a0) (hW : MW P a0) : CtrI yX12_forged cX12_forged 7 (some Jvm.ClassFile.FieldType.int) ({ frames := 3, cells := 0, slots := 0, locals := 192 } : Room) 0 0 P [.ref a0, .int a1, .int a2, .int a3, .int a4, .int a5] (fun r P2 => IM P2 a0 ∧ EM [0, 20, 21, 22, 23, 24, 25, 27] a0 P P2 ∧ MW P2 a0 ∧ (-1 ≤ r.toInt ∧ r.toInt ≤ 39)) := by
  refine enI (lv := [(0, .ref a0), (1, .int a1), (2, .int a2), (3, .int a3), (4, .int a4), (5, .int a5)]) (by decide) (Nat.le_of_ble_eq_true rfl) rfl (fun E D cy C Ci0 ret => ?_)
  have ha0 := I.2.1
  have J87 : ∀ (P87 : PP), (IM P87 a0) → (EM [0, 20, 21, 22, 23, 24, 25, 27] a0 P P87) → (MW P87 a0) → (0 ≤ (pI P87 a0 0).toInt ∧ (pI P87 a0 0).toInt ≤ 0) → G E ({ frames := 3, cells := 0, slots := 0, locals := 192 } : Room) D cy 7 P87 0 0 87 [] [] := by
    intro P87 I87 X87 W87 hq87_0
    have h55963 := X87.at ha0
    refine g_iconst (v := (-1)) C dX12_forged_87 (by decide) ?_
    exact ret _ _ _ _ _ _ dX12_forged_88 rfl (by decide) (by decide) ⟨I87, X87, W87, (by decide)⟩
  have J55 : ∀ (P55 : PP) (v55_s0 : Int32), (IM P55 a0) → (EM [0, 20, 21, 22, 23, 24, 25, 27] a0 P P55) → (MW P55 a0) → (0 ≤ v55_s0.toInt ∧ v55_s0.toInt ≤ 1) → (0 ≤ (pI P55 a0 0).toInt ∧ (pI P55 a0 0).toInt ≤ 0) → (∀ b910, pR P55 a0 10 = some b910 → v55_s0.toInt = 0 ∨ 0 < (pI P55 b910 (a2.toInt.toNat)).toInt) → (v55_s0.toInt = 0 ∨ (0 ≤ a1.toInt ∧ a1.toInt ≤ 3 ∧ 0 ≤ a2.toInt ∧ a2.toInt ≤ 1)) → G E ({ frames := 3, cells := 0, slots := 0, locals := 192 } : Room) D cy 7 P55 0 0 55 [(0, .ref a0), (1, .int a1), (2, .int a2), (3, .int a3), (4, .int a4), (5, .int a5)] [.int v55_s0] := by
    intro P55 v55_s0 I55 X55 W55 hv55_s0 hq55_0 rel55_0 rel55_1
    have h55964 := X55.at ha0
    obtain ⟨b55965, e55966, h55967⟩ := I55.fld (h55964) 10 13 2 rfl
    have rel55_0 := rel55_0 b55965 e55966
    have h55968 := I55.arr e55966 rfl (a2.toInt.toNat)
    refine g_istore (lv' := [(6, .int v55_s0), (0, .ref a0), (1, .int a1), (2, .int a2), (3, .int a3), (4, .int a4), (5, .int a5)]) C dX12_forged_55 (by decide) rfl ?_
    refine g_iload C dX12_forged_57 0 rfl ?_
    refine b_if_eq C 87 dX12_forged_59 (by decide) (fun h55969 => ?_) (fun h55969 => ?_)
    · have h55969 : v55_s0.toInt = 0 := congrArg Int32.toInt h55969
      clear rel55_1
      refine g_lv (lv' := []) [] rfl ?_
      exact J87 P55 I55 X55 W55 (by omega)
    · have h55969 : v55_s0.toInt ≠ 0 := ti_ne h55969
      replace rel55_1 := rel55_1.resolve_left (by omega)
      refine g_aload_n C dX12_forged_62 rfl 1 rfl ?_
      obtain ⟨b55970, e55971, h55972⟩ := I55.fld (h55964) 20 13 20 rfl
      refine g_getR C fi_X12_69 rfl e55971 (h55964).1 (h55964).2 dX12_forged_63 ?_
      refine g_iload_n C dX12_forged_66 rfl 2 rfl ?_
      refine g_iald (j := (a1.toInt.toNat)) C h55972.1 h55972.2.1 (ix_in h55972.2.2 (by omega)) dX12_forged_67 ?_
      have h55973 := I55.arr e55971 rfl (a1.toInt.toNat)
      refine g_bipush (v := 40) C dX12_forged_68 (by decide) ?_
      refine b_icmp_ge C 87 dX12_forged_70 (by decide) (fun h55974 => ?_) (fun h55974 => ?_)
      · have h55974 : 40 ≤ (pI P55 b55970 (a1.toInt.toNat)).toInt := h55974
        refine g_lv (lv' := []) [] rfl ?_
        exact J87 P55 I55 X55 W55 (by omega)
      · have h55974 : (pI P55 b55970 (a1.toInt.toNat)).toInt < 40 := h55974
        refine g_aload_n C dX12_forged_73 rfl 1 rfl ?_
        refine g_iload_n C dX12_forged_74 rfl 2 rfl ?_
        refine g_iload_n C dX12_forged_75 rfl 3 rfl ?_
        refine g_iload_n C dX12_forged_76 rfl 4 rfl ?_
        refine g_iload C dX12_forged_77 5 rfl ?_
        refine g_iload C dX12_forged_79 6 rfl ?_
        refine g_callVI (rest := []) C mv_X12_291 [.int a1, .int a2, .int a3, .int a4, .int a5] (s_X12_laysIf I55 (by omega) (by omega) (fun b9 e9 => by rw [e55966] at e9; cases e9; show 1 ≤ (pI P55 b55965 (a2.toInt.toNat)).toInt ∧ (pI P55 b55965 (a2.toInt.toNat)).toInt ≤ 16; omega) (fun b9 e9 => by rw [e55971] at e9; cases e9; show 0 ≤ (pI P55 b55970 (a1.toInt.toNat)).toInt ∧ (pI P55 b55970 (a1.toInt.toNat)).toInt ≤ 39; omega) W55) (h55964).1 (h55964).2 rfl rfl (by decide) (Nat.le_of_ble_eq_true rfl) (by decide) dX12_forged_81 (fun r55975 Y55976 h55977 => ?_)
        obtain ⟨Iy55978, Xy55979, W55980, h55977⟩ := h55977
        have q55981 := Xy55979.keepF 0 (by decide)
        have q55982 := Xy55979.keepA e55966 (by decide) rfl (a2.toInt.toNat)
        have Xz55983 : EM [0, 20, 21, 22, 23, 24, 25, 27] a0 P Y55976 := EM.tr ha0 X55 (Xy55979.mono (by decide))
        have e55984 := Xy55979.ref h55964 (by decide) e55966
        have h55985 := Xy55979.at h55964
        have h55986 := Xy55979.ar h55967
        have h55977 : -1 ≤ r55975.toInt ∧ r55975.toInt ≤ 39 := h55977
        refine g_goto C 88 dX12_forged_84 (by decide) ?_
        exact ret _ _ _ _ _ _ dX12_forged_88 rfl (by decide) (by decide) ⟨Iy55978, Xz55983, W55980, (by omega)⟩
  have J54 : ∀ (P54 : PP), (IM P54 a0) → (EM [0, 20, 21, 22, 23, 24, 25, 27] a0 P P54) → (MW P54 a0) → (0 ≤ (pI P54 a0 0).toInt ∧ (pI P54 a0 0).toInt ≤ 0) → G E ({ frames := 3, cells := 0, slots := 0, locals := 192 } : Room) D cy 7 P54 0 0 54 [(0, .ref a0), (1, .int a1), (2, .int a2), (3, .int a3), (4, .int a4), (5, .int a5)] [] := by
    intro P54 I54 X54 W54 hq54_0
    have h55987 := X54.at ha0
    refine g_iconst (v := 0) C dX12_forged_54 (by decide) ?_
    obtain ⟨b55988, e55989, h55990⟩ := I54.fld (h55987) 10 13 2 rfl
    exact J55 P54 0 I54 X54 W54 (by decide) (by omega) (by intro b910 e910; rw [e55989] at e910; cases e910; show 0 = 0 ∨ 0 < (pI P54 b55988 (a2.toInt.toNat)).toInt; omega) (by show 0 = 0 ∨ (0 ≤ a1.toInt ∧ a1.toInt ≤ 3 ∧ 0 ≤ a2.toInt ∧ a2.toInt ≤ 1); omega)
  refine g_aload_n C dX12_forged_0 rfl 0 rfl ?_
  refine g_iconst (v := 0) C dX12_forged_1 (by decide) ?_
  refine g_putI C fi_X12_1 rfl (ha0).1 (ha0).2 dX12_forged_2 ?_
  refine gqW (ks := [0]) (I.setI (rgOk.of rfl (by decide))) (EM.setI I (by decide)) (fun Y55991 Iy55992 Xy55993 w55994 => ?_)
  have w55994 : (pI Y55991 a0 0).toInt = 0 := w55994
  have W55995 := hW.keep I Xy55993 (by decide) (by decide) (by decide)
  have Xz55996 : EM [0, 20, 21, 22, 23, 24, 25, 27] a0 P Y55991 := Xy55993.mono (by decide)
  have h55997 := Xy55993.at ha0
  refine g_iload_n C dX12_forged_5 rfl 1 rfl ?_
  refine g_callSI (b := 0) (ci := 0) (rest := []) C ms_X12_278 [.int a1] (s_X12_isQuarter Iy55992.1) rfl rfl (by decide) (Nat.le_of_ble_eq_true rfl) (by decide) dX12_forged_6 (fun r55998 Y55999 h56000 => ?_)
  obtain ⟨rfl, h56000⟩ := h56000
  obtain ⟨h56000, hi56001⟩ := h56000
  have hi56001 : r55998.toInt = 0 ∨ (((0 : Int) ≤ a1.toInt ∧ a1.toInt ≤ (3 : Int))) := hi56001
  have h56000 : 0 ≤ r55998.toInt ∧ r55998.toInt ≤ 1 := h56000
  refine b_if_eq C 54 dX12_forged_9 (by decide) (fun h56002 => ?_) (fun h56002 => ?_)
  · have h56002 : r55998.toInt = 0 := congrArg Int32.toInt h56002
    clear hi56001
    exact J54 Y55991 Iy55992 Xz55996 W55995 (by omega)
  · have h56002 : r55998.toInt ≠ 0 := ti_ne h56002
    replace hi56001 := hi56001.resolve_left (by omega)
    refine g_aload_n C dX12_forged_12 rfl 0 rfl ?_
    refine g_iload_n C dX12_forged_13 rfl 2 rfl ?_
    refine g_callVI (rest := []) C mv_X12_192 [.int a2] (s_X12_isBook Iy55992 W55995) (h55997).1 (h55997).2 rfl rfl (by decide) (Nat.le_of_ble_eq_true rfl) (by decide) dX12_forged_14 (fun r56003 Y56004 h56005 => ?_)
    obtain ⟨rfl, h56005⟩ := h56005
    obtain ⟨h56005, hi56006, hi56007⟩ := h56005
    have hi56006 : r56003.toInt = 0 ∨ (((0 : Int) ≤ a2.toInt ∧ a2.toInt ≤ (1 : Int))) := hi56006
    have h56005 : 0 ≤ r56003.toInt ∧ r56003.toInt ≤ 1 := h56005
    refine b_if_eq C 54 dX12_forged_17 (by decide) (fun h56008 => ?_) (fun h56008 => ?_)
    · have h56008 : r56003.toInt = 0 := congrArg Int32.toInt h56008
      clear hi56006
      exact J54 Y55991 Iy55992 Xz55996 W55995 (by omega)
    · have h56008 : r56003.toInt ≠ 0 := ti_ne h56008
      replace hi56006 := hi56006.resolve_left (by omega)
      obtain ⟨b56009, e56010, h56011⟩ := Iy55992.fld (h55997) 10 13 2 rfl
      have hi56007 := (hi56007.resolve_left (by omega)) b56009 e56010
      have hi56007 : 0 < (pI Y55991 b56009 (a2.toInt.toNat)).toInt := hi56007
      have h56012 := Iy55992.arr e56010 rfl (a2.toInt.toNat)
      refine g_iload_n C dX12_forged_20 rfl 3 rfl ?_
      refine g_callSI (b := 0) (ci := 0) (rest := []) C ms_X12_258 [.int a3] (s_X12_isNumber Iy55992.1) rfl rfl (by decide) (Nat.le_of_ble_eq_true rfl) (by decide) dX12_forged_21 (fun r56013 Y56014 h56015 => ?_)
      obtain ⟨rfl, h56015⟩ := h56015
      obtain ⟨h56015, hi56016⟩ := h56015
      have hi56016 : r56013.toInt = 0 ∨ (((0 : Int) ≤ a3.toInt ∧ a3.toInt ≤ (9999 : Int))) := hi56016
      have h56015 : 0 ≤ r56013.toInt ∧ r56013.toInt ≤ 1 := h56015
      refine b_if_eq C 54 dX12_forged_24 (by decide) (fun h56017 => ?_) (fun h56017 => ?_)
      · have h56017 : r56013.toInt = 0 := congrArg Int32.toInt h56017
        clear hi56016
        exact J54 Y55991 Iy55992 Xz55996 W55995 (by omega)
      · have h56017 : r56013.toInt ≠ 0 := ti_ne h56017
        replace hi56016 := hi56016.resolve_left (by omega)
        refine g_iload C dX12_forged_27 4 rfl ?_
        refine g_iconst (v := 0) C dX12_forged_29 (by decide) ?_
        refine g_ldc (v := 65535) C kc_X12_195 dX12_forged_30 ?_
        refine g_callSI (b := 0) (ci := 0) (rest := []) C ms_X12_178 [.int a4, .int 0, .int 65535] (s_X12_within Iy55992.1) rfl rfl (by decide) (Nat.le_of_ble_eq_true rfl) (by decide) dX12_forged_32 (fun r56018 Y56019 h56020 => ?_)
        obtain ⟨rfl, h56020⟩ := h56020
        obtain ⟨h56020, hi56021⟩ := h56020
        have hi56021 : r56018.toInt = 0 ∨ (0 ≤ a4.toInt ∧ a4.toInt ≤ 65535) := hi56021
        have h56020 : 0 ≤ r56018.toInt ∧ r56018.toInt ≤ 1 := h56020
        refine b_if_eq C 54 dX12_forged_35 (by decide) (fun h56022 => ?_) (fun h56022 => ?_)
        · have h56022 : r56018.toInt = 0 := congrArg Int32.toInt h56022
          clear hi56021
          exact J54 Y55991 Iy55992 Xz55996 W55995 (by omega)
        · have h56022 : r56018.toInt ≠ 0 := ti_ne h56022
          replace hi56021 := hi56021.resolve_left (by omega)
          refine g_iload C dX12_forged_38 5 rfl ?_
          refine g_iconst (v := 0) C dX12_forged_40 (by decide) ?_
          refine g_sipush (v := 996) C dX12_forged_41 (by decide) ?_
          refine g_callSI (b := 0) (ci := 0) (rest := []) C ms_X12_178 [.int a5, .int 0, .int 996] (s_X12_within Iy55992.1) rfl rfl (by decide) (Nat.le_of_ble_eq_true rfl) (by decide) dX12_forged_44 (fun r56023 Y56024 h56025 => ?_)
          obtain ⟨rfl, h56025⟩ := h56025
          obtain ⟨h56025, hi56026⟩ := h56025
          have hi56026 : r56023.toInt = 0 ∨ (0 ≤ a5.toInt ∧ a5.toInt ≤ 996) := hi56026
          have h56025 : 0 ≤ r56023.toInt ∧ r56023.toInt ≤ 1 := h56025
          refine b_if_eq C 54 dX12_forged_47 (by decide) (fun h56027 => ?_) (fun h56027 => ?_)
          · have h56027 : r56023.toInt = 0 := congrArg Int32.toInt h56027
            clear hi56026
            exact J54 Y55991 Iy55992 Xz55996 W55995 (by omega)
          · have h56027 : r56023.toInt ≠ 0 := ti_ne h56027
            replace hi56026 := hi56026.resolve_left (by omega)
            refine g_iconst (v := 1) C dX12_forged_50 (by decide) ?_
            refine g_goto C 55 dX12_forged_51 (by decide) ?_
            exact J55 Y55991 1 Iy55992 Xz55996 W55995 (by decide) (by omega) (by intro b910 e910; rw [e56010] at e910; cases e910; show 1 = 0 ∨ 0 < (pI Y55991 b56009 (a2.toInt.toNat)).toInt; omega) (by show 1 = 0 ∨ (0 ≤ a1.toInt ∧ a1.toInt ≤ 3 ∧ 0 ≤ a2.toInt ∧ a2.toInt ≤ 1); omega)
set_option maxHeartbeats 4000000 in
set_option maxRecDepth 100000 in
theorem s_X12_forgetsDraw {P : PP} {a0 : Nat} {a1 : Int32} (I : IM P a0) (ha1 : 0 ≤ a1.toInt ∧ a1.toInt ≤ 2) (hW : MW P a0) : CtrV yX12_forgetsDraw cX12_forgetsDraw 3 none ({ frames := 1, cells := 0, slots := 0, locals := 64 } : Room) 0 0 P [.ref a0, .int a1] (fun P2 => IM P2 a0 ∧ EM [12, 13, 14, 15, 17] a0 P P2 ∧ MW P2 a0) := by
  refine enV (lv := [(0, .ref a0), (1, .int a1)]) (by decide) (Nat.le_of_ble_eq_true rfl) rfl (fun E D cy C Ci0 ret => ?_)
  have ha0 := I.2.1
  have J2 : ∀ (n2 : Nat) (P2 : PP) (v2_2 : Int32), (21 - v2_2.toInt).toNat < n2 → (IM P2 a0) → (EM [12, 13, 14, 15, 17] a0 P P2) → (MW P2 a0) → (0 ≤ v2_2.toInt ∧ v2_2.toInt ≤ 21) → G E ({ frames := 1, cells := 0, slots := 0, locals := 64 } : Room) D cy 3 P2 0 0 2 [(0, .ref a0), (1, .int a1), (2, .int v2_2)] [] := by
    intro n2
    induction n2 with
    | zero => intro P2 v2_2 hm2 I2 X2 W2 hv2_2; omega
    | succ n2 ih2 =>
      intro P2 v2_2 hm2 I2 X2 W2 hv2_2
      have h56373 := X2.at ha0
      refine g_iload_n C dX12_forgetsDraw_2 rfl 2 rfl ?_
      refine g_bipush (v := 21) C dX12_forgetsDraw_3 (by decide) ?_
      refine b_icmp_ge C 26 dX12_forgetsDraw_5 (by decide) (fun h56374 => ?_) (fun h56374 => ?_)
      · have h56374 : 21 ≤ v2_2.toInt := h56374
        refine g_aload_n C dX12_forgetsDraw_26 rfl 0 rfl ?_
        obtain ⟨b56375, e56376, h56377⟩ := I2.fld (h56373) 13 13 3 rfl
        refine g_getR C fi_X12_54 rfl e56376 (h56373).1 (h56373).2 dX12_forgetsDraw_27 ?_
        refine g_iload_n C dX12_forgetsDraw_30 rfl 1 rfl ?_
        refine g_iconst (v := 0) C dX12_forgetsDraw_31 (by decide) ?_
        refine g_iast (j := (a1.toInt.toNat)) C h56377.1 h56377.2.1 (ix_in h56377.2.2 (by omega)) dX12_forgetsDraw_32 ?_
        refine gqW (ks := [13]) (I2.setA e56376 h56377 (by decide) (arOk.none rfl)) (EM.setA I2 e56376 rfl (by decide)) (fun Y56378 Iy56379 Xy56380 w56381 => ?_)
        have w56381 : (pI Y56378 b56375 (a1.toInt.toNat)).toInt = 0 := w56381
        have W56382 := W2.keep I2 Xy56380 (by decide) (by decide) (by decide)
        have Xz56383 : EM [12, 13, 14, 15, 17] a0 P Y56378 := EM.tr ha0 X2 (Xy56380.mono (by decide))
        have e56384 := Xy56380.ref h56373 (by decide) e56376
        have h56385 := Xy56380.at h56373
        have h56386 := Xy56380.ar h56377
        refine g_aload_n C dX12_forgetsDraw_33 rfl 0 rfl ?_
        obtain ⟨b56387, e56388, h56389⟩ := Iy56379.fld (h56385) 14 13 3 rfl
        refine g_getR C fi_X12_57 rfl e56388 (h56385).1 (h56385).2 dX12_forgetsDraw_34 ?_
        refine g_iload_n C dX12_forgetsDraw_37 rfl 1 rfl ?_
        refine g_iconst (v := 1) C dX12_forgetsDraw_38 (by decide) ?_
        refine g_iast (j := (a1.toInt.toNat)) C h56389.1 h56389.2.1 (ix_in h56389.2.2 (by omega)) dX12_forgetsDraw_39 ?_
        refine gqX (ks := [14]) (W := (fun P => MW P a0)) (Iy56379.setA e56388 h56389 (by decide) (arOk.of rfl (by decide))) (EM.setA Iy56379 e56388 rfl (by decide)) (W56382.set14 Iy56379 e56388 (by first | exact Or.inl (by omega) | exact Or.inr (by decide))) (fun Y56390 Iy56391 Xy56392 w56393 W56394 => ?_)
        have w56393 : (pI Y56390 b56387 (a1.toInt.toNat)).toInt = 1 := w56393
        have q56395 := Xy56392.keepA e56384 (by decide) rfl (a1.toInt.toNat)
        have Xz56396 : EM [12, 13, 14, 15, 17] a0 P Y56390 := EM.tr ha0 Xz56383 (Xy56392.mono (by decide))
        have e56397 := Xy56392.ref h56385 (by decide) e56384
        have e56398 := Xy56392.ref h56385 (by decide) e56388
        have h56399 := Xy56392.at h56385
        have h56400 := Xy56392.ar h56386
        have h56401 := Xy56392.ar h56389
        refine g_aload_n C dX12_forgetsDraw_40 rfl 0 rfl ?_
        obtain ⟨b56402, e56403, h56404⟩ := Iy56391.fld (h56399) 15 13 3 rfl
        refine g_getR C fi_X12_60 rfl e56403 (h56399).1 (h56399).2 dX12_forgetsDraw_41 ?_
        refine g_iload_n C dX12_forgetsDraw_44 rfl 1 rfl ?_
        refine g_iconst (v := 0) C dX12_forgetsDraw_45 (by decide) ?_
        refine g_iast (j := (a1.toInt.toNat)) C h56404.1 h56404.2.1 (ix_in h56404.2.2 (by omega)) dX12_forgetsDraw_46 ?_
        refine gqW (ks := [15]) (Iy56391.setA e56403 h56404 (by decide) (arOk.of rfl (by decide))) (EM.setA Iy56391 e56403 rfl (by decide)) (fun Y56405 Iy56406 Xy56407 w56408 => ?_)
        have w56408 : (pI Y56405 b56402 (a1.toInt.toNat)).toInt = 0 := w56408
        have q56409 := Xy56407.keepA e56397 (by decide) rfl (a1.toInt.toNat)
        have q56410 := Xy56407.keepA e56398 (by decide) rfl (a1.toInt.toNat)
        have W56411 := W56394.keep Iy56391 Xy56407 (by decide) (by decide) (by decide)
        have Xz56412 : EM [12, 13, 14, 15, 17] a0 P Y56405 := EM.tr ha0 Xz56396 (Xy56407.mono (by decide))
        have e56413 := Xy56407.ref h56399 (by decide) e56397
        have e56414 := Xy56407.ref h56399 (by decide) e56398
        have e56415 := Xy56407.ref h56399 (by decide) e56403
        have h56416 := Xy56407.at h56399
        have h56417 := Xy56407.ar h56400
        have h56418 := Xy56407.ar h56401
        have h56419 := Xy56407.ar h56404
        refine g_aload_n C dX12_forgetsDraw_47 rfl 0 rfl ?_
        obtain ⟨b56420, e56421, h56422⟩ := Iy56406.fld (h56416) 17 13 3 rfl
        refine g_getR C fi_X12_66 rfl e56421 (h56416).1 (h56416).2 dX12_forgetsDraw_48 ?_
        refine g_iload_n C dX12_forgetsDraw_51 rfl 1 rfl ?_
        refine g_iconst (v := 0) C dX12_forgetsDraw_52 (by decide) ?_
        refine g_iast (j := (a1.toInt.toNat)) C h56422.1 h56422.2.1 (ix_in h56422.2.2 (by omega)) dX12_forgetsDraw_53 ?_
        refine gqW (ks := [17]) (Iy56406.setA e56421 h56422 (by decide) (arOk.none rfl)) (EM.setA Iy56406 e56421 rfl (by decide)) (fun Y56423 Iy56424 Xy56425 w56426 => ?_)
        have w56426 : (pI Y56423 b56420 (a1.toInt.toNat)).toInt = 0 := w56426
        have q56427 := Xy56425.keepA e56413 (by decide) rfl (a1.toInt.toNat)
        have q56428 := Xy56425.keepA e56414 (by decide) rfl (a1.toInt.toNat)
        have q56429 := Xy56425.keepA e56415 (by decide) rfl (a1.toInt.toNat)
        have W56430 := W56411.keep Iy56406 Xy56425 (by decide) (by decide) (by decide)
        have Xz56431 : EM [12, 13, 14, 15, 17] a0 P Y56423 := EM.tr ha0 Xz56412 (Xy56425.mono (by decide))
        have e56432 := Xy56425.ref h56416 (by decide) e56413
        have e56433 := Xy56425.ref h56416 (by decide) e56414
        have e56434 := Xy56425.ref h56416 (by decide) e56415
        have e56435 := Xy56425.ref h56416 (by decide) e56421
        have h56436 := Xy56425.at h56416
        have h56437 := Xy56425.ar h56417
        have h56438 := Xy56425.ar h56418
        have h56439 := Xy56425.ar h56419
        have h56440 := Xy56425.ar h56422
        exact ret _ _ _ _ _ dX12_forgetsDraw_54 (by decide) (by decide) ⟨Iy56424, Xz56431, W56430⟩
      · have h56374 : v2_2.toInt < 21 := h56374
        refine g_aload_n C dX12_forgetsDraw_8 rfl 0 rfl ?_
        obtain ⟨b56441, e56442, h56443⟩ := I2.fld (h56373) 12 13 63 rfl
        refine g_getR C fi_X12_51 rfl e56442 (h56373).1 (h56373).2 dX12_forgetsDraw_9 ?_
        refine g_bipush (v := 21) C dX12_forgetsDraw_12 (by decide) ?_
        refine g_iload_n C dX12_forgetsDraw_14 rfl 1 rfl ?_
        refine s_imul C dX12_forgetsDraw_15 (by show -2147483648 ≤ 21 * a1.toInt ∧ 21 * a1.toInt ≤ 2147483647; omega) (fun z56444 h56445 => ?_)
        have h56445 : z56444.toInt = 21 * a1.toInt := h56445
        refine g_iload_n C dX12_forgetsDraw_16 rfl 2 rfl ?_
        refine s_iadd C dX12_forgetsDraw_17 (by show -2147483648 ≤ z56444.toInt + v2_2.toInt ∧ z56444.toInt + v2_2.toInt ≤ 2147483647; omega) (fun z56446 h56447 => ?_)
        have h56447 : z56446.toInt = z56444.toInt + v2_2.toInt := h56447
        refine g_iconst (v := (-1)) C dX12_forgetsDraw_18 (by decide) ?_
        refine g_iast (j := (z56446.toInt.toNat)) C h56443.1 h56443.2.1 (ix_in h56443.2.2 (by omega)) dX12_forgetsDraw_19 ?_
        refine gqW (ks := [12]) (I2.setA e56442 h56443 (by decide) (arOk.none rfl)) (EM.setA I2 e56442 rfl (by decide)) (fun Y56448 Iy56449 Xy56450 w56451 => ?_)
        have w56451 : (pI Y56448 b56441 (z56446.toInt.toNat)).toInt = (-1) := w56451
        have W56452 := W2.keep I2 Xy56450 (by decide) (by decide) (by decide)
        have Xz56453 : EM [12, 13, 14, 15, 17] a0 P Y56448 := EM.tr ha0 X2 (Xy56450.mono (by decide))
        have e56454 := Xy56450.ref h56373 (by decide) e56442
        have h56455 := Xy56450.at h56373
        have h56456 := Xy56450.ar h56443
        refine s_iinc (lv0 := [(0, .ref a0), (1, .int a1)]) (m := 1) C dX12_forgetsDraw_20 2 rfl (by decide) rfl (by decide) (by omega) (fun z56457 h56458 => ?_)
        have h56458 : z56457.toInt = v2_2.toInt + 1 := h56458
        refine g_goto C 2 dX12_forgetsDraw_23 (by decide) ?_
        refine g_lv (lv' := [(0, .ref a0), (1, .int a1), (2, .int z56457)]) [1, 2, 0] rfl ?_
        exact ih2 Y56448 z56457 (by omega) Iy56449 Xz56453 W56452 (by omega)
  refine g_iconst (v := 0) C dX12_forgetsDraw_0 (by decide) ?_
  refine g_istore_n (lv' := [(2, .int 0), (0, .ref a0), (1, .int a1)]) C dX12_forgetsDraw_1 rfl (by decide) rfl ?_
  refine g_lv (lv' := [(0, .ref a0), (1, .int a1), (2, .int 0)]) [1, 2, 0] rfl ?_
  exact J2 _ P 0 (Nat.lt_succ_self _) I EM.rf hW (by decide)
theorem dX12_guard_0 : decode cX12_guard 0 = .ok (.aload_n 0, 1) := by decide +kernel
theorem dX12_guard_1 : decode cX12_guard 1 = .ok (.iconst 0, 1) := by decide +kernel
theorem dX12_guard_2 : decode cX12_guard 2 = .ok (.putfield 1, 3) := by decide +kernel
theorem dX12_guard_5 : decode cX12_guard 5 = .ok (.aload_n 0, 1) := by decide +kernel
theorem dX12_guard_6 : decode cX12_guard 6 = .ok (.iload_n 1, 1) := by decide +kernel
theorem dX12_guard_7 : decode cX12_guard 7 = .ok (.iload_n 2, 1) := by decide +kernel
theorem dX12_guard_8 : decode cX12_guard 8 = .ok (.iload_n 3, 1) := by decide +kernel
theorem dX12_guard_9 : decode cX12_guard 9 = .ok (.invokevirtual 333, 3) := by decide +kernel
theorem dX12_guard_12 : decode cX12_guard 12 = .ok (.ifCond .eq 13, 3) := by decide +kernel
theorem dX12_guard_15 : decode cX12_guard 15 = .ok (.aload_n 0, 1) := by decide +kernel
theorem dX12_guard_16 : decode cX12_guard 16 = .ok (.iload_n 2, 1) := by decide +kernel
theorem dX12_guard_17 : decode cX12_guard 17 = .ok (.iload 4, 2) := by decide +kernel
theorem dX12_guard_19 : decode cX12_guard 19 = .ok (.invokevirtual 352, 3) := by decide +kernel
theorem dX12_isPage_0 : decode cX12_isPage 0 = .ok (.iload_n 2, 1) := by decide +kernel
theorem dX12_isPage_1 : decode cX12_isPage 1 = .ok (.iconst 0, 1) := by decide +kernel
theorem dX12_isPage_2 : decode cX12_isPage 2 = .ok (.aload_n 0, 1) := by decide +kernel
theorem dX12_isPage_3 : decode cX12_isPage 3 = .ok (.iload_n 1, 1) := by decide +kernel
theorem dX12_isPage_4 : decode cX12_isPage 4 = .ok (.invokevirtual 238, 3) := by decide +kernel
theorem dX12_isPage_7 : decode cX12_isPage 7 = .ok (.iconst 1, 1) := by decide +kernel
theorem dX12_isPage_8 : decode cX12_isPage 8 = .ok (.isub, 1) := by decide +kernel
theorem dX12_isPage_9 : decode cX12_isPage 9 = .ok (.invokestatic 178, 3) := by decide +kernel
theorem dX12_isPage_12 : decode cX12_isPage 12 = .ok (.ireturn, 1) := by decide +kernel
set_option maxHeartbeats 4000000 in
set_option maxRecDepth 100000 in
theorem s_X12_isPage {P : PP} {a0 : Nat} {a1 : Int32} {a2 : Int32} (I : IM P a0) (ha1 : 0 ≤ a1.toInt ∧ a1.toInt ≤ 1) (hW : MW P a0) : CtrI yX12_isPage cX12_isPage 3 (some Jvm.ClassFile.FieldType.boolean) ({ frames := 2, cells := 0, slots := 0, locals := 128 } : Room) 0 0 P [.ref a0, .int a1, .int a2] (fun r P2 => P = P2 ∧ (0 ≤ r.toInt ∧ r.toInt ≤ 1) ∧ (r.toInt = 0 ∨ (((0 : Int) ≤ a2.toInt ∧ a2.toInt ≤ (19 : Int))))) := by
  refine enI (lv := [(0, .ref a0), (1, .int a1), (2, .int a2)]) (by decide) (Nat.le_of_ble_eq_true rfl) rfl (fun E D cy C Ci0 ret => ?_)
  have ha0 := I.2.1
  refine g_iload_n C dX12_isPage_0 rfl 2 rfl ?_
  refine g_iconst (v := 0) C dX12_isPage_1 (by decide) ?_
  refine g_aload_n C dX12_isPage_2 rfl 0 rfl ?_
  refine g_iload_n C dX12_isPage_3 rfl 1 rfl ?_
  refine g_callVI (rest := [.int 0, .int a2]) C mv_X12_238 [.int a1] (s_X12_allOf I (by omega) hW) (ha0).1 (ha0).2 rfl rfl (by decide) (Nat.le_of_ble_eq_true rfl) (by decide) dX12_isPage_4 (fun r56494 Y56495 h56496 => ?_)
  obtain ⟨rfl, h56496⟩ := h56496
  obtain ⟨h56496, hi56497⟩ := h56496
  obtain ⟨b56498, e56499, h56500⟩ := I.fld (ha0) 10 13 2 rfl
  obtain ⟨b56501, e56502, h56503⟩ := I.fld (ha0) 15 13 3 rfl
  have hi56497 : r56494.toInt = 0 ∨ r56494.toInt = (pI P b56498 (a1.toInt.toNat)).toInt + (pI P b56501 (a1.toInt.toNat)).toInt := hi56497.imp id (fun z9 => z9 b56498 b56501 e56499 e56502)
  have h56504 := I.arr e56499 rfl (a1.toInt.toNat)
  have h56505 := I.arr e56502 rfl (a1.toInt.toNat)
  have h56496 : 0 ≤ r56494.toInt ∧ r56494.toInt ≤ 20 := h56496
  refine g_iconst (v := 1) C dX12_isPage_7 (by decide) ?_
  refine s_isub C dX12_isPage_8 (by show -2147483648 ≤ r56494.toInt - 1 ∧ r56494.toInt - 1 ≤ 2147483647; omega) (fun z56506 h56507 => ?_)
  have h56507 : z56506.toInt = r56494.toInt - 1 := h56507
  refine g_callSI (b := 0) (ci := 0) (rest := []) C ms_X12_178 [.int a2, .int 0, .int z56506] (s_X12_within I.1) rfl rfl (by decide) (Nat.le_of_ble_eq_true rfl) (by decide) dX12_isPage_9 (fun r56508 Y56509 h56510 => ?_)
  obtain ⟨rfl, h56510⟩ := h56510
  obtain ⟨h56510, hi56511⟩ := h56510
  have hi56511 : r56508.toInt = 0 ∨ (0 ≤ a2.toInt ∧ a2.toInt ≤ z56506.toInt) := hi56511
  have h56510 : 0 ≤ r56508.toInt ∧ r56508.toInt ≤ 1 := h56510
  exact ret _ _ _ _ _ _ dX12_isPage_12 (nar_b (b01 (by omega))) (by decide) (by decide) ⟨rfl, (by omega), hi56511.imp id (fun h9 => by omega)⟩
theorem dX12_guard_22 : decode cX12_guard 22 = .ok (.ifCond .ne 5, 3) := by decide +kernel
theorem dX12_guard_25 : decode cX12_guard 25 = .ok (.iconst (-1), 1) := by decide +kernel
theorem dX12_guard_26 : decode cX12_guard 26 = .ok (.ireturn, 1) := by decide +kernel
theorem dX12_guard_27 : decode cX12_guard 27 = .ok (.aload_n 0, 1) := by decide +kernel
theorem dX12_guard_28 : decode cX12_guard 28 = .ok (.invokevirtual 336, 3) := by decide +kernel
theorem dX12_guard_31 : decode cX12_guard 31 = .ok (.aload_n 0, 1) := by decide +kernel
theorem dX12_guard_32 : decode cX12_guard 32 = .ok (.iload_n 1, 1) := by decide +kernel
theorem dX12_guard_33 : decode cX12_guard 33 = .ok (.iload_n 2, 1) := by decide +kernel
theorem dX12_guard_34 : decode cX12_guard 34 = .ok (.iload_n 3, 1) := by decide +kernel
theorem dX12_guard_35 : decode cX12_guard 35 = .ok (.aload_n 0, 1) := by decide +kernel
theorem dX12_guard_36 : decode cX12_guard 36 = .ok (.getfield 69, 3) := by decide +kernel
theorem dX12_guard_39 : decode cX12_guard 39 = .ok (.iload_n 1, 1) := by decide +kernel
theorem dX12_guard_40 : decode cX12_guard 40 = .ok (.iaload, 1) := by decide +kernel
theorem dX12_guard_41 : decode cX12_guard 41 = .ok (.invokevirtual 339, 3) := by decide +kernel
theorem dX12_guard_44 : decode cX12_guard 44 = .ok (.aload_n 0, 1) := by decide +kernel
theorem dX12_guard_45 : decode cX12_guard 45 = .ok (.invokevirtual 346, 3) := by decide +kernel
theorem dX12_guard_48 : decode cX12_guard 48 = .ok (.aload_n 0, 1) := by decide +kernel
theorem dX12_guard_49 : decode cX12_guard 49 = .ok (.iload 4, 2) := by decide +kernel
theorem dX12_guard_51 : decode cX12_guard 51 = .ok (.invokevirtual 330, 3) := by decide +kernel
theorem dX12_guard_54 : decode cX12_guard 54 = .ok (.ifCond .ne 5, 3) := by decide +kernel
theorem dX12_guard_57 : decode cX12_guard 57 = .ok (.iconst (-1), 1) := by decide +kernel
theorem dX12_guard_58 : decode cX12_guard 58 = .ok (.ireturn, 1) := by decide +kernel
theorem dX12_guard_59 : decode cX12_guard 59 = .ok (.iconst 4, 1) := by decide +kernel
theorem dX12_guard_60 : decode cX12_guard 60 = .ok (.istore 5, 2) := by decide +kernel
theorem dX12_guard_62 : decode cX12_guard 62 = .ok (.aload_n 0, 1) := by decide +kernel
theorem dX12_guard_63 : decode cX12_guard 63 = .ok (.getfield 60, 3) := by decide +kernel
theorem dX12_guard_66 : decode cX12_guard 66 = .ok (.iload_n 2, 1) := by decide +kernel
theorem dX12_guard_67 : decode cX12_guard 67 = .ok (.iaload, 1) := by decide +kernel
theorem dX12_guard_68 : decode cX12_guard 68 = .ok (.istore 6, 2) := by decide +kernel
theorem dX12_guard_70 : decode cX12_guard 70 = .ok (.iload 6, 2) := by decide +kernel
theorem dX12_guard_72 : decode cX12_guard 72 = .ok (.aload_n 0, 1) := by decide +kernel
theorem dX12_guard_73 : decode cX12_guard 73 = .ok (.getfield 305, 3) := by decide +kernel
theorem dX12_guard_76 : decode cX12_guard 76 = .ok (.if_icmp .ge 38, 3) := by decide +kernel
theorem dX12_guard_79 : decode cX12_guard 79 = .ok (.iload 5, 2) := by decide +kernel
theorem dX12_guard_81 : decode cX12_guard 81 = .ok (.iconst 1, 1) := by decide +kernel
theorem dX12_guard_82 : decode cX12_guard 82 = .ok (.if_icmp .le 32, 3) := by decide +kernel
theorem dX12_guard_85 : decode cX12_guard 85 = .ok (.aload_n 0, 1) := by decide +kernel
theorem dX12_guard_86 : decode cX12_guard 86 = .ok (.iload 4, 2) := by decide +kernel
theorem dX12_guard_88 : decode cX12_guard 88 = .ok (.iload 6, 2) := by decide +kernel
theorem dX12_guard_90 : decode cX12_guard 90 = .ok (.iload 6, 2) := by decide +kernel
theorem dX12_guard_92 : decode cX12_guard 92 = .ok (.iload 6, 2) := by decide +kernel
theorem dX12_guard_94 : decode cX12_guard 94 = .ok (.invokevirtual 367, 3) := by decide +kernel
theorem dX12_isFixedWithout_0 : decode cX12_isFixedWithout 0 = .ok (.aload_n 0, 1) := by decide +kernel
theorem dX12_isFixedWithout_1 : decode cX12_isFixedWithout 1 = .ok (.getfield 305, 3) := by decide +kernel
theorem dX12_isFixedWithout_4 : decode cX12_isFixedWithout 4 = .ok (.istore 5, 2) := by decide +kernel
theorem dX12_isFixedWithout_6 : decode cX12_isFixedWithout 6 = .ok (.iconst 0, 1) := by decide +kernel
theorem dX12_isFixedWithout_7 : decode cX12_isFixedWithout 7 = .ok (.istore 6, 2) := by decide +kernel
theorem dX12_isFixedWithout_9 : decode cX12_isFixedWithout 9 = .ok (.iconst 0, 1) := by decide +kernel
theorem dX12_isFixedWithout_10 : decode cX12_isFixedWithout 10 = .ok (.istore 7, 2) := by decide +kernel
theorem dX12_isFixedWithout_12 : decode cX12_isFixedWithout 12 = .ok (.iload 7, 2) := by decide +kernel
theorem dX12_isFixedWithout_14 : decode cX12_isFixedWithout 14 = .ok (.iload 5, 2) := by decide +kernel
theorem dX12_isFixedWithout_16 : decode cX12_isFixedWithout 16 = .ok (.if_icmp .ge 87, 3) := by decide +kernel
theorem dX12_isFixedWithout_19 : decode cX12_isFixedWithout 19 = .ok (.aload_n 0, 1) := by decide +kernel
theorem dX12_isFixedWithout_20 : decode cX12_isFixedWithout 20 = .ok (.getfield 115, 3) := by decide +kernel
theorem dX12_isFixedWithout_23 : decode cX12_isFixedWithout 23 = .ok (.iload 7, 2) := by decide +kernel
theorem dX12_isFixedWithout_25 : decode cX12_isFixedWithout 25 = .ok (.aload_n 0, 1) := by decide +kernel
theorem dX12_isFixedWithout_26 : decode cX12_isFixedWithout 26 = .ok (.getfield 91, 3) := by decide +kernel
theorem dX12_isFixedWithout_29 : decode cX12_isFixedWithout 29 = .ok (.iload 7, 2) := by decide +kernel
theorem dX12_isFixedWithout_31 : decode cX12_isFixedWithout 31 = .ok (.iaload, 1) := by decide +kernel
theorem dX12_isFixedWithout_32 : decode cX12_isFixedWithout 32 = .ok (.iastore, 1) := by decide +kernel
theorem dX12_isFixedWithout_33 : decode cX12_isFixedWithout 33 = .ok (.aload_n 0, 1) := by decide +kernel
theorem dX12_isFixedWithout_34 : decode cX12_isFixedWithout 34 = .ok (.getfield 118, 3) := by decide +kernel
theorem dX12_isFixedWithout_37 : decode cX12_isFixedWithout 37 = .ok (.iload 7, 2) := by decide +kernel
theorem dX12_isFixedWithout_39 : decode cX12_isFixedWithout 39 = .ok (.aload_n 0, 1) := by decide +kernel
theorem dX12_isFixedWithout_40 : decode cX12_isFixedWithout 40 = .ok (.getfield 94, 3) := by decide +kernel
theorem dX12_isFixedWithout_43 : decode cX12_isFixedWithout 43 = .ok (.iload 7, 2) := by decide +kernel
theorem dX12_isFixedWithout_45 : decode cX12_isFixedWithout 45 = .ok (.iaload, 1) := by decide +kernel
theorem dX12_isFixedWithout_46 : decode cX12_isFixedWithout 46 = .ok (.iastore, 1) := by decide +kernel
theorem dX12_isFixedWithout_47 : decode cX12_isFixedWithout 47 = .ok (.iload 7, 2) := by decide +kernel
theorem dX12_isFixedWithout_49 : decode cX12_isFixedWithout 49 = .ok (.iload_n 2, 1) := by decide +kernel
theorem dX12_isFixedWithout_50 : decode cX12_isFixedWithout 50 = .ok (.if_icmp .eq 47, 3) := by decide +kernel
theorem dX12_isFixedWithout_53 : decode cX12_isFixedWithout 53 = .ok (.iload 7, 2) := by decide +kernel
theorem dX12_isFixedWithout_55 : decode cX12_isFixedWithout 55 = .ok (.iload_n 3, 1) := by decide +kernel
theorem dX12_isFixedWithout_56 : decode cX12_isFixedWithout 56 = .ok (.if_icmp .eq 41, 3) := by decide +kernel
theorem dX12_isFixedWithout_59 : decode cX12_isFixedWithout 59 = .ok (.iload 7, 2) := by decide +kernel
theorem dX12_isFixedWithout_61 : decode cX12_isFixedWithout 61 = .ok (.iload 4, 2) := by decide +kernel
theorem dX12_isFixedWithout_63 : decode cX12_isFixedWithout 63 = .ok (.if_icmp .eq 34, 3) := by decide +kernel
theorem dX12_isFixedWithout_66 : decode cX12_isFixedWithout 66 = .ok (.aload_n 0, 1) := by decide +kernel
theorem dX12_isFixedWithout_67 : decode cX12_isFixedWithout 67 = .ok (.getfield 91, 3) := by decide +kernel
theorem dX12_isFixedWithout_70 : decode cX12_isFixedWithout 70 = .ok (.iload 6, 2) := by decide +kernel
theorem dX12_isFixedWithout_72 : decode cX12_isFixedWithout 72 = .ok (.aload_n 0, 1) := by decide +kernel
theorem dX12_isFixedWithout_73 : decode cX12_isFixedWithout 73 = .ok (.getfield 91, 3) := by decide +kernel
theorem dX12_isFixedWithout_76 : decode cX12_isFixedWithout 76 = .ok (.iload 7, 2) := by decide +kernel
theorem dX12_isFixedWithout_78 : decode cX12_isFixedWithout 78 = .ok (.iaload, 1) := by decide +kernel
theorem dX12_isFixedWithout_79 : decode cX12_isFixedWithout 79 = .ok (.iastore, 1) := by decide +kernel
theorem dX12_isFixedWithout_80 : decode cX12_isFixedWithout 80 = .ok (.aload_n 0, 1) := by decide +kernel
theorem dX12_isFixedWithout_81 : decode cX12_isFixedWithout 81 = .ok (.getfield 94, 3) := by decide +kernel
theorem dX12_isFixedWithout_84 : decode cX12_isFixedWithout 84 = .ok (.iload 6, 2) := by decide +kernel
theorem dX12_isFixedWithout_86 : decode cX12_isFixedWithout 86 = .ok (.aload_n 0, 1) := by decide +kernel
theorem dX12_isFixedWithout_87 : decode cX12_isFixedWithout 87 = .ok (.getfield 94, 3) := by decide +kernel
theorem dX12_isFixedWithout_90 : decode cX12_isFixedWithout 90 = .ok (.iload 7, 2) := by decide +kernel
theorem dX12_isFixedWithout_92 : decode cX12_isFixedWithout 92 = .ok (.iaload, 1) := by decide +kernel
theorem dX12_isFixedWithout_93 : decode cX12_isFixedWithout 93 = .ok (.iastore, 1) := by decide +kernel
theorem dX12_isFixedWithout_94 : decode cX12_isFixedWithout 94 = .ok (.iinc 6 1, 3) := by decide +kernel
theorem dX12_isFixedWithout_97 : decode cX12_isFixedWithout 97 = .ok (.iinc 7 1, 3) := by decide +kernel
theorem dX12_isFixedWithout_100 : decode cX12_isFixedWithout 100 = .ok (.goto (-88), 3) := by decide +kernel
theorem dX12_isFixedWithout_103 : decode cX12_isFixedWithout 103 = .ok (.aload_n 0, 1) := by decide +kernel
theorem dX12_isFixedWithout_104 : decode cX12_isFixedWithout 104 = .ok (.iload 6, 2) := by decide +kernel
theorem dX12_isFixedWithout_106 : decode cX12_isFixedWithout 106 = .ok (.putfield 305, 3) := by decide +kernel
theorem dX12_isFixedWithout_109 : decode cX12_isFixedWithout 109 = .ok (.aload_n 0, 1) := by decide +kernel
theorem dX12_isFixedWithout_110 : decode cX12_isFixedWithout 110 = .ok (.invokevirtual 346, 3) := by decide +kernel
theorem dX12_isFixedWithout_113 : decode cX12_isFixedWithout 113 = .ok (.aload_n 0, 1) := by decide +kernel
theorem dX12_isFixedWithout_114 : decode cX12_isFixedWithout 114 = .ok (.iload_n 1, 1) := by decide +kernel
theorem dX12_isFixedWithout_115 : decode cX12_isFixedWithout 115 = .ok (.invokevirtual 330, 3) := by decide +kernel
theorem dX12_isFixedWithout_118 : decode cX12_isFixedWithout 118 = .ok (.istore 7, 2) := by decide +kernel
theorem dX12_isFixedWithout_120 : decode cX12_isFixedWithout 120 = .ok (.aload_n 0, 1) := by decide +kernel
theorem dX12_isFixedWithout_121 : decode cX12_isFixedWithout 121 = .ok (.iload 5, 2) := by decide +kernel
theorem dX12_isFixedWithout_123 : decode cX12_isFixedWithout 123 = .ok (.putfield 305, 3) := by decide +kernel
theorem dX12_isFixedWithout_126 : decode cX12_isFixedWithout 126 = .ok (.iconst 0, 1) := by decide +kernel
theorem dX12_isFixedWithout_127 : decode cX12_isFixedWithout 127 = .ok (.istore 8, 2) := by decide +kernel
theorem dX12_isFixedWithout_129 : decode cX12_isFixedWithout 129 = .ok (.iload 8, 2) := by decide +kernel
theorem dX12_isFixedWithout_131 : decode cX12_isFixedWithout 131 = .ok (.iload 5, 2) := by decide +kernel
theorem dX12_isFixedWithout_133 : decode cX12_isFixedWithout 133 = .ok (.if_icmp .ge 37, 3) := by decide +kernel
theorem dX12_isFixedWithout_136 : decode cX12_isFixedWithout 136 = .ok (.aload_n 0, 1) := by decide +kernel
theorem dX12_isFixedWithout_137 : decode cX12_isFixedWithout 137 = .ok (.getfield 91, 3) := by decide +kernel
theorem dX12_isFixedWithout_140 : decode cX12_isFixedWithout 140 = .ok (.iload 8, 2) := by decide +kernel
theorem dX12_isFixedWithout_142 : decode cX12_isFixedWithout 142 = .ok (.aload_n 0, 1) := by decide +kernel
theorem dX12_isFixedWithout_143 : decode cX12_isFixedWithout 143 = .ok (.getfield 115, 3) := by decide +kernel
theorem dX12_isFixedWithout_146 : decode cX12_isFixedWithout 146 = .ok (.iload 8, 2) := by decide +kernel
theorem dX12_isFixedWithout_148 : decode cX12_isFixedWithout 148 = .ok (.iaload, 1) := by decide +kernel
theorem dX12_isFixedWithout_149 : decode cX12_isFixedWithout 149 = .ok (.iastore, 1) := by decide +kernel
theorem dX12_isFixedWithout_150 : decode cX12_isFixedWithout 150 = .ok (.aload_n 0, 1) := by decide +kernel
theorem dX12_isFixedWithout_151 : decode cX12_isFixedWithout 151 = .ok (.getfield 94, 3) := by decide +kernel
theorem dX12_isFixedWithout_154 : decode cX12_isFixedWithout 154 = .ok (.iload 8, 2) := by decide +kernel
theorem dX12_isFixedWithout_156 : decode cX12_isFixedWithout 156 = .ok (.aload_n 0, 1) := by decide +kernel
theorem dX12_isFixedWithout_157 : decode cX12_isFixedWithout 157 = .ok (.getfield 118, 3) := by decide +kernel
theorem dX12_isFixedWithout_160 : decode cX12_isFixedWithout 160 = .ok (.iload 8, 2) := by decide +kernel
theorem dX12_isFixedWithout_162 : decode cX12_isFixedWithout 162 = .ok (.iaload, 1) := by decide +kernel
theorem dX12_isFixedWithout_163 : decode cX12_isFixedWithout 163 = .ok (.iastore, 1) := by decide +kernel
theorem dX12_isFixedWithout_164 : decode cX12_isFixedWithout 164 = .ok (.iinc 8 1, 3) := by decide +kernel
theorem dX12_isFixedWithout_167 : decode cX12_isFixedWithout 167 = .ok (.goto (-38), 3) := by decide +kernel
theorem dX12_isFixedWithout_170 : decode cX12_isFixedWithout 170 = .ok (.iload 7, 2) := by decide +kernel
theorem dX12_isFixedWithout_172 : decode cX12_isFixedWithout 172 = .ok (.ireturn, 1) := by decide +kernel
set_option maxHeartbeats 4000000 in
set_option maxRecDepth 100000 in
theorem s_X12_isFixedWithout {P : PP} {a0 : Nat} {a1 : Int32} {a2 : Int32} {a3 : Int32} {a4 : Int32} (I : IM P a0) (ha1 : 0 ≤ a1.toInt ∧ a1.toInt ≤ 19) (hW : MW P a0) : CtrI yX12_isFixedWithout cX12_isFixedWithout 9 (some Jvm.ClassFile.FieldType.boolean) ({ frames := 2, cells := 0, slots := 0, locals := 128 } : Room) 0 0 P [.ref a0, .int a1, .int a2, .int a3, .int a4] (fun r P2 => IM P2 a0 ∧ EM [28, 29, 30, 35, 36, 37, 38, 41, 42] a0 P P2 ∧ MW P2 a0 ∧ (0 ≤ r.toInt ∧ r.toInt ≤ 1)) := by
  refine enI (lv := [(0, .ref a0), (1, .int a1), (2, .int a2), (3, .int a3), (4, .int a4)]) (by decide) (Nat.le_of_ble_eq_true rfl) rfl (fun E D cy C Ci0 ret => ?_)
  have ha0 := I.2.1
  have J129 : ∀ (n129 : Nat) (P129 : PP) (v129_5 : Int32) (v129_7 : Int32) (v129_8 : Int32), (64 - v129_8.toInt).toNat < n129 → (IM P129 a0) → (EM [28, 29, 30, 35, 36, 37, 38, 41, 42] a0 P P129) → (MW P129 a0) → (0 ≤ v129_5.toInt ∧ v129_5.toInt ≤ 64) → (0 ≤ v129_7.toInt ∧ v129_7.toInt ≤ 1) → (0 ≤ v129_8.toInt ∧ v129_8.toInt ≤ 64) → G E ({ frames := 2, cells := 0, slots := 0, locals := 128 } : Room) D cy 9 P129 0 0 129 [(0, .ref a0), (5, .int v129_5), (7, .int v129_7), (8, .int v129_8)] [] := by
    intro n129
    induction n129 with
    | zero => intro P129 v129_5 v129_7 v129_8 hm129 I129 X129 W129 hv129_5 hv129_7 hv129_8; omega
    | succ n129 ih129 =>
      intro P129 v129_5 v129_7 v129_8 hm129 I129 X129 W129 hv129_5 hv129_7 hv129_8
      have h60680 := X129.at ha0
      refine g_iload C dX12_isFixedWithout_129 3 rfl ?_
      refine g_iload C dX12_isFixedWithout_131 1 rfl ?_
      refine b_icmp_ge C 170 dX12_isFixedWithout_133 (by decide) (fun h60681 => ?_) (fun h60681 => ?_)
      · have h60681 : v129_5.toInt ≤ v129_8.toInt := h60681
        refine g_iload C dX12_isFixedWithout_170 2 rfl ?_
        exact ret _ _ _ _ _ _ dX12_isFixedWithout_172 (nar_b (b01 (by omega))) (by decide) (by decide) ⟨I129, X129, W129, (by omega)⟩
      · have h60681 : v129_8.toInt < v129_5.toInt := h60681
        refine g_aload_n C dX12_isFixedWithout_136 rfl 0 rfl ?_
        obtain ⟨b60682, e60683, h60684⟩ := I129.fld (h60680) 29 13 64 rfl
        refine g_getR C fi_X12_91 rfl e60683 (h60680).1 (h60680).2 dX12_isFixedWithout_137 ?_
        refine g_iload C dX12_isFixedWithout_140 3 rfl ?_
        refine g_aload_n C dX12_isFixedWithout_142 rfl 0 rfl ?_
        obtain ⟨b60685, e60686, h60687⟩ := I129.fld (h60680) 41 13 64 rfl
        refine g_getR C fi_X12_115 rfl e60686 (h60680).1 (h60680).2 dX12_isFixedWithout_143 ?_
        refine g_iload C dX12_isFixedWithout_146 3 rfl ?_
        refine g_iald (j := (v129_8.toInt.toNat)) C h60687.1 h60687.2.1 (ix_in h60687.2.2 (by omega)) dX12_isFixedWithout_148 ?_
        refine g_iast (j := (v129_8.toInt.toNat)) C h60684.1 h60684.2.1 (ix_in h60684.2.2 (by omega)) dX12_isFixedWithout_149 ?_
        refine gqW (ks := [29]) (I129.setA e60683 h60684 (by decide) (arOk.none rfl)) (EM.setA I129 e60683 rfl (by decide)) (fun Y60688 Iy60689 Xy60690 w60691 => ?_)
        have w60691 : (pI Y60688 b60682 (v129_8.toInt.toNat)).toInt = (pI P129 b60685 (v129_8.toInt.toNat)).toInt := w60691
        have W60692 := W129.keep I129 Xy60690 (by decide) (by decide) (by decide)
        have Xz60693 : EM [28, 29, 30, 35, 36, 37, 38, 41, 42] a0 P Y60688 := EM.tr ha0 X129 (Xy60690.mono (by decide))
        have e60694 := Xy60690.ref h60680 (by decide) e60683
        have h60695 := Xy60690.at h60680
        have h60696 := Xy60690.ar h60684
        refine g_aload_n C dX12_isFixedWithout_150 rfl 0 rfl ?_
        obtain ⟨b60697, e60698, h60699⟩ := Iy60689.fld (h60695) 30 13 64 rfl
        refine g_getR C fi_X12_94 rfl e60698 (h60695).1 (h60695).2 dX12_isFixedWithout_151 ?_
        refine g_iload C dX12_isFixedWithout_154 3 rfl ?_
        refine g_aload_n C dX12_isFixedWithout_156 rfl 0 rfl ?_
        obtain ⟨b60700, e60701, h60702⟩ := Iy60689.fld (h60695) 42 13 64 rfl
        refine g_getR C fi_X12_118 rfl e60701 (h60695).1 (h60695).2 dX12_isFixedWithout_157 ?_
        refine g_iload C dX12_isFixedWithout_160 3 rfl ?_
        refine g_iald (j := (v129_8.toInt.toNat)) C h60702.1 h60702.2.1 (ix_in h60702.2.2 (by omega)) dX12_isFixedWithout_162 ?_
        refine g_iast (j := (v129_8.toInt.toNat)) C h60699.1 h60699.2.1 (ix_in h60699.2.2 (by omega)) dX12_isFixedWithout_163 ?_
        refine gqW (ks := [30]) (Iy60689.setA e60698 h60699 (by decide) (arOk.none rfl)) (EM.setA Iy60689 e60698 rfl (by decide)) (fun Y60703 Iy60704 Xy60705 w60706 => ?_)
        have w60706 : (pI Y60703 b60697 (v129_8.toInt.toNat)).toInt = (pI Y60688 b60700 (v129_8.toInt.toNat)).toInt := w60706
        have q60707 := Xy60705.keepA e60694 (by decide) rfl (v129_8.toInt.toNat)
        have W60708 := W60692.keep Iy60689 Xy60705 (by decide) (by decide) (by decide)
        have Xz60709 : EM [28, 29, 30, 35, 36, 37, 38, 41, 42] a0 P Y60703 := EM.tr ha0 Xz60693 (Xy60705.mono (by decide))
        have e60710 := Xy60705.ref h60695 (by decide) e60694
        have e60711 := Xy60705.ref h60695 (by decide) e60698
        have h60712 := Xy60705.at h60695
        have h60713 := Xy60705.ar h60696
        have h60714 := Xy60705.ar h60699
        refine s_iinc (lv0 := [(0, .ref a0), (5, .int v129_5), (7, .int v129_7)]) (m := 1) C dX12_isFixedWithout_164 3 rfl (by decide) rfl (by decide) (by omega) (fun z60715 h60716 => ?_)
        have h60716 : z60715.toInt = v129_8.toInt + 1 := h60716
        refine g_goto C 129 dX12_isFixedWithout_167 (by decide) ?_
        refine g_lv (lv' := [(0, .ref a0), (5, .int v129_5), (7, .int v129_7), (8, .int z60715)]) [1, 2, 3, 0] rfl ?_
        exact ih129 Y60703 v129_5 v129_7 z60715 (by omega) Iy60704 Xz60709 W60708 (by omega) (by omega) (by omega)
  have J12 : ∀ (n12 : Nat) (P12 : PP) (v12_5 : Int32) (v12_6 : Int32) (v12_7 : Int32), (64 - v12_7.toInt).toNat < n12 → (IM P12 a0) → (EM [28, 29, 30, 35, 36, 37, 38, 41, 42] a0 P P12) → (MW P12 a0) → (0 ≤ v12_5.toInt ∧ v12_5.toInt ≤ 64) → (0 ≤ v12_6.toInt ∧ v12_6.toInt ≤ 64) → (0 ≤ v12_7.toInt ∧ v12_7.toInt ≤ 64) → (v12_6.toInt ≤ v12_7.toInt) → G E ({ frames := 2, cells := 0, slots := 0, locals := 128 } : Room) D cy 9 P12 0 0 12 [(0, .ref a0), (1, .int a1), (2, .int a2), (3, .int a3), (4, .int a4), (5, .int v12_5), (6, .int v12_6), (7, .int v12_7)] [] := by
    intro n12
    induction n12 with
    | zero => intro P12 v12_5 v12_6 v12_7 hm12 I12 X12 W12 hv12_5 hv12_6 hv12_7 rel12_0; omega
    | succ n12 ih12 =>
      intro P12 v12_5 v12_6 v12_7 hm12 I12 X12 W12 hv12_5 hv12_6 hv12_7 rel12_0
      have h60717 := X12.at ha0
      have J97 : ∀ (P97 : PP) (v97_6 : Int32), (IM P97 a0) → (EM [28, 29, 30, 35, 36, 37, 38, 41, 42] a0 P P97) → (MW P97 a0) → (1 ≤ v12_5.toInt ∧ v12_5.toInt ≤ 64) → (0 ≤ v97_6.toInt ∧ v97_6.toInt ≤ 64) → (0 ≤ v12_7.toInt ∧ v12_7.toInt ≤ 63) → (v97_6.toInt ≤ v12_7.toInt + 1) → G E ({ frames := 2, cells := 0, slots := 0, locals := 128 } : Room) D cy 9 P97 0 0 97 [(0, .ref a0), (1, .int a1), (2, .int a2), (3, .int a3), (4, .int a4), (5, .int v12_5), (6, .int v97_6), (7, .int v12_7)] [] := by
        intro P97 v97_6 I97 X97 W97 hv97_5 hv97_6 hv97_7 rel97_0
        have h60718 := X97.at ha0
        refine s_iinc (lv0 := [(0, .ref a0), (1, .int a1), (2, .int a2), (3, .int a3), (4, .int a4), (5, .int v12_5), (6, .int v97_6)]) (m := 1) C dX12_isFixedWithout_97 7 rfl (by decide) rfl (by decide) (by omega) (fun z60719 h60720 => ?_)
        have h60720 : z60719.toInt = v12_7.toInt + 1 := h60720
        refine g_goto C 12 dX12_isFixedWithout_100 (by decide) ?_
        refine g_lv (lv' := [(0, .ref a0), (1, .int a1), (2, .int a2), (3, .int a3), (4, .int a4), (5, .int v12_5), (6, .int v97_6), (7, .int z60719)]) [1, 2, 3, 4, 5, 6, 7, 0] rfl ?_
        exact ih12 P97 v12_5 v97_6 z60719 (by omega) I97 X97 W97 (by omega) (by omega) (by omega) (by show v97_6.toInt ≤ z60719.toInt; omega)
      refine g_iload C dX12_isFixedWithout_12 7 rfl ?_
      refine g_iload C dX12_isFixedWithout_14 5 rfl ?_
      refine b_icmp_ge C 103 dX12_isFixedWithout_16 (by decide) (fun h60721 => ?_) (fun h60721 => ?_)
      · have h60721 : v12_5.toInt ≤ v12_7.toInt := h60721
        refine g_aload_n C dX12_isFixedWithout_103 rfl 0 rfl ?_
        refine g_iload C dX12_isFixedWithout_104 6 rfl ?_
        refine g_putI C fi_X12_305 rfl (h60717).1 (h60717).2 dX12_isFixedWithout_106 ?_
        refine gqW (ks := [28]) (I12.setI (rgOk.of rfl (by omega))) (EM.setI I12 (by decide)) (fun Y60722 Iy60723 Xy60724 w60725 => ?_)
        have w60725 : (pI Y60722 a0 28).toInt = v12_6.toInt := w60725
        have W60726 := W12.keep I12 Xy60724 (by decide) (by decide) (by decide)
        have Xz60727 : EM [28, 29, 30, 35, 36, 37, 38, 41, 42] a0 P Y60722 := EM.tr ha0 X12 (Xy60724.mono (by decide))
        have h60728 := Xy60724.at h60717
        refine g_aload_n C dX12_isFixedWithout_109 rfl 0 rfl ?_
        refine g_callVV (rest := []) C mv_X12_346 [] (s_X12_findSolved Iy60723 W60726) (h60728).1 (h60728).2 rfl rfl (by decide) (Nat.le_of_ble_eq_true rfl) (by decide) dX12_isFixedWithout_110 (fun Y60730 h60731 => ?_)
        obtain ⟨Iy60732, Xy60733, W60734⟩ := h60731
        have q60735 := Xy60733.keepF 28 (by decide)
        have Xz60736 : EM [28, 29, 30, 35, 36, 37, 38, 41, 42] a0 P Y60730 := EM.tr ha0 Xz60727 (Xy60733.mono (by decide))
        have h60737 := Xy60733.at h60728
        refine g_aload_n C dX12_isFixedWithout_113 rfl 0 rfl ?_
        refine g_iload_n C dX12_isFixedWithout_114 rfl 1 rfl ?_
        refine g_callVI (rest := []) C mv_X12_330 [.int a1] (s_X12_isFixed Iy60732 (by omega) W60734) (h60737).1 (h60737).2 rfl rfl (by decide) (Nat.le_of_ble_eq_true rfl) (by decide) dX12_isFixedWithout_115 (fun r60738 Y60739 h60740 => ?_)
        obtain ⟨rfl, h60740⟩ := h60740
        have h60740 : 0 ≤ r60738.toInt ∧ r60738.toInt ≤ 1 := h60740
        refine g_istore (lv' := [(7, .int r60738), (0, .ref a0), (1, .int a1), (2, .int a2), (3, .int a3), (4, .int a4), (5, .int v12_5), (6, .int v12_6)]) C dX12_isFixedWithout_118 (by decide) rfl ?_
        refine g_aload_n C dX12_isFixedWithout_120 rfl 1 rfl ?_
        refine g_iload C dX12_isFixedWithout_121 6 rfl ?_
        refine g_putI C fi_X12_305 rfl (h60737).1 (h60737).2 dX12_isFixedWithout_123 ?_
        refine gqW (ks := [28]) (Iy60732.setI (rgOk.of rfl (by omega))) (EM.setI Iy60732 (by decide)) (fun Y60741 Iy60742 Xy60743 w60744 => ?_)
        have w60744 : (pI Y60741 a0 28).toInt = v12_5.toInt := w60744
        have W60745 := W60734.keep Iy60732 Xy60743 (by decide) (by decide) (by decide)
        have Xz60746 : EM [28, 29, 30, 35, 36, 37, 38, 41, 42] a0 P Y60741 := EM.tr ha0 Xz60736 (Xy60743.mono (by decide))
        have h60747 := Xy60743.at h60737
        refine g_iconst (v := 0) C dX12_isFixedWithout_126 (by decide) ?_
        refine g_istore (lv' := [(8, .int 0), (7, .int r60738), (0, .ref a0), (1, .int a1), (2, .int a2), (3, .int a3), (4, .int a4), (5, .int v12_5), (6, .int v12_6)]) C dX12_isFixedWithout_127 (by decide) rfl ?_
        refine g_lv (lv' := [(0, .ref a0), (5, .int v12_5), (7, .int r60738), (8, .int 0)]) [2, 7, 1, 0] rfl ?_
        exact J129 _ Y60741 v12_5 r60738 0 (Nat.lt_succ_self _) Iy60742 Xz60746 W60745 (by omega) (by omega) (by decide)
      · have h60721 : v12_7.toInt < v12_5.toInt := h60721
        refine g_aload_n C dX12_isFixedWithout_19 rfl 0 rfl ?_
        obtain ⟨b60748, e60749, h60750⟩ := I12.fld (h60717) 41 13 64 rfl
        refine g_getR C fi_X12_115 rfl e60749 (h60717).1 (h60717).2 dX12_isFixedWithout_20 ?_
        refine g_iload C dX12_isFixedWithout_23 7 rfl ?_
        refine g_aload_n C dX12_isFixedWithout_25 rfl 0 rfl ?_
        obtain ⟨b60751, e60752, h60753⟩ := I12.fld (h60717) 29 13 64 rfl
        refine g_getR C fi_X12_91 rfl e60752 (h60717).1 (h60717).2 dX12_isFixedWithout_26 ?_
        refine g_iload C dX12_isFixedWithout_29 7 rfl ?_
        refine g_iald (j := (v12_7.toInt.toNat)) C h60753.1 h60753.2.1 (ix_in h60753.2.2 (by omega)) dX12_isFixedWithout_31 ?_
        refine g_iast (j := (v12_7.toInt.toNat)) C h60750.1 h60750.2.1 (ix_in h60750.2.2 (by omega)) dX12_isFixedWithout_32 ?_
        refine gqW (ks := [41]) (I12.setA e60749 h60750 (by decide) (arOk.none rfl)) (EM.setA I12 e60749 rfl (by decide)) (fun Y60754 Iy60755 Xy60756 w60757 => ?_)
        have w60757 : (pI Y60754 b60748 (v12_7.toInt.toNat)).toInt = (pI P12 b60751 (v12_7.toInt.toNat)).toInt := w60757
        have W60758 := W12.keep I12 Xy60756 (by decide) (by decide) (by decide)
        have Xz60759 : EM [28, 29, 30, 35, 36, 37, 38, 41, 42] a0 P Y60754 := EM.tr ha0 X12 (Xy60756.mono (by decide))
        have e60760 := Xy60756.ref h60717 (by decide) e60749
        have h60761 := Xy60756.at h60717
        have h60762 := Xy60756.ar h60750
        refine g_aload_n C dX12_isFixedWithout_33 rfl 0 rfl ?_
        obtain ⟨b60763, e60764, h60765⟩ := Iy60755.fld (h60761) 42 13 64 rfl
        refine g_getR C fi_X12_118 rfl e60764 (h60761).1 (h60761).2 dX12_isFixedWithout_34 ?_
        refine g_iload C dX12_isFixedWithout_37 7 rfl ?_
        refine g_aload_n C dX12_isFixedWithout_39 rfl 0 rfl ?_
        obtain ⟨b60766, e60767, h60768⟩ := Iy60755.fld (h60761) 30 13 64 rfl
        refine g_getR C fi_X12_94 rfl e60767 (h60761).1 (h60761).2 dX12_isFixedWithout_40 ?_
        refine g_iload C dX12_isFixedWithout_43 7 rfl ?_
        refine g_iald (j := (v12_7.toInt.toNat)) C h60768.1 h60768.2.1 (ix_in h60768.2.2 (by omega)) dX12_isFixedWithout_45 ?_
        refine g_iast (j := (v12_7.toInt.toNat)) C h60765.1 h60765.2.1 (ix_in h60765.2.2 (by omega)) dX12_isFixedWithout_46 ?_
        refine gqW (ks := [42]) (Iy60755.setA e60764 h60765 (by decide) (arOk.none rfl)) (EM.setA Iy60755 e60764 rfl (by decide)) (fun Y60769 Iy60770 Xy60771 w60772 => ?_)
        have w60772 : (pI Y60769 b60763 (v12_7.toInt.toNat)).toInt = (pI Y60754 b60766 (v12_7.toInt.toNat)).toInt := w60772
        have q60773 := Xy60771.keepA e60760 (by decide) rfl (v12_7.toInt.toNat)
        have W60774 := W60758.keep Iy60755 Xy60771 (by decide) (by decide) (by decide)
        have Xz60775 : EM [28, 29, 30, 35, 36, 37, 38, 41, 42] a0 P Y60769 := EM.tr ha0 Xz60759 (Xy60771.mono (by decide))
        have e60776 := Xy60771.ref h60761 (by decide) e60760
        have e60777 := Xy60771.ref h60761 (by decide) e60764
        have h60778 := Xy60771.at h60761
        have h60779 := Xy60771.ar h60762
        have h60780 := Xy60771.ar h60765
        refine g_iload C dX12_isFixedWithout_47 7 rfl ?_
        refine g_iload_n C dX12_isFixedWithout_49 rfl 2 rfl ?_
        have u60782 := ti_rng a2
        refine b_icmp_eq C 97 dX12_isFixedWithout_50 (by decide) (fun h60781 => ?_) (fun h60781 => ?_)
        · have h60781 : v12_7.toInt = a2.toInt := congrArg Int32.toInt h60781
          exact J97 Y60769 v12_6 Iy60770 Xz60775 W60774 (by omega) (by omega) (by omega) (by show v12_6.toInt ≤ v12_7.toInt + 1; omega)
        · have h60781 : v12_7.toInt ≠ a2.toInt := ti_ne h60781
          refine g_iload C dX12_isFixedWithout_53 7 rfl ?_
          refine g_iload_n C dX12_isFixedWithout_55 rfl 3 rfl ?_
          have u60784 := ti_rng a3
          refine b_icmp_eq C 97 dX12_isFixedWithout_56 (by decide) (fun h60783 => ?_) (fun h60783 => ?_)
          · have h60783 : v12_7.toInt = a3.toInt := congrArg Int32.toInt h60783
            exact J97 Y60769 v12_6 Iy60770 Xz60775 W60774 (by omega) (by omega) (by omega) (by show v12_6.toInt ≤ v12_7.toInt + 1; omega)
          · have h60783 : v12_7.toInt ≠ a3.toInt := ti_ne h60783
            refine g_iload C dX12_isFixedWithout_59 7 rfl ?_
            refine g_iload C dX12_isFixedWithout_61 4 rfl ?_
            have u60786 := ti_rng a4
            refine b_icmp_eq C 97 dX12_isFixedWithout_63 (by decide) (fun h60785 => ?_) (fun h60785 => ?_)
            · have h60785 : v12_7.toInt = a4.toInt := congrArg Int32.toInt h60785
              exact J97 Y60769 v12_6 Iy60770 Xz60775 W60774 (by omega) (by omega) (by omega) (by show v12_6.toInt ≤ v12_7.toInt + 1; omega)
            · have h60785 : v12_7.toInt ≠ a4.toInt := ti_ne h60785
              refine g_aload_n C dX12_isFixedWithout_66 rfl 0 rfl ?_
              obtain ⟨b60787, e60788, h60789⟩ := Iy60770.fld (h60778) 29 13 64 rfl
              refine g_getR C fi_X12_91 rfl e60788 (h60778).1 (h60778).2 dX12_isFixedWithout_67 ?_
              refine g_iload C dX12_isFixedWithout_70 6 rfl ?_
              refine g_aload_n C dX12_isFixedWithout_72 rfl 0 rfl ?_
              refine g_getR C fi_X12_91 rfl e60788 (h60778).1 (h60778).2 dX12_isFixedWithout_73 ?_
              refine g_iload C dX12_isFixedWithout_76 7 rfl ?_
              refine g_iald (j := (v12_7.toInt.toNat)) C h60789.1 h60789.2.1 (ix_in h60789.2.2 (by omega)) dX12_isFixedWithout_78 ?_
              refine g_iast (j := (v12_6.toInt.toNat)) C h60789.1 h60789.2.1 (ix_in h60789.2.2 (by omega)) dX12_isFixedWithout_79 ?_
              refine gqW (ks := [29]) (Iy60770.setA e60788 h60789 (by decide) (arOk.none rfl)) (EM.setA Iy60770 e60788 rfl (by decide)) (fun Y60790 Iy60791 Xy60792 w60793 => ?_)
              have w60793 : (pI Y60790 b60787 (v12_6.toInt.toNat)).toInt = (pI Y60769 b60787 (v12_7.toInt.toNat)).toInt := w60793
              have q60794 := Xy60792.keepA e60776 (by decide) rfl (v12_7.toInt.toNat)
              have q60795 := Xy60792.keepA e60777 (by decide) rfl (v12_7.toInt.toNat)
              have W60796 := W60774.keep Iy60770 Xy60792 (by decide) (by decide) (by decide)
              have Xz60797 : EM [28, 29, 30, 35, 36, 37, 38, 41, 42] a0 P Y60790 := EM.tr ha0 Xz60775 (Xy60792.mono (by decide))
              have e60798 := Xy60792.ref h60778 (by decide) e60776
              have e60799 := Xy60792.ref h60778 (by decide) e60777
              have e60800 := Xy60792.ref h60778 (by decide) e60788
              have h60801 := Xy60792.at h60778
              have h60802 := Xy60792.ar h60779
              have h60803 := Xy60792.ar h60780
              have h60804 := Xy60792.ar h60789
              refine g_aload_n C dX12_isFixedWithout_80 rfl 0 rfl ?_
              obtain ⟨b60805, e60806, h60807⟩ := Iy60791.fld (h60801) 30 13 64 rfl
              refine g_getR C fi_X12_94 rfl e60806 (h60801).1 (h60801).2 dX12_isFixedWithout_81 ?_
              refine g_iload C dX12_isFixedWithout_84 6 rfl ?_
              refine g_aload_n C dX12_isFixedWithout_86 rfl 0 rfl ?_
              refine g_getR C fi_X12_94 rfl e60806 (h60801).1 (h60801).2 dX12_isFixedWithout_87 ?_
              refine g_iload C dX12_isFixedWithout_90 7 rfl ?_
              refine g_iald (j := (v12_7.toInt.toNat)) C h60807.1 h60807.2.1 (ix_in h60807.2.2 (by omega)) dX12_isFixedWithout_92 ?_
              refine g_iast (j := (v12_6.toInt.toNat)) C h60807.1 h60807.2.1 (ix_in h60807.2.2 (by omega)) dX12_isFixedWithout_93 ?_
              refine gqW (ks := [30]) (Iy60791.setA e60806 h60807 (by decide) (arOk.none rfl)) (EM.setA Iy60791 e60806 rfl (by decide)) (fun Y60808 Iy60809 Xy60810 w60811 => ?_)
              have w60811 : (pI Y60808 b60805 (v12_6.toInt.toNat)).toInt = (pI Y60790 b60805 (v12_7.toInt.toNat)).toInt := w60811
              have q60812 := Xy60810.keepA e60798 (by decide) rfl (v12_7.toInt.toNat)
              have q60813 := Xy60810.keepA e60799 (by decide) rfl (v12_7.toInt.toNat)
              have q60814 := Xy60810.keepA e60800 (by decide) rfl (v12_6.toInt.toNat)
              have W60815 := W60796.keep Iy60791 Xy60810 (by decide) (by decide) (by decide)
              have Xz60816 : EM [28, 29, 30, 35, 36, 37, 38, 41, 42] a0 P Y60808 := EM.tr ha0 Xz60797 (Xy60810.mono (by decide))
              have e60817 := Xy60810.ref h60801 (by decide) e60798
              have e60818 := Xy60810.ref h60801 (by decide) e60799
              have e60819 := Xy60810.ref h60801 (by decide) e60800
              have e60820 := Xy60810.ref h60801 (by decide) e60806
              have h60821 := Xy60810.at h60801
              have h60822 := Xy60810.ar h60802
              have h60823 := Xy60810.ar h60803
              have h60824 := Xy60810.ar h60804
              have h60825 := Xy60810.ar h60807
              refine s_iinc (lv0 := [(0, .ref a0), (1, .int a1), (2, .int a2), (3, .int a3), (4, .int a4), (5, .int v12_5), (7, .int v12_7)]) (m := 1) C dX12_isFixedWithout_94 6 rfl (by decide) rfl (by decide) (by omega) (fun z60826 h60827 => ?_)
              have h60827 : z60826.toInt = v12_6.toInt + 1 := h60827
              refine g_lv (lv' := [(0, .ref a0), (1, .int a1), (2, .int a2), (3, .int a3), (4, .int a4), (5, .int v12_5), (6, .int z60826), (7, .int v12_7)]) [1, 2, 3, 4, 5, 6, 0, 7] rfl ?_
              exact J97 Y60808 z60826 Iy60809 Xz60816 W60815 (by omega) (by omega) (by omega) (by show z60826.toInt ≤ v12_7.toInt + 1; omega)
  refine g_aload_n C dX12_isFixedWithout_0 rfl 0 rfl ?_
  refine g_getI C fi_X12_305 (by decide) (ha0).1 (ha0).2 dX12_isFixedWithout_1 ?_
  have h60828 := I.rg (ha0) 28 rfl
  refine g_topi (fun z60829 h60830 => ?_)
  have h60830 : z60829.toInt = (pI P a0 28).toInt := congrArg Int32.toInt h60830
  refine g_istore (lv' := [(5, .int z60829), (0, .ref a0), (1, .int a1), (2, .int a2), (3, .int a3), (4, .int a4)]) C dX12_isFixedWithout_4 (by decide) rfl ?_
  refine g_iconst (v := 0) C dX12_isFixedWithout_6 (by decide) ?_
  refine g_istore (lv' := [(6, .int 0), (5, .int z60829), (0, .ref a0), (1, .int a1), (2, .int a2), (3, .int a3), (4, .int a4)]) C dX12_isFixedWithout_7 (by decide) rfl ?_
  refine g_iconst (v := 0) C dX12_isFixedWithout_9 (by decide) ?_
  refine g_istore (lv' := [(7, .int 0), (6, .int 0), (5, .int z60829), (0, .ref a0), (1, .int a1), (2, .int a2), (3, .int a3), (4, .int a4)]) C dX12_isFixedWithout_10 (by decide) rfl ?_
  refine g_lv (lv' := [(0, .ref a0), (1, .int a1), (2, .int a2), (3, .int a3), (4, .int a4), (5, .int z60829), (6, .int 0), (7, .int 0)]) [3, 4, 5, 6, 7, 2, 1, 0] rfl ?_
  exact J12 _ P z60829 0 0 (Nat.lt_succ_self _) I EM.rf hW (by omega) (by decide) (by decide) (by show 0 ≤ 0; omega)
theorem dX12_guard_97 : decode cX12_guard 97 = .ok (.ifCond .eq 8, 3) := by decide +kernel
theorem dX12_guard_100 : decode cX12_guard 100 = .ok (.iload 5, 2) := by decide +kernel
theorem dX12_guard_102 : decode cX12_guard 102 = .ok (.goto 4, 3) := by decide +kernel
theorem dX12_guard_105 : decode cX12_guard 105 = .ok (.iconst 1, 1) := by decide +kernel
theorem dX12_guard_106 : decode cX12_guard 106 = .ok (.istore 5, 2) := by decide +kernel
theorem dX12_guard_108 : decode cX12_guard 108 = .ok (.iinc 6 1, 3) := by decide +kernel
theorem dX12_guard_111 : decode cX12_guard 111 = .ok (.goto (-41), 3) := by decide +kernel
theorem dX12_guard_114 : decode cX12_guard 114 = .ok (.aload_n 0, 1) := by decide +kernel
theorem dX12_guard_115 : decode cX12_guard 115 = .ok (.getfield 60, 3) := by decide +kernel
theorem dX12_guard_118 : decode cX12_guard 118 = .ok (.iload_n 2, 1) := by decide +kernel
theorem dX12_guard_119 : decode cX12_guard 119 = .ok (.iaload, 1) := by decide +kernel
theorem dX12_guard_120 : decode cX12_guard 120 = .ok (.istore 6, 2) := by decide +kernel
theorem dX12_guard_122 : decode cX12_guard 122 = .ok (.iload 6, 2) := by decide +kernel
theorem dX12_guard_124 : decode cX12_guard 124 = .ok (.aload_n 0, 1) := by decide +kernel
theorem dX12_guard_125 : decode cX12_guard 125 = .ok (.getfield 305, 3) := by decide +kernel
theorem dX12_guard_128 : decode cX12_guard 128 = .ok (.if_icmp .ge 65, 3) := by decide +kernel
theorem dX12_guard_131 : decode cX12_guard 131 = .ok (.iload 5, 2) := by decide +kernel
theorem dX12_guard_133 : decode cX12_guard 133 = .ok (.iconst 2, 1) := by decide +kernel
theorem dX12_guard_134 : decode cX12_guard 134 = .ok (.if_icmp .le 59, 3) := by decide +kernel
theorem dX12_guard_137 : decode cX12_guard 137 = .ok (.iload 6, 2) := by decide +kernel
theorem dX12_guard_139 : decode cX12_guard 139 = .ok (.iconst 1, 1) := by decide +kernel
theorem dX12_guard_140 : decode cX12_guard 140 = .ok (.iadd, 1) := by decide +kernel
theorem dX12_guard_141 : decode cX12_guard 141 = .ok (.istore 7, 2) := by decide +kernel
theorem dX12_guard_143 : decode cX12_guard 143 = .ok (.iload 7, 2) := by decide +kernel
theorem dX12_guard_145 : decode cX12_guard 145 = .ok (.aload_n 0, 1) := by decide +kernel
theorem dX12_guard_146 : decode cX12_guard 146 = .ok (.getfield 305, 3) := by decide +kernel
theorem dX12_guard_149 : decode cX12_guard 149 = .ok (.if_icmp .ge 38, 3) := by decide +kernel
theorem dX12_guard_152 : decode cX12_guard 152 = .ok (.iload 5, 2) := by decide +kernel
theorem dX12_guard_154 : decode cX12_guard 154 = .ok (.iconst 2, 1) := by decide +kernel
theorem dX12_guard_155 : decode cX12_guard 155 = .ok (.if_icmp .le 32, 3) := by decide +kernel
theorem dX12_guard_158 : decode cX12_guard 158 = .ok (.aload_n 0, 1) := by decide +kernel
theorem dX12_guard_159 : decode cX12_guard 159 = .ok (.iload 4, 2) := by decide +kernel
theorem dX12_guard_161 : decode cX12_guard 161 = .ok (.iload 6, 2) := by decide +kernel
theorem dX12_guard_163 : decode cX12_guard 163 = .ok (.iload 7, 2) := by decide +kernel
theorem dX12_guard_165 : decode cX12_guard 165 = .ok (.iload 7, 2) := by decide +kernel
theorem dX12_guard_167 : decode cX12_guard 167 = .ok (.invokevirtual 367, 3) := by decide +kernel
theorem dX12_guard_170 : decode cX12_guard 170 = .ok (.ifCond .eq 8, 3) := by decide +kernel
theorem dX12_guard_173 : decode cX12_guard 173 = .ok (.iload 5, 2) := by decide +kernel
theorem dX12_guard_175 : decode cX12_guard 175 = .ok (.goto 4, 3) := by decide +kernel
theorem dX12_guard_178 : decode cX12_guard 178 = .ok (.iconst 2, 1) := by decide +kernel
theorem dX12_guard_179 : decode cX12_guard 179 = .ok (.istore 5, 2) := by decide +kernel
theorem dX12_guard_181 : decode cX12_guard 181 = .ok (.iinc 7 1, 3) := by decide +kernel
theorem dX12_guard_184 : decode cX12_guard 184 = .ok (.goto (-41), 3) := by decide +kernel
theorem dX12_guard_187 : decode cX12_guard 187 = .ok (.iinc 6 1, 3) := by decide +kernel
theorem dX12_guard_190 : decode cX12_guard 190 = .ok (.goto (-68), 3) := by decide +kernel
theorem dX12_guard_193 : decode cX12_guard 193 = .ok (.aload_n 0, 1) := by decide +kernel
theorem dX12_guard_194 : decode cX12_guard 194 = .ok (.getfield 60, 3) := by decide +kernel
theorem dX12_guard_197 : decode cX12_guard 197 = .ok (.iload_n 2, 1) := by decide +kernel
theorem dX12_guard_198 : decode cX12_guard 198 = .ok (.iaload, 1) := by decide +kernel
theorem dX12_guard_199 : decode cX12_guard 199 = .ok (.istore 6, 2) := by decide +kernel
theorem dX12_guard_201 : decode cX12_guard 201 = .ok (.iload 6, 2) := by decide +kernel
theorem dX12_guard_203 : decode cX12_guard 203 = .ok (.aload_n 0, 1) := by decide +kernel
theorem dX12_guard_204 : decode cX12_guard 204 = .ok (.getfield 305, 3) := by decide +kernel
theorem dX12_guard_207 : decode cX12_guard 207 = .ok (.if_icmp .ge 92, 3) := by decide +kernel
theorem dX12_guard_210 : decode cX12_guard 210 = .ok (.iload 5, 2) := by decide +kernel
theorem dX12_guard_212 : decode cX12_guard 212 = .ok (.iconst 3, 1) := by decide +kernel
theorem dX12_guard_213 : decode cX12_guard 213 = .ok (.if_icmp .le 86, 3) := by decide +kernel
theorem dX12_guard_216 : decode cX12_guard 216 = .ok (.iload 6, 2) := by decide +kernel
theorem dX12_guard_218 : decode cX12_guard 218 = .ok (.iconst 1, 1) := by decide +kernel
theorem dX12_guard_219 : decode cX12_guard 219 = .ok (.iadd, 1) := by decide +kernel
theorem dX12_guard_220 : decode cX12_guard 220 = .ok (.istore 7, 2) := by decide +kernel
theorem dX12_guard_222 : decode cX12_guard 222 = .ok (.iload 7, 2) := by decide +kernel
theorem dX12_guard_224 : decode cX12_guard 224 = .ok (.aload_n 0, 1) := by decide +kernel
theorem dX12_guard_225 : decode cX12_guard 225 = .ok (.getfield 305, 3) := by decide +kernel
theorem dX12_guard_228 : decode cX12_guard 228 = .ok (.if_icmp .ge 65, 3) := by decide +kernel
theorem dX12_guard_231 : decode cX12_guard 231 = .ok (.iload 5, 2) := by decide +kernel
theorem dX12_guard_233 : decode cX12_guard 233 = .ok (.iconst 3, 1) := by decide +kernel
theorem dX12_guard_234 : decode cX12_guard 234 = .ok (.if_icmp .le 59, 3) := by decide +kernel
theorem dX12_guard_237 : decode cX12_guard 237 = .ok (.iload 7, 2) := by decide +kernel
theorem dX12_guard_239 : decode cX12_guard 239 = .ok (.iconst 1, 1) := by decide +kernel
theorem dX12_guard_240 : decode cX12_guard 240 = .ok (.iadd, 1) := by decide +kernel
theorem dX12_guard_241 : decode cX12_guard 241 = .ok (.istore 8, 2) := by decide +kernel
theorem dX12_guard_243 : decode cX12_guard 243 = .ok (.iload 8, 2) := by decide +kernel
theorem dX12_guard_245 : decode cX12_guard 245 = .ok (.aload_n 0, 1) := by decide +kernel
theorem dX12_guard_246 : decode cX12_guard 246 = .ok (.getfield 305, 3) := by decide +kernel
theorem dX12_guard_249 : decode cX12_guard 249 = .ok (.if_icmp .ge 38, 3) := by decide +kernel
theorem dX12_guard_252 : decode cX12_guard 252 = .ok (.iload 5, 2) := by decide +kernel
theorem dX12_guard_254 : decode cX12_guard 254 = .ok (.iconst 3, 1) := by decide +kernel
theorem dX12_guard_255 : decode cX12_guard 255 = .ok (.if_icmp .le 32, 3) := by decide +kernel
theorem dX12_guard_258 : decode cX12_guard 258 = .ok (.aload_n 0, 1) := by decide +kernel
theorem dX12_guard_259 : decode cX12_guard 259 = .ok (.iload 4, 2) := by decide +kernel
theorem dX12_guard_261 : decode cX12_guard 261 = .ok (.iload 6, 2) := by decide +kernel
theorem dX12_guard_263 : decode cX12_guard 263 = .ok (.iload 7, 2) := by decide +kernel
theorem dX12_guard_265 : decode cX12_guard 265 = .ok (.iload 8, 2) := by decide +kernel
theorem dX12_guard_267 : decode cX12_guard 267 = .ok (.invokevirtual 367, 3) := by decide +kernel
theorem dX12_guard_270 : decode cX12_guard 270 = .ok (.ifCond .eq 8, 3) := by decide +kernel
theorem dX12_guard_273 : decode cX12_guard 273 = .ok (.iload 5, 2) := by decide +kernel
theorem dX12_guard_275 : decode cX12_guard 275 = .ok (.goto 4, 3) := by decide +kernel
theorem dX12_guard_278 : decode cX12_guard 278 = .ok (.iconst 3, 1) := by decide +kernel
theorem dX12_guard_279 : decode cX12_guard 279 = .ok (.istore 5, 2) := by decide +kernel
theorem dX12_guard_281 : decode cX12_guard 281 = .ok (.iinc 8 1, 3) := by decide +kernel
theorem dX12_guard_284 : decode cX12_guard 284 = .ok (.goto (-41), 3) := by decide +kernel
theorem dX12_guard_287 : decode cX12_guard 287 = .ok (.iinc 7 1, 3) := by decide +kernel
theorem dX12_guard_290 : decode cX12_guard 290 = .ok (.goto (-68), 3) := by decide +kernel
theorem dX12_guard_293 : decode cX12_guard 293 = .ok (.iinc 6 1, 3) := by decide +kernel
theorem dX12_guard_296 : decode cX12_guard 296 = .ok (.goto (-95), 3) := by decide +kernel
theorem dX12_guard_299 : decode cX12_guard 299 = .ok (.iload 5, 2) := by decide +kernel
theorem dX12_guard_301 : decode cX12_guard 301 = .ok (.iconst 3, 1) := by decide +kernel
theorem dX12_guard_302 : decode cX12_guard 302 = .ok (.if_icmp .le 7, 3) := by decide +kernel
theorem dX12_guard_305 : decode cX12_guard 305 = .ok (.iconst (-1), 1) := by decide +kernel
theorem dX12_guard_306 : decode cX12_guard 306 = .ok (.goto 5, 3) := by decide +kernel
theorem dX12_guard_309 : decode cX12_guard 309 = .ok (.iload 5, 2) := by decide +kernel
theorem dX12_guard_311 : decode cX12_guard 311 = .ok (.ireturn, 1) := by decide +kernel
set_option maxHeartbeats 4000000 in
set_option maxRecDepth 100000 in
theorem s_X12_guard {P : PP} {a0 : Nat} {a1 : Int32} {a2 : Int32} {a3 : Int32} {a4 : Int32} (I : IM P a0) (hW : MW P a0) : CtrI yX12_guard cX12_guard 9 (some Jvm.ClassFile.FieldType.int) ({ frames := 7, cells := 0, slots := 0, locals := 448 } : Room) 0 0 P [.ref a0, .int a1, .int a2, .int a3, .int a4] (fun r P2 => IM P2 a0 ∧ EM [0, 28, 29, 30, 31, 32, 35, 36, 37, 38, 41, 42] a0 P P2 ∧ MW P2 a0 ∧ (-1 ≤ r.toInt ∧ r.toInt ≤ 3)) := by
  refine enI (lv := [(0, .ref a0), (1, .int a1), (2, .int a2), (3, .int a3), (4, .int a4)]) (by decide) (Nat.le_of_ble_eq_true rfl) rfl (fun E D cy C Ci0 ret => ?_)
  have ha0 := I.2.1
  have J299 : ∀ (P299 : PP) (v299_5 : Int32), (IM P299 a0) → (EM [0, 28, 29, 30, 31, 32, 35, 36, 37, 38, 41, 42] a0 P P299) → (MW P299 a0) → (1 ≤ v299_5.toInt ∧ v299_5.toInt ≤ 4) → (0 ≤ (pI P299 a0 0).toInt ∧ (pI P299 a0 0).toInt ≤ 0) → (∀ b, pR P299 a0 10 = some b → 1 ≤ (pI P299 b (a2.toInt.toNat)).toInt ∧ (pI P299 b (a2.toInt.toNat)).toInt ≤ 16) → G E ({ frames := 7, cells := 0, slots := 0, locals := 448 } : Room) D cy 9 P299 0 0 299 [(5, .int v299_5)] [] := by
    intro P299 v299_5 I299 X299 W299 hv299_5 hq299_0 hq299_1
    have h63285 := X299.at ha0
    obtain ⟨b63286, e63287, h63288⟩ := I299.fld (h63285) 10 13 2 rfl
    have hq299_1 := hq299_1 b63286 e63287
    refine g_iload C dX12_guard_299 0 rfl ?_
    refine g_iconst (v := 3) C dX12_guard_301 (by decide) ?_
    refine b_icmp_le C 309 dX12_guard_302 (by decide) (fun h63289 => ?_) (fun h63289 => ?_)
    · have h63289 : v299_5.toInt ≤ 3 := h63289
      refine g_iload C dX12_guard_309 0 rfl ?_
      exact ret _ _ _ _ _ _ dX12_guard_311 rfl (by decide) (by decide) ⟨I299, X299, W299, (by omega)⟩
    · have h63289 : 3 < v299_5.toInt := h63289
      refine g_iconst (v := (-1)) C dX12_guard_305 (by decide) ?_
      refine g_goto C 311 dX12_guard_306 (by decide) ?_
      exact ret _ _ _ _ _ _ dX12_guard_311 rfl (by decide) (by decide) ⟨I299, X299, W299, (by decide)⟩
  have J201 : ∀ (n201 : Nat) (P201 : PP) (v201_5 : Int32) (v201_6 : Int32), (64 - v201_6.toInt).toNat < n201 → (IM P201 a0) → (EM [0, 28, 29, 30, 31, 32, 35, 36, 37, 38, 41, 42] a0 P P201) → (MW P201 a0) → (0 ≤ a4.toInt ∧ a4.toInt ≤ 19) → (1 ≤ v201_5.toInt ∧ v201_5.toInt ≤ 4) → (0 ≤ v201_6.toInt ∧ v201_6.toInt ≤ 64) → (0 ≤ (pI P201 a0 0).toInt ∧ (pI P201 a0 0).toInt ≤ 0) → (∀ b, pR P201 a0 10 = some b → 1 ≤ (pI P201 b (a2.toInt.toNat)).toInt ∧ (pI P201 b (a2.toInt.toNat)).toInt ≤ 16) → G E ({ frames := 7, cells := 0, slots := 0, locals := 448 } : Room) D cy 9 P201 0 0 201 [(0, .ref a0), (4, .int a4), (5, .int v201_5), (6, .int v201_6)] [] := by
    intro n201
    induction n201 with
    | zero => intro P201 v201_5 v201_6 hm201 I201 X201 W201 hv201_4 hv201_5 hv201_6 hq201_0 hq201_1; omega
    | succ n201 ih201 =>
      intro P201 v201_5 v201_6 hm201 I201 X201 W201 hv201_4 hv201_5 hv201_6 hq201_0 hq201_1
      have h63290 := X201.at ha0
      obtain ⟨b63291, e63292, h63293⟩ := I201.fld (h63290) 10 13 2 rfl
      have hq201_1 := hq201_1 b63291 e63292
      have J293 : ∀ (P293 : PP) (v293_5 : Int32), (IM P293 a0) → (EM [0, 28, 29, 30, 31, 32, 35, 36, 37, 38, 41, 42] a0 P P293) → (MW P293 a0) → (0 ≤ a4.toInt ∧ a4.toInt ≤ 19) → (3 ≤ v293_5.toInt ∧ v293_5.toInt ≤ 4) → (0 ≤ v201_6.toInt ∧ v201_6.toInt ≤ 63) → (0 ≤ (pI P293 a0 0).toInt ∧ (pI P293 a0 0).toInt ≤ 0) → (∀ b, pR P293 a0 10 = some b → 1 ≤ (pI P293 b (a2.toInt.toNat)).toInt ∧ (pI P293 b (a2.toInt.toNat)).toInt ≤ 16) → G E ({ frames := 7, cells := 0, slots := 0, locals := 448 } : Room) D cy 9 P293 0 0 293 [(0, .ref a0), (4, .int a4), (5, .int v293_5), (6, .int v201_6)] [] := by
        intro P293 v293_5 I293 X293 W293 hv293_4 hv293_5 hv293_6 hq293_0 hq293_1
        have h63294 := X293.at ha0
        obtain ⟨b63295, e63296, h63297⟩ := I293.fld (h63294) 10 13 2 rfl
        have hq293_1 := hq293_1 b63295 e63296
        refine s_iinc (lv0 := [(0, .ref a0), (4, .int a4), (5, .int v293_5)]) (m := 1) C dX12_guard_293 3 rfl (by decide) rfl (by decide) (by omega) (fun z63298 h63299 => ?_)
        have h63299 : z63298.toInt = v201_6.toInt + 1 := h63299
        refine g_goto C 201 dX12_guard_296 (by decide) ?_
        refine g_lv (lv' := [(0, .ref a0), (4, .int a4), (5, .int v293_5), (6, .int z63298)]) [1, 2, 3, 0] rfl ?_
        exact ih201 P293 v293_5 z63298 (by omega) I293 X293 W293 (by omega) (by omega) (by omega) (by omega) (fun b9 e9 => by rw [e63296] at e9; cases e9; omega)
      have J222 : ∀ (n222 : Nat) (P222 : PP) (v222_5 : Int32) (v222_7 : Int32), (64 - v222_7.toInt).toNat < n222 → (IM P222 a0) → (EM [0, 28, 29, 30, 31, 32, 35, 36, 37, 38, 41, 42] a0 P P222) → (MW P222 a0) → (0 ≤ a4.toInt ∧ a4.toInt ≤ 19) → (3 ≤ v222_5.toInt ∧ v222_5.toInt ≤ 4) → (0 ≤ v201_6.toInt ∧ v201_6.toInt ≤ 63) → (1 ≤ v222_7.toInt ∧ v222_7.toInt ≤ 64) → (0 ≤ (pI P222 a0 0).toInt ∧ (pI P222 a0 0).toInt ≤ 0) → (∀ b, pR P222 a0 10 = some b → 1 ≤ (pI P222 b (a2.toInt.toNat)).toInt ∧ (pI P222 b (a2.toInt.toNat)).toInt ≤ 16) → G E ({ frames := 7, cells := 0, slots := 0, locals := 448 } : Room) D cy 9 P222 0 0 222 [(0, .ref a0), (4, .int a4), (5, .int v222_5), (6, .int v201_6), (7, .int v222_7)] [] := by
        intro n222
        induction n222 with
        | zero => intro P222 v222_5 v222_7 hm222 I222 X222 W222 hv222_4 hv222_5 hv222_6 hv222_7 hq222_0 hq222_1; omega
        | succ n222 ih222 =>
          intro P222 v222_5 v222_7 hm222 I222 X222 W222 hv222_4 hv222_5 hv222_6 hv222_7 hq222_0 hq222_1
          have h63300 := X222.at ha0
          obtain ⟨b63301, e63302, h63303⟩ := I222.fld (h63300) 10 13 2 rfl
          have hq222_1 := hq222_1 b63301 e63302
          have J287 : ∀ (P287 : PP) (v287_5 : Int32), (IM P287 a0) → (EM [0, 28, 29, 30, 31, 32, 35, 36, 37, 38, 41, 42] a0 P P287) → (MW P287 a0) → (0 ≤ a4.toInt ∧ a4.toInt ≤ 19) → (3 ≤ v287_5.toInt ∧ v287_5.toInt ≤ 4) → (0 ≤ v201_6.toInt ∧ v201_6.toInt ≤ 63) → (1 ≤ v222_7.toInt ∧ v222_7.toInt ≤ 63) → (0 ≤ (pI P287 a0 0).toInt ∧ (pI P287 a0 0).toInt ≤ 0) → (∀ b, pR P287 a0 10 = some b → 1 ≤ (pI P287 b (a2.toInt.toNat)).toInt ∧ (pI P287 b (a2.toInt.toNat)).toInt ≤ 16) → G E ({ frames := 7, cells := 0, slots := 0, locals := 448 } : Room) D cy 9 P287 0 0 287 [(0, .ref a0), (4, .int a4), (5, .int v287_5), (6, .int v201_6), (7, .int v222_7)] [] := by
            intro P287 v287_5 I287 X287 W287 hv287_4 hv287_5 hv287_6 hv287_7 hq287_0 hq287_1
            have h63304 := X287.at ha0
            obtain ⟨b63305, e63306, h63307⟩ := I287.fld (h63304) 10 13 2 rfl
            have hq287_1 := hq287_1 b63305 e63306
            refine s_iinc (lv0 := [(0, .ref a0), (4, .int a4), (5, .int v287_5), (6, .int v201_6)]) (m := 1) C dX12_guard_287 4 rfl (by decide) rfl (by decide) (by omega) (fun z63308 h63309 => ?_)
            have h63309 : z63308.toInt = v222_7.toInt + 1 := h63309
            refine g_goto C 222 dX12_guard_290 (by decide) ?_
            refine g_lv (lv' := [(0, .ref a0), (4, .int a4), (5, .int v287_5), (6, .int v201_6), (7, .int z63308)]) [1, 2, 3, 4, 0] rfl ?_
            exact ih222 P287 v287_5 z63308 (by omega) I287 X287 W287 (by omega) (by omega) (by omega) (by omega) (by omega) (fun b9 e9 => by rw [e63306] at e9; cases e9; omega)
          have J243 : ∀ (n243 : Nat) (P243 : PP) (v243_5 : Int32) (v243_8 : Int32), (64 - v243_8.toInt).toNat < n243 → (IM P243 a0) → (EM [0, 28, 29, 30, 31, 32, 35, 36, 37, 38, 41, 42] a0 P P243) → (MW P243 a0) → (0 ≤ a4.toInt ∧ a4.toInt ≤ 19) → (3 ≤ v243_5.toInt ∧ v243_5.toInt ≤ 4) → (0 ≤ v201_6.toInt ∧ v201_6.toInt ≤ 63) → (1 ≤ v222_7.toInt ∧ v222_7.toInt ≤ 63) → (2 ≤ v243_8.toInt ∧ v243_8.toInt ≤ 64) → (0 ≤ (pI P243 a0 0).toInt ∧ (pI P243 a0 0).toInt ≤ 0) → (∀ b, pR P243 a0 10 = some b → 1 ≤ (pI P243 b (a2.toInt.toNat)).toInt ∧ (pI P243 b (a2.toInt.toNat)).toInt ≤ 16) → G E ({ frames := 7, cells := 0, slots := 0, locals := 448 } : Room) D cy 9 P243 0 0 243 [(0, .ref a0), (4, .int a4), (5, .int v243_5), (6, .int v201_6), (7, .int v222_7), (8, .int v243_8)] [] := by
            intro n243
            induction n243 with
            | zero => intro P243 v243_5 v243_8 hm243 I243 X243 W243 hv243_4 hv243_5 hv243_6 hv243_7 hv243_8 hq243_0 hq243_1; omega
            | succ n243 ih243 =>
              intro P243 v243_5 v243_8 hm243 I243 X243 W243 hv243_4 hv243_5 hv243_6 hv243_7 hv243_8 hq243_0 hq243_1
              have h63310 := X243.at ha0
              obtain ⟨b63311, e63312, h63313⟩ := I243.fld (h63310) 10 13 2 rfl
              have hq243_1 := hq243_1 b63311 e63312
              have J279 : ∀ (P279 : PP) (v279_s0 : Int32), (IM P279 a0) → (EM [0, 28, 29, 30, 31, 32, 35, 36, 37, 38, 41, 42] a0 P P279) → (MW P279 a0) → (0 ≤ a4.toInt ∧ a4.toInt ≤ 19) → (0 ≤ v201_6.toInt ∧ v201_6.toInt ≤ 63) → (1 ≤ v222_7.toInt ∧ v222_7.toInt ≤ 63) → (2 ≤ v243_8.toInt ∧ v243_8.toInt ≤ 63) → (3 ≤ v279_s0.toInt ∧ v279_s0.toInt ≤ 4) → (0 ≤ (pI P279 a0 0).toInt ∧ (pI P279 a0 0).toInt ≤ 0) → (∀ b, pR P279 a0 10 = some b → 1 ≤ (pI P279 b (a2.toInt.toNat)).toInt ∧ (pI P279 b (a2.toInt.toNat)).toInt ≤ 16) → G E ({ frames := 7, cells := 0, slots := 0, locals := 448 } : Room) D cy 9 P279 0 0 279 [(0, .ref a0), (4, .int a4), (6, .int v201_6), (7, .int v222_7), (8, .int v243_8)] [.int v279_s0] := by
                intro P279 v279_s0 I279 X279 W279 hv279_4 hv279_6 hv279_7 hv279_8 hv279_s0 hq279_0 hq279_1
                have h63314 := X279.at ha0
                obtain ⟨b63315, e63316, h63317⟩ := I279.fld (h63314) 10 13 2 rfl
                have hq279_1 := hq279_1 b63315 e63316
                refine g_istore (lv' := [(5, .int v279_s0), (0, .ref a0), (4, .int a4), (6, .int v201_6), (7, .int v222_7), (8, .int v243_8)]) C dX12_guard_279 (by decide) rfl ?_
                refine s_iinc (lv0 := [(5, .int v279_s0), (0, .ref a0), (4, .int a4), (6, .int v201_6), (7, .int v222_7)]) (m := 1) C dX12_guard_281 5 rfl (by decide) rfl (by decide) (by omega) (fun z63318 h63319 => ?_)
                have h63319 : z63318.toInt = v243_8.toInt + 1 := h63319
                refine g_goto C 243 dX12_guard_284 (by decide) ?_
                refine g_lv (lv' := [(0, .ref a0), (4, .int a4), (5, .int v279_s0), (6, .int v201_6), (7, .int v222_7), (8, .int z63318)]) [2, 3, 1, 4, 5, 0] rfl ?_
                exact ih243 P279 v279_s0 z63318 (by omega) I279 X279 W279 (by omega) (by omega) (by omega) (by omega) (by omega) (by omega) (fun b9 e9 => by rw [e63316] at e9; cases e9; omega)
              refine g_iload C dX12_guard_243 5 rfl ?_
              refine g_aload_n C dX12_guard_245 rfl 0 rfl ?_
              refine g_getI C fi_X12_305 (by decide) (h63310).1 (h63310).2 dX12_guard_246 ?_
              have h63320 := I243.rg (h63310) 28 rfl
              refine b_icmp_ge C 287 dX12_guard_249 (by decide) (fun h63321 => ?_) (fun h63321 => ?_)
              · have h63321 : (pI P243 a0 28).toInt ≤ v243_8.toInt := h63321
                refine g_lv (lv' := [(0, .ref a0), (4, .int a4), (5, .int v243_5), (6, .int v201_6), (7, .int v222_7)]) [0, 1, 2, 3, 4] rfl ?_
                exact J287 P243 v243_5 I243 X243 W243 (by omega) (by omega) (by omega) (by omega) (by omega) (fun b9 e9 => by rw [e63312] at e9; cases e9; omega)
              · have h63321 : v243_8.toInt < (pI P243 a0 28).toInt := h63321
                refine g_iload C dX12_guard_252 2 rfl ?_
                refine g_iconst (v := 3) C dX12_guard_254 (by decide) ?_
                refine b_icmp_le C 287 dX12_guard_255 (by decide) (fun h63322 => ?_) (fun h63322 => ?_)
                · have h63322 : v243_5.toInt ≤ 3 := h63322
                  refine g_lv (lv' := [(0, .ref a0), (4, .int a4), (5, .int v243_5), (6, .int v201_6), (7, .int v222_7)]) [0, 1, 2, 3, 4] rfl ?_
                  exact J287 P243 v243_5 I243 X243 W243 (by omega) (by omega) (by omega) (by omega) (by omega) (fun b9 e9 => by rw [e63312] at e9; cases e9; omega)
                · have h63322 : 3 < v243_5.toInt := h63322
                  refine g_aload_n C dX12_guard_258 rfl 0 rfl ?_
                  refine g_iload C dX12_guard_259 1 rfl ?_
                  refine g_iload C dX12_guard_261 3 rfl ?_
                  refine g_iload C dX12_guard_263 4 rfl ?_
                  refine g_iload C dX12_guard_265 5 rfl ?_
                  refine g_callVI (rest := []) C mv_X12_367 [.int a4, .int v201_6, .int v222_7, .int v243_8] (s_X12_isFixedWithout I243 (by omega) W243) (h63310).1 (h63310).2 rfl rfl (by decide) (Nat.le_of_ble_eq_true rfl) (by decide) dX12_guard_267 (fun r63323 Y63324 h63325 => ?_)
                  obtain ⟨Iy63326, Xy63327, W63328, h63325⟩ := h63325
                  have q63329 := Xy63327.keepF 0 (by decide)
                  have q63330 := Xy63327.keepA e63312 (by decide) rfl (a2.toInt.toNat)
                  have Xz63331 : EM [0, 28, 29, 30, 31, 32, 35, 36, 37, 38, 41, 42] a0 P Y63324 := EM.tr ha0 X243 (Xy63327.mono (by decide))
                  have e63332 := Xy63327.ref h63310 (by decide) e63312
                  have h63333 := Xy63327.at h63310
                  have h63334 := Xy63327.ar h63313
                  have h63325 : 0 ≤ r63323.toInt ∧ r63323.toInt ≤ 1 := h63325
                  refine b_if_eq C 278 dX12_guard_270 (by decide) (fun h63335 => ?_) (fun h63335 => ?_)
                  · have h63335 : r63323.toInt = 0 := congrArg Int32.toInt h63335
                    refine g_iconst (v := 3) C dX12_guard_278 (by decide) ?_
                    refine g_lv (lv' := [(0, .ref a0), (4, .int a4), (6, .int v201_6), (7, .int v222_7), (8, .int v243_8)]) [0, 1, 3, 4, 5] rfl ?_
                    exact J279 Y63324 3 Iy63326 Xz63331 W63328 (by omega) (by omega) (by omega) (by omega) (by decide) (by omega) (fun b9 e9 => by rw [e63332] at e9; cases e9; omega)
                  · have h63335 : r63323.toInt ≠ 0 := ti_ne h63335
                    refine g_iload C dX12_guard_273 2 rfl ?_
                    refine g_goto C 279 dX12_guard_275 (by decide) ?_
                    refine g_lv (lv' := [(0, .ref a0), (4, .int a4), (6, .int v201_6), (7, .int v222_7), (8, .int v243_8)]) [0, 1, 3, 4, 5] rfl ?_
                    exact J279 Y63324 v243_5 Iy63326 Xz63331 W63328 (by omega) (by omega) (by omega) (by omega) (by omega) (by omega) (fun b9 e9 => by rw [e63332] at e9; cases e9; omega)
          refine g_iload C dX12_guard_222 4 rfl ?_
          refine g_aload_n C dX12_guard_224 rfl 0 rfl ?_
          refine g_getI C fi_X12_305 (by decide) (h63300).1 (h63300).2 dX12_guard_225 ?_
          have h63336 := I222.rg (h63300) 28 rfl
          refine b_icmp_ge C 293 dX12_guard_228 (by decide) (fun h63337 => ?_) (fun h63337 => ?_)
          · have h63337 : (pI P222 a0 28).toInt ≤ v222_7.toInt := h63337
            refine g_lv (lv' := [(0, .ref a0), (4, .int a4), (5, .int v222_5), (6, .int v201_6)]) [0, 1, 2, 3] rfl ?_
            exact J293 P222 v222_5 I222 X222 W222 (by omega) (by omega) (by omega) (by omega) (fun b9 e9 => by rw [e63302] at e9; cases e9; omega)
          · have h63337 : v222_7.toInt < (pI P222 a0 28).toInt := h63337
            refine g_iload C dX12_guard_231 2 rfl ?_
            refine g_iconst (v := 3) C dX12_guard_233 (by decide) ?_
            refine b_icmp_le C 293 dX12_guard_234 (by decide) (fun h63338 => ?_) (fun h63338 => ?_)
            · have h63338 : v222_5.toInt ≤ 3 := h63338
              refine g_lv (lv' := [(0, .ref a0), (4, .int a4), (5, .int v222_5), (6, .int v201_6)]) [0, 1, 2, 3] rfl ?_
              exact J293 P222 v222_5 I222 X222 W222 (by omega) (by omega) (by omega) (by omega) (fun b9 e9 => by rw [e63302] at e9; cases e9; omega)
            · have h63338 : 3 < v222_5.toInt := h63338
              refine g_iload C dX12_guard_237 4 rfl ?_
              refine g_iconst (v := 1) C dX12_guard_239 (by decide) ?_
              refine s_iadd C dX12_guard_240 (by show -2147483648 ≤ v222_7.toInt + 1 ∧ v222_7.toInt + 1 ≤ 2147483647; omega) (fun z63339 h63340 => ?_)
              have h63340 : z63339.toInt = v222_7.toInt + 1 := h63340
              refine g_istore (lv' := [(8, .int z63339), (0, .ref a0), (4, .int a4), (5, .int v222_5), (6, .int v201_6), (7, .int v222_7)]) C dX12_guard_241 (by decide) rfl ?_
              refine g_lv (lv' := [(0, .ref a0), (4, .int a4), (5, .int v222_5), (6, .int v201_6), (7, .int v222_7), (8, .int z63339)]) [1, 2, 3, 4, 5, 0] rfl ?_
              exact J243 _ P222 v222_5 z63339 (Nat.lt_succ_self _) I222 X222 W222 (by omega) (by omega) (by omega) (by omega) (by omega) (by omega) (fun b9 e9 => by rw [e63302] at e9; cases e9; omega)
      refine g_iload C dX12_guard_201 3 rfl ?_
      refine g_aload_n C dX12_guard_203 rfl 0 rfl ?_
      refine g_getI C fi_X12_305 (by decide) (h63290).1 (h63290).2 dX12_guard_204 ?_
      have h63341 := I201.rg (h63290) 28 rfl
      refine b_icmp_ge C 299 dX12_guard_207 (by decide) (fun h63342 => ?_) (fun h63342 => ?_)
      · have h63342 : (pI P201 a0 28).toInt ≤ v201_6.toInt := h63342
        refine g_lv (lv' := [(5, .int v201_5)]) [2] rfl ?_
        exact J299 P201 v201_5 I201 X201 W201 (by omega) (by omega) (fun b9 e9 => by rw [e63292] at e9; cases e9; omega)
      · have h63342 : v201_6.toInt < (pI P201 a0 28).toInt := h63342
        refine g_iload C dX12_guard_210 2 rfl ?_
        refine g_iconst (v := 3) C dX12_guard_212 (by decide) ?_
        refine b_icmp_le C 299 dX12_guard_213 (by decide) (fun h63343 => ?_) (fun h63343 => ?_)
        · have h63343 : v201_5.toInt ≤ 3 := h63343
          refine g_lv (lv' := [(5, .int v201_5)]) [2] rfl ?_
          exact J299 P201 v201_5 I201 X201 W201 (by omega) (by omega) (fun b9 e9 => by rw [e63292] at e9; cases e9; omega)
        · have h63343 : 3 < v201_5.toInt := h63343
          refine g_iload C dX12_guard_216 3 rfl ?_
          refine g_iconst (v := 1) C dX12_guard_218 (by decide) ?_
          refine s_iadd C dX12_guard_219 (by show -2147483648 ≤ v201_6.toInt + 1 ∧ v201_6.toInt + 1 ≤ 2147483647; omega) (fun z63344 h63345 => ?_)
          have h63345 : z63344.toInt = v201_6.toInt + 1 := h63345
          refine g_istore (lv' := [(7, .int z63344), (0, .ref a0), (4, .int a4), (5, .int v201_5), (6, .int v201_6)]) C dX12_guard_220 (by decide) rfl ?_
          refine g_lv (lv' := [(0, .ref a0), (4, .int a4), (5, .int v201_5), (6, .int v201_6), (7, .int z63344)]) [1, 2, 3, 4, 0] rfl ?_
          exact J222 _ P201 v201_5 z63344 (Nat.lt_succ_self _) I201 X201 W201 (by omega) (by omega) (by omega) (by omega) (by omega) (fun b9 e9 => by rw [e63292] at e9; cases e9; omega)
  have J193 : ∀ (P193 : PP) (v193_5 : Int32), (IM P193 a0) → (EM [0, 28, 29, 30, 31, 32, 35, 36, 37, 38, 41, 42] a0 P P193) → (MW P193 a0) → (0 ≤ a2.toInt ∧ a2.toInt ≤ 1) → (0 ≤ a4.toInt ∧ a4.toInt ≤ 19) → (1 ≤ v193_5.toInt ∧ v193_5.toInt ≤ 4) → (0 ≤ (pI P193 a0 0).toInt ∧ (pI P193 a0 0).toInt ≤ 0) → (∀ b, pR P193 a0 10 = some b → 1 ≤ (pI P193 b (a2.toInt.toNat)).toInt ∧ (pI P193 b (a2.toInt.toNat)).toInt ≤ 16) → G E ({ frames := 7, cells := 0, slots := 0, locals := 448 } : Room) D cy 9 P193 0 0 193 [(0, .ref a0), (2, .int a2), (4, .int a4), (5, .int v193_5)] [] := by
    intro P193 v193_5 I193 X193 W193 hv193_2 hv193_4 hv193_5 hq193_0 hq193_1
    have h63346 := X193.at ha0
    obtain ⟨b63347, e63348, h63349⟩ := I193.fld (h63346) 10 13 2 rfl
    have hq193_1 := hq193_1 b63347 e63348
    refine g_aload_n C dX12_guard_193 rfl 0 rfl ?_
    obtain ⟨b63350, e63351, h63352⟩ := I193.fld (h63346) 15 13 3 rfl
    refine g_getR C fi_X12_60 rfl e63351 (h63346).1 (h63346).2 dX12_guard_194 ?_
    refine g_iload_n C dX12_guard_197 rfl 1 rfl ?_
    refine g_iald (j := (a2.toInt.toNat)) C h63352.1 h63352.2.1 (ix_in h63352.2.2 (by omega)) dX12_guard_198 ?_
    have h63353 := I193.arr e63351 rfl (a2.toInt.toNat)
    refine g_topi (fun z63354 h63355 => ?_)
    have h63355 : z63354.toInt = (pI P193 b63350 (a2.toInt.toNat)).toInt := congrArg Int32.toInt h63355
    refine g_istore (lv' := [(6, .int z63354), (0, .ref a0), (2, .int a2), (4, .int a4), (5, .int v193_5)]) C dX12_guard_199 (by decide) rfl ?_
    refine g_lv (lv' := [(0, .ref a0), (4, .int a4), (5, .int v193_5), (6, .int z63354)]) [1, 3, 4, 0] rfl ?_
    exact J201 _ P193 v193_5 z63354 (Nat.lt_succ_self _) I193 X193 W193 (by omega) (by omega) (by omega) (by omega) (fun b9 e9 => by rw [e63348] at e9; cases e9; omega)
  have J122 : ∀ (n122 : Nat) (P122 : PP) (v122_5 : Int32) (v122_6 : Int32), (64 - v122_6.toInt).toNat < n122 → (IM P122 a0) → (EM [0, 28, 29, 30, 31, 32, 35, 36, 37, 38, 41, 42] a0 P P122) → (MW P122 a0) → (0 ≤ a2.toInt ∧ a2.toInt ≤ 1) → (0 ≤ a4.toInt ∧ a4.toInt ≤ 19) → (1 ≤ v122_5.toInt ∧ v122_5.toInt ≤ 4) → (0 ≤ v122_6.toInt ∧ v122_6.toInt ≤ 64) → (0 ≤ (pI P122 a0 0).toInt ∧ (pI P122 a0 0).toInt ≤ 0) → (∀ b, pR P122 a0 10 = some b → 1 ≤ (pI P122 b (a2.toInt.toNat)).toInt ∧ (pI P122 b (a2.toInt.toNat)).toInt ≤ 16) → G E ({ frames := 7, cells := 0, slots := 0, locals := 448 } : Room) D cy 9 P122 0 0 122 [(0, .ref a0), (2, .int a2), (4, .int a4), (5, .int v122_5), (6, .int v122_6)] [] := by
    intro n122
    induction n122 with
    | zero => intro P122 v122_5 v122_6 hm122 I122 X122 W122 hv122_2 hv122_4 hv122_5 hv122_6 hq122_0 hq122_1; omega
    | succ n122 ih122 =>
      intro P122 v122_5 v122_6 hm122 I122 X122 W122 hv122_2 hv122_4 hv122_5 hv122_6 hq122_0 hq122_1
      have h63356 := X122.at ha0
      obtain ⟨b63357, e63358, h63359⟩ := I122.fld (h63356) 10 13 2 rfl
      have hq122_1 := hq122_1 b63357 e63358
      have J187 : ∀ (P187 : PP) (v187_5 : Int32), (IM P187 a0) → (EM [0, 28, 29, 30, 31, 32, 35, 36, 37, 38, 41, 42] a0 P P187) → (MW P187 a0) → (0 ≤ a2.toInt ∧ a2.toInt ≤ 1) → (0 ≤ a4.toInt ∧ a4.toInt ≤ 19) → (2 ≤ v187_5.toInt ∧ v187_5.toInt ≤ 4) → (0 ≤ v122_6.toInt ∧ v122_6.toInt ≤ 63) → (0 ≤ (pI P187 a0 0).toInt ∧ (pI P187 a0 0).toInt ≤ 0) → (∀ b, pR P187 a0 10 = some b → 1 ≤ (pI P187 b (a2.toInt.toNat)).toInt ∧ (pI P187 b (a2.toInt.toNat)).toInt ≤ 16) → G E ({ frames := 7, cells := 0, slots := 0, locals := 448 } : Room) D cy 9 P187 0 0 187 [(0, .ref a0), (2, .int a2), (4, .int a4), (5, .int v187_5), (6, .int v122_6)] [] := by
        intro P187 v187_5 I187 X187 W187 hv187_2 hv187_4 hv187_5 hv187_6 hq187_0 hq187_1
        have h63360 := X187.at ha0
        obtain ⟨b63361, e63362, h63363⟩ := I187.fld (h63360) 10 13 2 rfl
        have hq187_1 := hq187_1 b63361 e63362
        refine s_iinc (lv0 := [(0, .ref a0), (2, .int a2), (4, .int a4), (5, .int v187_5)]) (m := 1) C dX12_guard_187 4 rfl (by decide) rfl (by decide) (by omega) (fun z63364 h63365 => ?_)
        have h63365 : z63364.toInt = v122_6.toInt + 1 := h63365
        refine g_goto C 122 dX12_guard_190 (by decide) ?_
        refine g_lv (lv' := [(0, .ref a0), (2, .int a2), (4, .int a4), (5, .int v187_5), (6, .int z63364)]) [1, 2, 3, 4, 0] rfl ?_
        exact ih122 P187 v187_5 z63364 (by omega) I187 X187 W187 (by omega) (by omega) (by omega) (by omega) (by omega) (fun b9 e9 => by rw [e63362] at e9; cases e9; omega)
      have J143 : ∀ (n143 : Nat) (P143 : PP) (v143_5 : Int32) (v143_7 : Int32), (64 - v143_7.toInt).toNat < n143 → (IM P143 a0) → (EM [0, 28, 29, 30, 31, 32, 35, 36, 37, 38, 41, 42] a0 P P143) → (MW P143 a0) → (0 ≤ a2.toInt ∧ a2.toInt ≤ 1) → (0 ≤ a4.toInt ∧ a4.toInt ≤ 19) → (2 ≤ v143_5.toInt ∧ v143_5.toInt ≤ 4) → (0 ≤ v122_6.toInt ∧ v122_6.toInt ≤ 63) → (1 ≤ v143_7.toInt ∧ v143_7.toInt ≤ 64) → (0 ≤ (pI P143 a0 0).toInt ∧ (pI P143 a0 0).toInt ≤ 0) → (∀ b, pR P143 a0 10 = some b → 1 ≤ (pI P143 b (a2.toInt.toNat)).toInt ∧ (pI P143 b (a2.toInt.toNat)).toInt ≤ 16) → G E ({ frames := 7, cells := 0, slots := 0, locals := 448 } : Room) D cy 9 P143 0 0 143 [(0, .ref a0), (2, .int a2), (4, .int a4), (5, .int v143_5), (6, .int v122_6), (7, .int v143_7)] [] := by
        intro n143
        induction n143 with
        | zero => intro P143 v143_5 v143_7 hm143 I143 X143 W143 hv143_2 hv143_4 hv143_5 hv143_6 hv143_7 hq143_0 hq143_1; omega
        | succ n143 ih143 =>
          intro P143 v143_5 v143_7 hm143 I143 X143 W143 hv143_2 hv143_4 hv143_5 hv143_6 hv143_7 hq143_0 hq143_1
          have h63366 := X143.at ha0
          obtain ⟨b63367, e63368, h63369⟩ := I143.fld (h63366) 10 13 2 rfl
          have hq143_1 := hq143_1 b63367 e63368
          have J179 : ∀ (P179 : PP) (v179_s0 : Int32), (IM P179 a0) → (EM [0, 28, 29, 30, 31, 32, 35, 36, 37, 38, 41, 42] a0 P P179) → (MW P179 a0) → (0 ≤ a2.toInt ∧ a2.toInt ≤ 1) → (0 ≤ a4.toInt ∧ a4.toInt ≤ 19) → (0 ≤ v122_6.toInt ∧ v122_6.toInt ≤ 63) → (1 ≤ v143_7.toInt ∧ v143_7.toInt ≤ 63) → (2 ≤ v179_s0.toInt ∧ v179_s0.toInt ≤ 4) → (0 ≤ (pI P179 a0 0).toInt ∧ (pI P179 a0 0).toInt ≤ 0) → (∀ b, pR P179 a0 10 = some b → 1 ≤ (pI P179 b (a2.toInt.toNat)).toInt ∧ (pI P179 b (a2.toInt.toNat)).toInt ≤ 16) → G E ({ frames := 7, cells := 0, slots := 0, locals := 448 } : Room) D cy 9 P179 0 0 179 [(0, .ref a0), (2, .int a2), (4, .int a4), (6, .int v122_6), (7, .int v143_7)] [.int v179_s0] := by
            intro P179 v179_s0 I179 X179 W179 hv179_2 hv179_4 hv179_6 hv179_7 hv179_s0 hq179_0 hq179_1
            have h63370 := X179.at ha0
            obtain ⟨b63371, e63372, h63373⟩ := I179.fld (h63370) 10 13 2 rfl
            have hq179_1 := hq179_1 b63371 e63372
            refine g_istore (lv' := [(5, .int v179_s0), (0, .ref a0), (2, .int a2), (4, .int a4), (6, .int v122_6), (7, .int v143_7)]) C dX12_guard_179 (by decide) rfl ?_
            refine s_iinc (lv0 := [(5, .int v179_s0), (0, .ref a0), (2, .int a2), (4, .int a4), (6, .int v122_6)]) (m := 1) C dX12_guard_181 5 rfl (by decide) rfl (by decide) (by omega) (fun z63374 h63375 => ?_)
            have h63375 : z63374.toInt = v143_7.toInt + 1 := h63375
            refine g_goto C 143 dX12_guard_184 (by decide) ?_
            refine g_lv (lv' := [(0, .ref a0), (2, .int a2), (4, .int a4), (5, .int v179_s0), (6, .int v122_6), (7, .int z63374)]) [2, 3, 4, 1, 5, 0] rfl ?_
            exact ih143 P179 v179_s0 z63374 (by omega) I179 X179 W179 (by omega) (by omega) (by omega) (by omega) (by omega) (by omega) (fun b9 e9 => by rw [e63372] at e9; cases e9; omega)
          refine g_iload C dX12_guard_143 5 rfl ?_
          refine g_aload_n C dX12_guard_145 rfl 0 rfl ?_
          refine g_getI C fi_X12_305 (by decide) (h63366).1 (h63366).2 dX12_guard_146 ?_
          have h63376 := I143.rg (h63366) 28 rfl
          refine b_icmp_ge C 187 dX12_guard_149 (by decide) (fun h63377 => ?_) (fun h63377 => ?_)
          · have h63377 : (pI P143 a0 28).toInt ≤ v143_7.toInt := h63377
            refine g_lv (lv' := [(0, .ref a0), (2, .int a2), (4, .int a4), (5, .int v143_5), (6, .int v122_6)]) [0, 1, 2, 3, 4] rfl ?_
            exact J187 P143 v143_5 I143 X143 W143 (by omega) (by omega) (by omega) (by omega) (by omega) (fun b9 e9 => by rw [e63368] at e9; cases e9; omega)
          · have h63377 : v143_7.toInt < (pI P143 a0 28).toInt := h63377
            refine g_iload C dX12_guard_152 3 rfl ?_
            refine g_iconst (v := 2) C dX12_guard_154 (by decide) ?_
            refine b_icmp_le C 187 dX12_guard_155 (by decide) (fun h63378 => ?_) (fun h63378 => ?_)
            · have h63378 : v143_5.toInt ≤ 2 := h63378
              refine g_lv (lv' := [(0, .ref a0), (2, .int a2), (4, .int a4), (5, .int v143_5), (6, .int v122_6)]) [0, 1, 2, 3, 4] rfl ?_
              exact J187 P143 v143_5 I143 X143 W143 (by omega) (by omega) (by omega) (by omega) (by omega) (fun b9 e9 => by rw [e63368] at e9; cases e9; omega)
            · have h63378 : 2 < v143_5.toInt := h63378
              refine g_aload_n C dX12_guard_158 rfl 0 rfl ?_
              refine g_iload C dX12_guard_159 2 rfl ?_
              refine g_iload C dX12_guard_161 4 rfl ?_
              refine g_iload C dX12_guard_163 5 rfl ?_
              refine g_iload C dX12_guard_165 5 rfl ?_
              refine g_callVI (rest := []) C mv_X12_367 [.int a4, .int v122_6, .int v143_7, .int v143_7] (s_X12_isFixedWithout I143 (by omega) W143) (h63366).1 (h63366).2 rfl rfl (by decide) (Nat.le_of_ble_eq_true rfl) (by decide) dX12_guard_167 (fun r63379 Y63380 h63381 => ?_)
              obtain ⟨Iy63382, Xy63383, W63384, h63381⟩ := h63381
              have q63385 := Xy63383.keepF 0 (by decide)
              have q63386 := Xy63383.keepA e63368 (by decide) rfl (a2.toInt.toNat)
              have Xz63387 : EM [0, 28, 29, 30, 31, 32, 35, 36, 37, 38, 41, 42] a0 P Y63380 := EM.tr ha0 X143 (Xy63383.mono (by decide))
              have e63388 := Xy63383.ref h63366 (by decide) e63368
              have h63389 := Xy63383.at h63366
              have h63390 := Xy63383.ar h63369
              have h63381 : 0 ≤ r63379.toInt ∧ r63379.toInt ≤ 1 := h63381
              refine b_if_eq C 178 dX12_guard_170 (by decide) (fun h63391 => ?_) (fun h63391 => ?_)
              · have h63391 : r63379.toInt = 0 := congrArg Int32.toInt h63391
                refine g_iconst (v := 2) C dX12_guard_178 (by decide) ?_
                refine g_lv (lv' := [(0, .ref a0), (2, .int a2), (4, .int a4), (6, .int v122_6), (7, .int v143_7)]) [0, 1, 2, 4, 5] rfl ?_
                exact J179 Y63380 2 Iy63382 Xz63387 W63384 (by omega) (by omega) (by omega) (by omega) (by decide) (by omega) (fun b9 e9 => by rw [e63388] at e9; cases e9; omega)
              · have h63391 : r63379.toInt ≠ 0 := ti_ne h63391
                refine g_iload C dX12_guard_173 3 rfl ?_
                refine g_goto C 179 dX12_guard_175 (by decide) ?_
                refine g_lv (lv' := [(0, .ref a0), (2, .int a2), (4, .int a4), (6, .int v122_6), (7, .int v143_7)]) [0, 1, 2, 4, 5] rfl ?_
                exact J179 Y63380 v143_5 Iy63382 Xz63387 W63384 (by omega) (by omega) (by omega) (by omega) (by omega) (by omega) (fun b9 e9 => by rw [e63388] at e9; cases e9; omega)
      refine g_iload C dX12_guard_122 4 rfl ?_
      refine g_aload_n C dX12_guard_124 rfl 0 rfl ?_
      refine g_getI C fi_X12_305 (by decide) (h63356).1 (h63356).2 dX12_guard_125 ?_
      have h63392 := I122.rg (h63356) 28 rfl
      refine b_icmp_ge C 193 dX12_guard_128 (by decide) (fun h63393 => ?_) (fun h63393 => ?_)
      · have h63393 : (pI P122 a0 28).toInt ≤ v122_6.toInt := h63393
        refine g_lv (lv' := [(0, .ref a0), (2, .int a2), (4, .int a4), (5, .int v122_5)]) [0, 1, 2, 3] rfl ?_
        exact J193 P122 v122_5 I122 X122 W122 (by omega) (by omega) (by omega) (by omega) (fun b9 e9 => by rw [e63358] at e9; cases e9; omega)
      · have h63393 : v122_6.toInt < (pI P122 a0 28).toInt := h63393
        refine g_iload C dX12_guard_131 3 rfl ?_
        refine g_iconst (v := 2) C dX12_guard_133 (by decide) ?_
        refine b_icmp_le C 193 dX12_guard_134 (by decide) (fun h63394 => ?_) (fun h63394 => ?_)
        · have h63394 : v122_5.toInt ≤ 2 := h63394
          refine g_lv (lv' := [(0, .ref a0), (2, .int a2), (4, .int a4), (5, .int v122_5)]) [0, 1, 2, 3] rfl ?_
          exact J193 P122 v122_5 I122 X122 W122 (by omega) (by omega) (by omega) (by omega) (fun b9 e9 => by rw [e63358] at e9; cases e9; omega)
        · have h63394 : 2 < v122_5.toInt := h63394
          refine g_iload C dX12_guard_137 4 rfl ?_
          refine g_iconst (v := 1) C dX12_guard_139 (by decide) ?_
          refine s_iadd C dX12_guard_140 (by show -2147483648 ≤ v122_6.toInt + 1 ∧ v122_6.toInt + 1 ≤ 2147483647; omega) (fun z63395 h63396 => ?_)
          have h63396 : z63395.toInt = v122_6.toInt + 1 := h63396
          refine g_istore (lv' := [(7, .int z63395), (0, .ref a0), (2, .int a2), (4, .int a4), (5, .int v122_5), (6, .int v122_6)]) C dX12_guard_141 (by decide) rfl ?_
          refine g_lv (lv' := [(0, .ref a0), (2, .int a2), (4, .int a4), (5, .int v122_5), (6, .int v122_6), (7, .int z63395)]) [1, 2, 3, 4, 5, 0] rfl ?_
          exact J143 _ P122 v122_5 z63395 (Nat.lt_succ_self _) I122 X122 W122 (by omega) (by omega) (by omega) (by omega) (by omega) (by omega) (fun b9 e9 => by rw [e63358] at e9; cases e9; omega)
  have J114 : ∀ (P114 : PP) (v114_5 : Int32), (IM P114 a0) → (EM [0, 28, 29, 30, 31, 32, 35, 36, 37, 38, 41, 42] a0 P P114) → (MW P114 a0) → (0 ≤ a2.toInt ∧ a2.toInt ≤ 1) → (0 ≤ a4.toInt ∧ a4.toInt ≤ 19) → (1 ≤ v114_5.toInt ∧ v114_5.toInt ≤ 4) → (0 ≤ (pI P114 a0 0).toInt ∧ (pI P114 a0 0).toInt ≤ 0) → (∀ b, pR P114 a0 10 = some b → 1 ≤ (pI P114 b (a2.toInt.toNat)).toInt ∧ (pI P114 b (a2.toInt.toNat)).toInt ≤ 16) → G E ({ frames := 7, cells := 0, slots := 0, locals := 448 } : Room) D cy 9 P114 0 0 114 [(0, .ref a0), (2, .int a2), (4, .int a4), (5, .int v114_5)] [] := by
    intro P114 v114_5 I114 X114 W114 hv114_2 hv114_4 hv114_5 hq114_0 hq114_1
    have h63397 := X114.at ha0
    obtain ⟨b63398, e63399, h63400⟩ := I114.fld (h63397) 10 13 2 rfl
    have hq114_1 := hq114_1 b63398 e63399
    refine g_aload_n C dX12_guard_114 rfl 0 rfl ?_
    obtain ⟨b63401, e63402, h63403⟩ := I114.fld (h63397) 15 13 3 rfl
    refine g_getR C fi_X12_60 rfl e63402 (h63397).1 (h63397).2 dX12_guard_115 ?_
    refine g_iload_n C dX12_guard_118 rfl 1 rfl ?_
    refine g_iald (j := (a2.toInt.toNat)) C h63403.1 h63403.2.1 (ix_in h63403.2.2 (by omega)) dX12_guard_119 ?_
    have h63404 := I114.arr e63402 rfl (a2.toInt.toNat)
    refine g_topi (fun z63405 h63406 => ?_)
    have h63406 : z63405.toInt = (pI P114 b63401 (a2.toInt.toNat)).toInt := congrArg Int32.toInt h63406
    refine g_istore (lv' := [(6, .int z63405), (0, .ref a0), (2, .int a2), (4, .int a4), (5, .int v114_5)]) C dX12_guard_120 (by decide) rfl ?_
    refine g_lv (lv' := [(0, .ref a0), (2, .int a2), (4, .int a4), (5, .int v114_5), (6, .int z63405)]) [1, 2, 3, 4, 0] rfl ?_
    exact J122 _ P114 v114_5 z63405 (Nat.lt_succ_self _) I114 X114 W114 (by omega) (by omega) (by omega) (by omega) (by omega) (fun b9 e9 => by rw [e63399] at e9; cases e9; omega)
  have J70 : ∀ (n70 : Nat) (P70 : PP) (v70_5 : Int32) (v70_6 : Int32), (64 - v70_6.toInt).toNat < n70 → (IM P70 a0) → (EM [0, 28, 29, 30, 31, 32, 35, 36, 37, 38, 41, 42] a0 P P70) → (MW P70 a0) → (0 ≤ a2.toInt ∧ a2.toInt ≤ 1) → (0 ≤ a4.toInt ∧ a4.toInt ≤ 19) → (1 ≤ v70_5.toInt ∧ v70_5.toInt ≤ 4) → (0 ≤ v70_6.toInt ∧ v70_6.toInt ≤ 64) → (0 ≤ (pI P70 a0 0).toInt ∧ (pI P70 a0 0).toInt ≤ 0) → (∀ b, pR P70 a0 10 = some b → 1 ≤ (pI P70 b (a2.toInt.toNat)).toInt ∧ (pI P70 b (a2.toInt.toNat)).toInt ≤ 16) → G E ({ frames := 7, cells := 0, slots := 0, locals := 448 } : Room) D cy 9 P70 0 0 70 [(0, .ref a0), (2, .int a2), (4, .int a4), (5, .int v70_5), (6, .int v70_6)] [] := by
    intro n70
    induction n70 with
    | zero => intro P70 v70_5 v70_6 hm70 I70 X70 W70 hv70_2 hv70_4 hv70_5 hv70_6 hq70_0 hq70_1; omega
    | succ n70 ih70 =>
      intro P70 v70_5 v70_6 hm70 I70 X70 W70 hv70_2 hv70_4 hv70_5 hv70_6 hq70_0 hq70_1
      have h63407 := X70.at ha0
      obtain ⟨b63408, e63409, h63410⟩ := I70.fld (h63407) 10 13 2 rfl
      have hq70_1 := hq70_1 b63408 e63409
      have J106 : ∀ (P106 : PP) (v106_s0 : Int32), (IM P106 a0) → (EM [0, 28, 29, 30, 31, 32, 35, 36, 37, 38, 41, 42] a0 P P106) → (MW P106 a0) → (0 ≤ a2.toInt ∧ a2.toInt ≤ 1) → (0 ≤ a4.toInt ∧ a4.toInt ≤ 19) → (0 ≤ v70_6.toInt ∧ v70_6.toInt ≤ 63) → (1 ≤ v106_s0.toInt ∧ v106_s0.toInt ≤ 4) → (0 ≤ (pI P106 a0 0).toInt ∧ (pI P106 a0 0).toInt ≤ 0) → (∀ b, pR P106 a0 10 = some b → 1 ≤ (pI P106 b (a2.toInt.toNat)).toInt ∧ (pI P106 b (a2.toInt.toNat)).toInt ≤ 16) → G E ({ frames := 7, cells := 0, slots := 0, locals := 448 } : Room) D cy 9 P106 0 0 106 [(0, .ref a0), (2, .int a2), (4, .int a4), (6, .int v70_6)] [.int v106_s0] := by
        intro P106 v106_s0 I106 X106 W106 hv106_2 hv106_4 hv106_6 hv106_s0 hq106_0 hq106_1
        have h63411 := X106.at ha0
        obtain ⟨b63412, e63413, h63414⟩ := I106.fld (h63411) 10 13 2 rfl
        have hq106_1 := hq106_1 b63412 e63413
        refine g_istore (lv' := [(5, .int v106_s0), (0, .ref a0), (2, .int a2), (4, .int a4), (6, .int v70_6)]) C dX12_guard_106 (by decide) rfl ?_
        refine s_iinc (lv0 := [(5, .int v106_s0), (0, .ref a0), (2, .int a2), (4, .int a4)]) (m := 1) C dX12_guard_108 4 rfl (by decide) rfl (by decide) (by omega) (fun z63415 h63416 => ?_)
        have h63416 : z63415.toInt = v70_6.toInt + 1 := h63416
        refine g_goto C 70 dX12_guard_111 (by decide) ?_
        refine g_lv (lv' := [(0, .ref a0), (2, .int a2), (4, .int a4), (5, .int v106_s0), (6, .int z63415)]) [2, 3, 4, 1, 0] rfl ?_
        exact ih70 P106 v106_s0 z63415 (by omega) I106 X106 W106 (by omega) (by omega) (by omega) (by omega) (by omega) (fun b9 e9 => by rw [e63413] at e9; cases e9; omega)
      refine g_iload C dX12_guard_70 4 rfl ?_
      refine g_aload_n C dX12_guard_72 rfl 0 rfl ?_
      refine g_getI C fi_X12_305 (by decide) (h63407).1 (h63407).2 dX12_guard_73 ?_
      have h63417 := I70.rg (h63407) 28 rfl
      refine b_icmp_ge C 114 dX12_guard_76 (by decide) (fun h63418 => ?_) (fun h63418 => ?_)
      · have h63418 : (pI P70 a0 28).toInt ≤ v70_6.toInt := h63418
        refine g_lv (lv' := [(0, .ref a0), (2, .int a2), (4, .int a4), (5, .int v70_5)]) [0, 1, 2, 3] rfl ?_
        exact J114 P70 v70_5 I70 X70 W70 (by omega) (by omega) (by omega) (by omega) (fun b9 e9 => by rw [e63409] at e9; cases e9; omega)
      · have h63418 : v70_6.toInt < (pI P70 a0 28).toInt := h63418
        refine g_iload C dX12_guard_79 3 rfl ?_
        refine g_iconst (v := 1) C dX12_guard_81 (by decide) ?_
        refine b_icmp_le C 114 dX12_guard_82 (by decide) (fun h63419 => ?_) (fun h63419 => ?_)
        · have h63419 : v70_5.toInt ≤ 1 := h63419
          refine g_lv (lv' := [(0, .ref a0), (2, .int a2), (4, .int a4), (5, .int v70_5)]) [0, 1, 2, 3] rfl ?_
          exact J114 P70 v70_5 I70 X70 W70 (by omega) (by omega) (by omega) (by omega) (fun b9 e9 => by rw [e63409] at e9; cases e9; omega)
        · have h63419 : 1 < v70_5.toInt := h63419
          refine g_aload_n C dX12_guard_85 rfl 0 rfl ?_
          refine g_iload C dX12_guard_86 2 rfl ?_
          refine g_iload C dX12_guard_88 4 rfl ?_
          refine g_iload C dX12_guard_90 4 rfl ?_
          refine g_iload C dX12_guard_92 4 rfl ?_
          refine g_callVI (rest := []) C mv_X12_367 [.int a4, .int v70_6, .int v70_6, .int v70_6] (s_X12_isFixedWithout I70 (by omega) W70) (h63407).1 (h63407).2 rfl rfl (by decide) (Nat.le_of_ble_eq_true rfl) (by decide) dX12_guard_94 (fun r63420 Y63421 h63422 => ?_)
          obtain ⟨Iy63423, Xy63424, W63425, h63422⟩ := h63422
          have q63426 := Xy63424.keepF 0 (by decide)
          have q63427 := Xy63424.keepA e63409 (by decide) rfl (a2.toInt.toNat)
          have Xz63428 : EM [0, 28, 29, 30, 31, 32, 35, 36, 37, 38, 41, 42] a0 P Y63421 := EM.tr ha0 X70 (Xy63424.mono (by decide))
          have e63429 := Xy63424.ref h63407 (by decide) e63409
          have h63430 := Xy63424.at h63407
          have h63431 := Xy63424.ar h63410
          have h63422 : 0 ≤ r63420.toInt ∧ r63420.toInt ≤ 1 := h63422
          refine b_if_eq C 105 dX12_guard_97 (by decide) (fun h63432 => ?_) (fun h63432 => ?_)
          · have h63432 : r63420.toInt = 0 := congrArg Int32.toInt h63432
            refine g_iconst (v := 1) C dX12_guard_105 (by decide) ?_
            refine g_lv (lv' := [(0, .ref a0), (2, .int a2), (4, .int a4), (6, .int v70_6)]) [0, 1, 2, 4] rfl ?_
            exact J106 Y63421 1 Iy63423 Xz63428 W63425 (by omega) (by omega) (by omega) (by decide) (by omega) (fun b9 e9 => by rw [e63429] at e9; cases e9; omega)
          · have h63432 : r63420.toInt ≠ 0 := ti_ne h63432
            refine g_iload C dX12_guard_100 3 rfl ?_
            refine g_goto C 106 dX12_guard_102 (by decide) ?_
            refine g_lv (lv' := [(0, .ref a0), (2, .int a2), (4, .int a4), (6, .int v70_6)]) [0, 1, 2, 4] rfl ?_
            exact J106 Y63421 v70_5 Iy63423 Xz63428 W63425 (by omega) (by omega) (by omega) (by omega) (by omega) (fun b9 e9 => by rw [e63429] at e9; cases e9; omega)
  have J25 : ∀ (P25 : PP), (IM P25 a0) → (EM [0, 28, 29, 30, 31, 32, 35, 36, 37, 38, 41, 42] a0 P P25) → (MW P25 a0) → (0 ≤ (pI P25 a0 0).toInt ∧ (pI P25 a0 0).toInt ≤ 0) → G E ({ frames := 7, cells := 0, slots := 0, locals := 448 } : Room) D cy 9 P25 0 0 25 [] [] := by
    intro P25 I25 X25 W25 hq25_0
    have h63433 := X25.at ha0
    refine g_iconst (v := (-1)) C dX12_guard_25 (by decide) ?_
    exact ret _ _ _ _ _ _ dX12_guard_26 rfl (by decide) (by decide) ⟨I25, X25, W25, (by decide)⟩
  refine g_aload_n C dX12_guard_0 rfl 0 rfl ?_
  refine g_iconst (v := 0) C dX12_guard_1 (by decide) ?_
  refine g_putI C fi_X12_1 rfl (ha0).1 (ha0).2 dX12_guard_2 ?_
  refine gqW (ks := [0]) (I.setI (rgOk.of rfl (by decide))) (EM.setI I (by decide)) (fun Y63434 Iy63435 Xy63436 w63437 => ?_)
  have w63437 : (pI Y63434 a0 0).toInt = 0 := w63437
  have W63438 := hW.keep I Xy63436 (by decide) (by decide) (by decide)
  have Xz63439 : EM [0, 28, 29, 30, 31, 32, 35, 36, 37, 38, 41, 42] a0 P Y63434 := Xy63436.mono (by decide)
  have h63440 := Xy63436.at ha0
  refine g_aload_n C dX12_guard_5 rfl 0 rfl ?_
  refine g_iload_n C dX12_guard_6 rfl 1 rfl ?_
  refine g_iload_n C dX12_guard_7 rfl 2 rfl ?_
  refine g_iload_n C dX12_guard_8 rfl 3 rfl ?_
  refine g_callVI (rest := []) C mv_X12_333 [.int a1, .int a2, .int a3] (s_X12_isAsked Iy63435 W63438) (h63440).1 (h63440).2 rfl rfl (by decide) (Nat.le_of_ble_eq_true rfl) (by decide) dX12_guard_9 (fun r63441 Y63442 h63443 => ?_)
  obtain ⟨rfl, h63443⟩ := h63443
  obtain ⟨h63443, hi63444, hi63445⟩ := h63443
  have hi63444 : r63441.toInt = 0 ∨ (((0 : Int) ≤ a1.toInt ∧ a1.toInt ≤ (3 : Int)) ∧ ((0 : Int) ≤ a2.toInt ∧ a2.toInt ≤ (1 : Int)) ∧ ((0 : Int) ≤ a3.toInt ∧ a3.toInt ≤ (1 : Int))) := hi63444
  have h63443 : 0 ≤ r63441.toInt ∧ r63441.toInt ≤ 1 := h63443
  refine b_if_eq C 25 dX12_guard_12 (by decide) (fun h63446 => ?_) (fun h63446 => ?_)
  · have h63446 : r63441.toInt = 0 := congrArg Int32.toInt h63446
    clear hi63444
    refine g_lv (lv' := []) [] rfl ?_
    exact J25 Y63434 Iy63435 Xz63439 W63438 (by omega)
  · have h63446 : r63441.toInt ≠ 0 := ti_ne h63446
    replace hi63444 := hi63444.resolve_left (by omega)
    obtain ⟨b63447, e63448, h63449⟩ := Iy63435.fld (h63440) 10 13 2 rfl
    have hi63445 := (hi63445.resolve_left (by omega)) b63447 e63448
    have hi63445 : 0 < (pI Y63434 b63447 (a2.toInt.toNat)).toInt := hi63445
    have h63450 := Iy63435.arr e63448 rfl (a2.toInt.toNat)
    refine g_aload_n C dX12_guard_15 rfl 0 rfl ?_
    refine g_iload_n C dX12_guard_16 rfl 2 rfl ?_
    refine g_iload C dX12_guard_17 4 rfl ?_
    refine g_callVI (rest := []) C mv_X12_352 [.int a2, .int a4] (s_X12_isPage Iy63435 (by omega) W63438) (h63440).1 (h63440).2 rfl rfl (by decide) (Nat.le_of_ble_eq_true rfl) (by decide) dX12_guard_19 (fun r63451 Y63452 h63453 => ?_)
    obtain ⟨rfl, h63453⟩ := h63453
    obtain ⟨h63453, hi63454⟩ := h63453
    have hi63454 : r63451.toInt = 0 ∨ (((0 : Int) ≤ a4.toInt ∧ a4.toInt ≤ (19 : Int))) := hi63454
    have h63453 : 0 ≤ r63451.toInt ∧ r63451.toInt ≤ 1 := h63453
    refine b_if_ne C 27 dX12_guard_22 (by decide) (fun h63455 => ?_) (fun h63455 => ?_)
    · have h63455 : r63451.toInt ≠ 0 := ti_ne h63455
      replace hi63454 := hi63454.resolve_left (by omega)
      refine g_aload_n C dX12_guard_27 rfl 0 rfl ?_
      refine g_callVV (rest := []) C mv_X12_336 [] (s_X12_leavesNone Iy63435 W63438) (h63440).1 (h63440).2 rfl rfl (by decide) (Nat.le_of_ble_eq_true rfl) (by decide) dX12_guard_28 (fun Y63457 h63458 => ?_)
      obtain ⟨Iy63459, Xy63460, W63461⟩ := h63458
      have q63462 := Xy63460.keepF 0 (by decide)
      have q63463 := Xy63460.keepA e63448 (by decide) rfl (a2.toInt.toNat)
      have Xz63464 : EM [0, 28, 29, 30, 31, 32, 35, 36, 37, 38, 41, 42] a0 P Y63457 := EM.tr ha0 Xz63439 (Xy63460.mono (by decide))
      have e63465 := Xy63460.ref h63440 (by decide) e63448
      have h63466 := Xy63460.at h63440
      have h63467 := Xy63460.ar h63449
      refine g_aload_n C dX12_guard_31 rfl 0 rfl ?_
      refine g_iload_n C dX12_guard_32 rfl 1 rfl ?_
      refine g_iload_n C dX12_guard_33 rfl 2 rfl ?_
      refine g_iload_n C dX12_guard_34 rfl 3 rfl ?_
      refine g_aload_n C dX12_guard_35 rfl 0 rfl ?_
      obtain ⟨b63468, e63469, h63470⟩ := Iy63459.fld (h63466) 20 13 20 rfl
      refine g_getR C fi_X12_69 rfl e63469 (h63466).1 (h63466).2 dX12_guard_36 ?_
      refine g_iload_n C dX12_guard_39 rfl 1 rfl ?_
      refine g_iald (j := (a1.toInt.toNat)) C h63470.1 h63470.2.1 (ix_in h63470.2.2 (by omega)) dX12_guard_40 ?_
      have h63471 := Iy63459.arr e63469 rfl (a1.toInt.toNat)
      refine g_callVV (rest := []) C mv_X12_339 [.int a1, .int a2, .int a3, .int (pI Y63457 b63468 (a1.toInt.toNat))] (s_X12_gathers Iy63459 (by omega) (by omega) (by omega) (fun b9 e9 => by rw [e63465] at e9; cases e9; show 1 ≤ (pI Y63457 b63447 (a2.toInt.toNat)).toInt ∧ (pI Y63457 b63447 (a2.toInt.toNat)).toInt ≤ 16; omega) W63461) (h63466).1 (h63466).2 rfl rfl (by decide) (Nat.le_of_ble_eq_true rfl) (by decide) dX12_guard_41 (fun Y63473 h63474 => ?_)
      obtain ⟨Iy63475, Xy63476, W63477, p63478⟩ := h63474
      have p63478 : (pI Y63473 a0 28).toInt ≤ 4 + (pI Y63457 b63468 (a1.toInt.toNat)).toInt := p63478
      have q63479 := Xy63476.keepF 0 (by decide)
      have q63480 := Xy63476.keepA e63465 (by decide) rfl (a2.toInt.toNat)
      have q63481 := Xy63476.keepA e63469 (by decide) rfl (a1.toInt.toNat)
      have Xz63482 : EM [0, 28, 29, 30, 31, 32, 35, 36, 37, 38, 41, 42] a0 P Y63473 := EM.tr ha0 Xz63464 (Xy63476.mono (by decide))
      have e63483 := Xy63476.ref h63466 (by decide) e63465
      have e63484 := Xy63476.ref h63466 (by decide) e63469
      have h63485 := Xy63476.at h63466
      have h63486 := Xy63476.ar h63467
      have h63487 := Xy63476.ar h63470
      have h63488 := Iy63475.rg h63485 28 rfl
      refine g_aload_n C dX12_guard_44 rfl 0 rfl ?_
      refine g_callVV (rest := []) C mv_X12_346 [] (s_X12_findSolved Iy63475 W63477) (h63485).1 (h63485).2 rfl rfl (by decide) (Nat.le_of_ble_eq_true rfl) (by decide) dX12_guard_45 (fun Y63490 h63491 => ?_)
      obtain ⟨Iy63492, Xy63493, W63494⟩ := h63491
      have q63495 := Xy63493.keepF 0 (by decide)
      have q63496 := Xy63493.keepA e63483 (by decide) rfl (a2.toInt.toNat)
      have q63497 := Xy63493.keepA e63484 (by decide) rfl (a1.toInt.toNat)
      have q63498 := Xy63493.keepF 28 (by decide)
      have Xz63499 : EM [0, 28, 29, 30, 31, 32, 35, 36, 37, 38, 41, 42] a0 P Y63490 := EM.tr ha0 Xz63482 (Xy63493.mono (by decide))
      have e63500 := Xy63493.ref h63485 (by decide) e63483
      have e63501 := Xy63493.ref h63485 (by decide) e63484
      have h63502 := Xy63493.at h63485
      have h63503 := Xy63493.ar h63486
      have h63504 := Xy63493.ar h63487
      refine g_aload_n C dX12_guard_48 rfl 0 rfl ?_
      refine g_iload C dX12_guard_49 4 rfl ?_
      refine g_callVI (rest := []) C mv_X12_330 [.int a4] (s_X12_isFixed Iy63492 (by omega) W63494) (h63502).1 (h63502).2 rfl rfl (by decide) (Nat.le_of_ble_eq_true rfl) (by decide) dX12_guard_51 (fun r63505 Y63506 h63507 => ?_)
      obtain ⟨rfl, h63507⟩ := h63507
      have h63507 : 0 ≤ r63505.toInt ∧ r63505.toInt ≤ 1 := h63507
      refine b_if_ne C 59 dX12_guard_54 (by decide) (fun h63508 => ?_) (fun h63508 => ?_)
      · have h63508 : r63505.toInt ≠ 0 := ti_ne h63508
        refine g_iconst (v := 4) C dX12_guard_59 (by decide) ?_
        refine g_istore (lv' := [(5, .int 4), (0, .ref a0), (1, .int a1), (2, .int a2), (3, .int a3), (4, .int a4)]) C dX12_guard_60 (by decide) rfl ?_
        refine g_aload_n C dX12_guard_62 rfl 1 rfl ?_
        obtain ⟨b63509, e63510, h63511⟩ := Iy63492.fld (h63502) 15 13 3 rfl
        refine g_getR C fi_X12_60 rfl e63510 (h63502).1 (h63502).2 dX12_guard_63 ?_
        refine g_iload_n C dX12_guard_66 rfl 3 rfl ?_
        refine g_iald (j := (a2.toInt.toNat)) C h63511.1 h63511.2.1 (ix_in h63511.2.2 (by omega)) dX12_guard_67 ?_
        have h63512 := Iy63492.arr e63510 rfl (a2.toInt.toNat)
        refine g_topi (fun z63513 h63514 => ?_)
        have h63514 : z63513.toInt = (pI Y63490 b63509 (a2.toInt.toNat)).toInt := congrArg Int32.toInt h63514
        refine g_istore (lv' := [(6, .int z63513), (5, .int 4), (0, .ref a0), (1, .int a1), (2, .int a2), (3, .int a3), (4, .int a4)]) C dX12_guard_68 (by decide) rfl ?_
        refine g_lv (lv' := [(0, .ref a0), (2, .int a2), (4, .int a4), (5, .int 4), (6, .int z63513)]) [2, 4, 6, 1, 0] rfl ?_
        exact J70 _ Y63490 4 z63513 (Nat.lt_succ_self _) Iy63492 Xz63499 W63494 (by omega) (by omega) (by decide) (by omega) (by omega) (fun b9 e9 => by rw [e63500] at e9; cases e9; omega)
      · have h63508 : r63505.toInt = 0 := congrArg Int32.toInt h63508
        refine g_iconst (v := (-1)) C dX12_guard_57 (by decide) ?_
        exact ret _ _ _ _ _ _ dX12_guard_58 rfl (by decide) (by decide) ⟨Iy63492, Xz63499, W63494, (by decide)⟩
    · have h63455 : r63451.toInt = 0 := congrArg Int32.toInt h63455
      clear hi63454
      refine g_lv (lv' := []) [] rfl ?_
      exact J25 Y63434 Iy63435 Xz63439 W63438 (by omega)
theorem dX12_hasAlike_0 : decode cX12_hasAlike 0 = .ok (.iconst 0, 1) := by decide +kernel
theorem dX12_hasAlike_1 : decode cX12_hasAlike 1 = .ok (.istore_n 3, 1) := by decide +kernel
theorem dX12_hasAlike_2 : decode cX12_hasAlike 2 = .ok (.iconst 0, 1) := by decide +kernel
theorem dX12_hasAlike_3 : decode cX12_hasAlike 3 = .ok (.istore 4, 2) := by decide +kernel
theorem dX12_hasAlike_5 : decode cX12_hasAlike 5 = .ok (.iload 4, 2) := by decide +kernel
theorem dX12_hasAlike_7 : decode cX12_hasAlike 7 = .ok (.aload_n 0, 1) := by decide +kernel
theorem dX12_hasAlike_8 : decode cX12_hasAlike 8 = .ok (.getfield 69, 3) := by decide +kernel
theorem dX12_hasAlike_11 : decode cX12_hasAlike 11 = .ok (.iload_n 1, 1) := by decide +kernel
theorem dX12_hasAlike_12 : decode cX12_hasAlike 12 = .ok (.iaload, 1) := by decide +kernel
theorem dX12_hasAlike_13 : decode cX12_hasAlike 13 = .ok (.if_icmp .ge 45, 3) := by decide +kernel
theorem dX12_hasAlike_16 : decode cX12_hasAlike 16 = .ok (.iload_n 3, 1) := by decide +kernel
theorem dX12_hasAlike_17 : decode cX12_hasAlike 17 = .ok (.ifCond .ne 29, 3) := by decide +kernel
theorem dX12_hasAlike_20 : decode cX12_hasAlike 20 = .ok (.bipush 40, 2) := by decide +kernel
theorem dX12_hasAlike_22 : decode cX12_hasAlike 22 = .ok (.iload_n 1, 1) := by decide +kernel
theorem dX12_hasAlike_23 : decode cX12_hasAlike 23 = .ok (.imul, 1) := by decide +kernel
theorem dX12_hasAlike_24 : decode cX12_hasAlike 24 = .ok (.iload 4, 2) := by decide +kernel
theorem dX12_hasAlike_26 : decode cX12_hasAlike 26 = .ok (.iadd, 1) := by decide +kernel
theorem dX12_hasAlike_27 : decode cX12_hasAlike 27 = .ok (.iload_n 2, 1) := by decide +kernel
theorem dX12_hasAlike_28 : decode cX12_hasAlike 28 = .ok (.if_icmp .eq 22, 3) := by decide +kernel
theorem dX12_hasAlike_31 : decode cX12_hasAlike 31 = .ok (.aload_n 0, 1) := by decide +kernel
theorem dX12_hasAlike_32 : decode cX12_hasAlike 32 = .ok (.bipush 40, 2) := by decide +kernel
theorem dX12_hasAlike_34 : decode cX12_hasAlike 34 = .ok (.iload_n 1, 1) := by decide +kernel
theorem dX12_hasAlike_35 : decode cX12_hasAlike 35 = .ok (.imul, 1) := by decide +kernel
theorem dX12_hasAlike_36 : decode cX12_hasAlike 36 = .ok (.iload 4, 2) := by decide +kernel
theorem dX12_hasAlike_38 : decode cX12_hasAlike 38 = .ok (.iadd, 1) := by decide +kernel
theorem dX12_hasAlike_39 : decode cX12_hasAlike 39 = .ok (.iload_n 2, 1) := by decide +kernel
theorem dX12_hasAlike_40 : decode cX12_hasAlike 40 = .ok (.invokevirtual 399, 3) := by decide +kernel
theorem dX12_hasAlike_58 : decode cX12_hasAlike 58 = .ok (.iload_n 3, 1) := by decide +kernel
theorem dX12_hasAlike_59 : decode cX12_hasAlike 59 = .ok (.ireturn, 1) := by decide +kernel
theorem dX12_isAlike_0 : decode cX12_isAlike 0 = .ok (.aload_n 0, 1) := by decide +kernel
theorem dX12_isAlike_1 : decode cX12_isAlike 1 = .ok (.getfield 72, 3) := by decide +kernel
theorem dX12_isAlike_4 : decode cX12_isAlike 4 = .ok (.iload_n 1, 1) := by decide +kernel
theorem dX12_isAlike_5 : decode cX12_isAlike 5 = .ok (.iaload, 1) := by decide +kernel
theorem dX12_isAlike_6 : decode cX12_isAlike 6 = .ok (.aload_n 0, 1) := by decide +kernel
theorem dX12_isAlike_7 : decode cX12_isAlike 7 = .ok (.getfield 72, 3) := by decide +kernel
theorem dX12_isAlike_10 : decode cX12_isAlike 10 = .ok (.iload_n 2, 1) := by decide +kernel
theorem dX12_isAlike_11 : decode cX12_isAlike 11 = .ok (.iaload, 1) := by decide +kernel
theorem dX12_isAlike_12 : decode cX12_isAlike 12 = .ok (.if_icmp .ne 67, 3) := by decide +kernel
theorem dX12_isAlike_15 : decode cX12_isAlike 15 = .ok (.aload_n 0, 1) := by decide +kernel
theorem dX12_isAlike_16 : decode cX12_isAlike 16 = .ok (.getfield 75, 3) := by decide +kernel
theorem dX12_isAlike_19 : decode cX12_isAlike 19 = .ok (.iload_n 1, 1) := by decide +kernel
theorem dX12_isAlike_20 : decode cX12_isAlike 20 = .ok (.iaload, 1) := by decide +kernel
theorem dX12_isAlike_21 : decode cX12_isAlike 21 = .ok (.aload_n 0, 1) := by decide +kernel
theorem dX12_isAlike_22 : decode cX12_isAlike 22 = .ok (.getfield 75, 3) := by decide +kernel
theorem dX12_isAlike_25 : decode cX12_isAlike 25 = .ok (.iload_n 2, 1) := by decide +kernel
theorem dX12_isAlike_26 : decode cX12_isAlike 26 = .ok (.iaload, 1) := by decide +kernel
theorem dX12_isAlike_27 : decode cX12_isAlike 27 = .ok (.if_icmp .ne 52, 3) := by decide +kernel
theorem dX12_isAlike_30 : decode cX12_isAlike 30 = .ok (.aload_n 0, 1) := by decide +kernel
theorem dX12_isAlike_31 : decode cX12_isAlike 31 = .ok (.getfield 78, 3) := by decide +kernel
theorem dX12_isAlike_34 : decode cX12_isAlike 34 = .ok (.iload_n 1, 1) := by decide +kernel
theorem dX12_isAlike_35 : decode cX12_isAlike 35 = .ok (.iaload, 1) := by decide +kernel
theorem dX12_isAlike_36 : decode cX12_isAlike 36 = .ok (.aload_n 0, 1) := by decide +kernel
theorem dX12_isAlike_37 : decode cX12_isAlike 37 = .ok (.getfield 78, 3) := by decide +kernel
theorem dX12_isAlike_40 : decode cX12_isAlike 40 = .ok (.iload_n 2, 1) := by decide +kernel
theorem dX12_isAlike_41 : decode cX12_isAlike 41 = .ok (.iaload, 1) := by decide +kernel
theorem dX12_isAlike_42 : decode cX12_isAlike 42 = .ok (.if_icmp .ne 37, 3) := by decide +kernel
theorem dX12_isAlike_45 : decode cX12_isAlike 45 = .ok (.aload_n 0, 1) := by decide +kernel
theorem dX12_isAlike_46 : decode cX12_isAlike 46 = .ok (.getfield 81, 3) := by decide +kernel
theorem dX12_isAlike_49 : decode cX12_isAlike 49 = .ok (.iload_n 1, 1) := by decide +kernel
theorem dX12_isAlike_50 : decode cX12_isAlike 50 = .ok (.iaload, 1) := by decide +kernel
theorem dX12_isAlike_51 : decode cX12_isAlike 51 = .ok (.aload_n 0, 1) := by decide +kernel
theorem dX12_isAlike_52 : decode cX12_isAlike 52 = .ok (.getfield 81, 3) := by decide +kernel
theorem dX12_isAlike_55 : decode cX12_isAlike 55 = .ok (.iload_n 2, 1) := by decide +kernel
theorem dX12_isAlike_56 : decode cX12_isAlike 56 = .ok (.iaload, 1) := by decide +kernel
theorem dX12_isAlike_57 : decode cX12_isAlike 57 = .ok (.if_icmp .ne 22, 3) := by decide +kernel
theorem dX12_isAlike_60 : decode cX12_isAlike 60 = .ok (.aload_n 0, 1) := by decide +kernel
theorem dX12_isAlike_61 : decode cX12_isAlike 61 = .ok (.getfield 84, 3) := by decide +kernel
theorem dX12_isAlike_64 : decode cX12_isAlike 64 = .ok (.iload_n 1, 1) := by decide +kernel
theorem dX12_isAlike_65 : decode cX12_isAlike 65 = .ok (.iaload, 1) := by decide +kernel
theorem dX12_isAlike_66 : decode cX12_isAlike 66 = .ok (.aload_n 0, 1) := by decide +kernel
theorem dX12_isAlike_67 : decode cX12_isAlike 67 = .ok (.getfield 84, 3) := by decide +kernel
theorem dX12_isAlike_70 : decode cX12_isAlike 70 = .ok (.iload_n 2, 1) := by decide +kernel
theorem dX12_isAlike_71 : decode cX12_isAlike 71 = .ok (.iaload, 1) := by decide +kernel
theorem dX12_isAlike_72 : decode cX12_isAlike 72 = .ok (.if_icmp .ne 7, 3) := by decide +kernel
theorem dX12_isAlike_75 : decode cX12_isAlike 75 = .ok (.iconst 1, 1) := by decide +kernel
theorem dX12_isAlike_76 : decode cX12_isAlike 76 = .ok (.goto 4, 3) := by decide +kernel
theorem dX12_isAlike_79 : decode cX12_isAlike 79 = .ok (.iconst 0, 1) := by decide +kernel
theorem dX12_isAlike_80 : decode cX12_isAlike 80 = .ok (.ireturn, 1) := by decide +kernel
set_option maxHeartbeats 4000000 in
set_option maxRecDepth 100000 in
theorem s_X12_isAlike {P : PP} {a0 : Nat} {a1 : Int32} {a2 : Int32} (I : IM P a0) (ha1 : 0 ≤ a1.toInt ∧ a1.toInt ≤ 799) (ha2 : 0 ≤ a2.toInt ∧ a2.toInt ≤ 799) (hW : MW P a0) : CtrI yX12_isAlike cX12_isAlike 3 (some Jvm.ClassFile.FieldType.boolean) ({ frames := 1, cells := 0, slots := 0, locals := 64 } : Room) 0 0 P [.ref a0, .int a1, .int a2] (fun r P2 => P = P2 ∧ (0 ≤ r.toInt ∧ r.toInt ≤ 1)) := by
  refine enI (lv := [(0, .ref a0), (1, .int a1), (2, .int a2)]) (by decide) (Nat.le_of_ble_eq_true rfl) rfl (fun E D cy C Ci0 ret => ?_)
  have ha0 := I.2.1
  have J79 : G E ({ frames := 1, cells := 0, slots := 0, locals := 64 } : Room) D cy 3 P 0 0 79 [] [] := by
    refine g_iconst (v := 0) C dX12_isAlike_79 (by decide) ?_
    exact ret _ _ _ _ _ _ dX12_isAlike_80 rfl (by decide) (by decide) ⟨rfl, (by decide)⟩
  refine g_aload_n C dX12_isAlike_0 rfl 0 rfl ?_
  obtain ⟨b63560, e63561, h63562⟩ := I.fld (ha0) 21 13 800 rfl
  refine g_getR C fi_X12_72 rfl e63561 (ha0).1 (ha0).2 dX12_isAlike_1 ?_
  refine g_iload_n C dX12_isAlike_4 rfl 1 rfl ?_
  refine g_iald (j := (a1.toInt.toNat)) C h63562.1 h63562.2.1 (ix_in h63562.2.2 (by omega)) dX12_isAlike_5 ?_
  refine g_aload_n C dX12_isAlike_6 rfl 0 rfl ?_
  refine g_getR C fi_X12_72 rfl e63561 (ha0).1 (ha0).2 dX12_isAlike_7 ?_
  refine g_iload_n C dX12_isAlike_10 rfl 2 rfl ?_
  refine g_iald (j := (a2.toInt.toNat)) C h63562.1 h63562.2.1 (ix_in h63562.2.2 (by omega)) dX12_isAlike_11 ?_
  have u63564 := ti_rng (pI P b63560 (a1.toInt.toNat))
  have u63565 := ti_rng (pI P b63560 (a2.toInt.toNat))
  refine b_icmp_ne C 79 dX12_isAlike_12 (by decide) (fun h63563 => ?_) (fun h63563 => ?_)
  · have h63563 : (pI P b63560 (a1.toInt.toNat)).toInt ≠ (pI P b63560 (a2.toInt.toNat)).toInt := ti_ne h63563
    refine g_lv (lv' := []) [] rfl ?_
    exact J79 
  · have h63563 : (pI P b63560 (a1.toInt.toNat)).toInt = (pI P b63560 (a2.toInt.toNat)).toInt := congrArg Int32.toInt h63563
    refine g_aload_n C dX12_isAlike_15 rfl 0 rfl ?_
    obtain ⟨b63566, e63567, h63568⟩ := I.fld (ha0) 22 13 800 rfl
    refine g_getR C fi_X12_75 rfl e63567 (ha0).1 (ha0).2 dX12_isAlike_16 ?_
    refine g_iload_n C dX12_isAlike_19 rfl 1 rfl ?_
    refine g_iald (j := (a1.toInt.toNat)) C h63568.1 h63568.2.1 (ix_in h63568.2.2 (by omega)) dX12_isAlike_20 ?_
    have h63569 := I.arr e63567 rfl (a1.toInt.toNat)
    refine g_aload_n C dX12_isAlike_21 rfl 0 rfl ?_
    refine g_getR C fi_X12_75 rfl e63567 (ha0).1 (ha0).2 dX12_isAlike_22 ?_
    refine g_iload_n C dX12_isAlike_25 rfl 2 rfl ?_
    refine g_iald (j := (a2.toInt.toNat)) C h63568.1 h63568.2.1 (ix_in h63568.2.2 (by omega)) dX12_isAlike_26 ?_
    have h63570 := I.arr e63567 rfl (a2.toInt.toNat)
    refine b_icmp_ne C 79 dX12_isAlike_27 (by decide) (fun h63571 => ?_) (fun h63571 => ?_)
    · have h63571 : (pI P b63566 (a1.toInt.toNat)).toInt ≠ (pI P b63566 (a2.toInt.toNat)).toInt := ti_ne h63571
      refine g_lv (lv' := []) [] rfl ?_
      exact J79 
    · have h63571 : (pI P b63566 (a1.toInt.toNat)).toInt = (pI P b63566 (a2.toInt.toNat)).toInt := congrArg Int32.toInt h63571
      refine g_aload_n C dX12_isAlike_30 rfl 0 rfl ?_
      obtain ⟨b63572, e63573, h63574⟩ := I.fld (ha0) 23 13 800 rfl
      refine g_getR C fi_X12_78 rfl e63573 (ha0).1 (ha0).2 dX12_isAlike_31 ?_
      refine g_iload_n C dX12_isAlike_34 rfl 1 rfl ?_
      refine g_iald (j := (a1.toInt.toNat)) C h63574.1 h63574.2.1 (ix_in h63574.2.2 (by omega)) dX12_isAlike_35 ?_
      refine g_aload_n C dX12_isAlike_36 rfl 0 rfl ?_
      refine g_getR C fi_X12_78 rfl e63573 (ha0).1 (ha0).2 dX12_isAlike_37 ?_
      refine g_iload_n C dX12_isAlike_40 rfl 2 rfl ?_
      refine g_iald (j := (a2.toInt.toNat)) C h63574.1 h63574.2.1 (ix_in h63574.2.2 (by omega)) dX12_isAlike_41 ?_
      have u63576 := ti_rng (pI P b63572 (a1.toInt.toNat))
      have u63577 := ti_rng (pI P b63572 (a2.toInt.toNat))
      refine b_icmp_ne C 79 dX12_isAlike_42 (by decide) (fun h63575 => ?_) (fun h63575 => ?_)
      · have h63575 : (pI P b63572 (a1.toInt.toNat)).toInt ≠ (pI P b63572 (a2.toInt.toNat)).toInt := ti_ne h63575
        refine g_lv (lv' := []) [] rfl ?_
        exact J79 
      · have h63575 : (pI P b63572 (a1.toInt.toNat)).toInt = (pI P b63572 (a2.toInt.toNat)).toInt := congrArg Int32.toInt h63575
        refine g_aload_n C dX12_isAlike_45 rfl 0 rfl ?_
        obtain ⟨b63578, e63579, h63580⟩ := I.fld (ha0) 24 13 800 rfl
        refine g_getR C fi_X12_81 rfl e63579 (ha0).1 (ha0).2 dX12_isAlike_46 ?_
        refine g_iload_n C dX12_isAlike_49 rfl 1 rfl ?_
        refine g_iald (j := (a1.toInt.toNat)) C h63580.1 h63580.2.1 (ix_in h63580.2.2 (by omega)) dX12_isAlike_50 ?_
        refine g_aload_n C dX12_isAlike_51 rfl 0 rfl ?_
        refine g_getR C fi_X12_81 rfl e63579 (ha0).1 (ha0).2 dX12_isAlike_52 ?_
        refine g_iload_n C dX12_isAlike_55 rfl 2 rfl ?_
        refine g_iald (j := (a2.toInt.toNat)) C h63580.1 h63580.2.1 (ix_in h63580.2.2 (by omega)) dX12_isAlike_56 ?_
        have u63582 := ti_rng (pI P b63578 (a1.toInt.toNat))
        have u63583 := ti_rng (pI P b63578 (a2.toInt.toNat))
        refine b_icmp_ne C 79 dX12_isAlike_57 (by decide) (fun h63581 => ?_) (fun h63581 => ?_)
        · have h63581 : (pI P b63578 (a1.toInt.toNat)).toInt ≠ (pI P b63578 (a2.toInt.toNat)).toInt := ti_ne h63581
          refine g_lv (lv' := []) [] rfl ?_
          exact J79 
        · have h63581 : (pI P b63578 (a1.toInt.toNat)).toInt = (pI P b63578 (a2.toInt.toNat)).toInt := congrArg Int32.toInt h63581
          refine g_aload_n C dX12_isAlike_60 rfl 0 rfl ?_
          obtain ⟨b63584, e63585, h63586⟩ := I.fld (ha0) 25 13 800 rfl
          refine g_getR C fi_X12_84 rfl e63585 (ha0).1 (ha0).2 dX12_isAlike_61 ?_
          refine g_iload_n C dX12_isAlike_64 rfl 1 rfl ?_
          refine g_iald (j := (a1.toInt.toNat)) C h63586.1 h63586.2.1 (ix_in h63586.2.2 (by omega)) dX12_isAlike_65 ?_
          refine g_aload_n C dX12_isAlike_66 rfl 0 rfl ?_
          refine g_getR C fi_X12_84 rfl e63585 (ha0).1 (ha0).2 dX12_isAlike_67 ?_
          refine g_iload_n C dX12_isAlike_70 rfl 2 rfl ?_
          refine g_iald (j := (a2.toInt.toNat)) C h63586.1 h63586.2.1 (ix_in h63586.2.2 (by omega)) dX12_isAlike_71 ?_
          have u63588 := ti_rng (pI P b63584 (a1.toInt.toNat))
          have u63589 := ti_rng (pI P b63584 (a2.toInt.toNat))
          refine b_icmp_ne C 79 dX12_isAlike_72 (by decide) (fun h63587 => ?_) (fun h63587 => ?_)
          · have h63587 : (pI P b63584 (a1.toInt.toNat)).toInt ≠ (pI P b63584 (a2.toInt.toNat)).toInt := ti_ne h63587
            refine g_lv (lv' := []) [] rfl ?_
            exact J79 
          · have h63587 : (pI P b63584 (a1.toInt.toNat)).toInt = (pI P b63584 (a2.toInt.toNat)).toInt := congrArg Int32.toInt h63587
            refine g_iconst (v := 1) C dX12_isAlike_75 (by decide) ?_
            refine g_goto C 80 dX12_isAlike_76 (by decide) ?_
            exact ret _ _ _ _ _ _ dX12_isAlike_80 rfl (by decide) (by decide) ⟨rfl, (by decide)⟩
theorem dX12_hasAlike_43 : decode cX12_hasAlike 43 = .ok (.ifCond .eq 7, 3) := by decide +kernel
theorem dX12_hasAlike_46 : decode cX12_hasAlike 46 = .ok (.iconst 1, 1) := by decide +kernel
theorem dX12_hasAlike_47 : decode cX12_hasAlike 47 = .ok (.goto 4, 3) := by decide +kernel
theorem dX12_hasAlike_50 : decode cX12_hasAlike 50 = .ok (.iconst 0, 1) := by decide +kernel
theorem dX12_hasAlike_51 : decode cX12_hasAlike 51 = .ok (.istore_n 3, 1) := by decide +kernel
theorem dX12_hasAlike_52 : decode cX12_hasAlike 52 = .ok (.iinc 4 1, 3) := by decide +kernel
theorem dX12_hasAlike_55 : decode cX12_hasAlike 55 = .ok (.goto (-50), 3) := by decide +kernel
set_option maxHeartbeats 4000000 in
set_option maxRecDepth 100000 in
theorem s_X12_hasAlike {P : PP} {a0 : Nat} {a1 : Int32} {a2 : Int32} (I : IM P a0) (ha1 : 0 ≤ a1.toInt ∧ a1.toInt ≤ 3) (ha2 : 0 ≤ a2.toInt ∧ a2.toInt ≤ 799) (hW : MW P a0) : CtrI yX12_hasAlike cX12_hasAlike 5 (some Jvm.ClassFile.FieldType.boolean) ({ frames := 2, cells := 0, slots := 0, locals := 128 } : Room) 0 0 P [.ref a0, .int a1, .int a2] (fun r P2 => P = P2 ∧ (0 ≤ r.toInt ∧ r.toInt ≤ 1)) := by
  refine enI (lv := [(0, .ref a0), (1, .int a1), (2, .int a2)]) (by decide) (Nat.le_of_ble_eq_true rfl) rfl (fun E D cy C Ci0 ret => ?_)
  have ha0 := I.2.1
  have J5 : ∀ (n5 : Nat) (v5_3 : Int32) (v5_4 : Int32), (40 - v5_4.toInt).toNat < n5 → (0 ≤ v5_3.toInt ∧ v5_3.toInt ≤ 1) → (0 ≤ v5_4.toInt ∧ v5_4.toInt ≤ 40) → G E ({ frames := 2, cells := 0, slots := 0, locals := 128 } : Room) D cy 5 P 0 0 5 [(0, .ref a0), (1, .int a1), (2, .int a2), (3, .int v5_3), (4, .int v5_4)] [] := by
    intro n5
    induction n5 with
    | zero => intro v5_3 v5_4 hm5 hv5_3 hv5_4; omega
    | succ n5 ih5 =>
      intro v5_3 v5_4 hm5 hv5_3 hv5_4
      have J51 : ∀ (v51_s0 : Int32), (0 ≤ v5_4.toInt ∧ v5_4.toInt ≤ 39) → (0 ≤ v51_s0.toInt ∧ v51_s0.toInt ≤ 1) → (∀ b, pR P a0 20 = some b → 1 ≤ (pI P b (a1.toInt.toNat)).toInt ∧ (pI P b (a1.toInt.toNat)).toInt ≤ 40) → G E ({ frames := 2, cells := 0, slots := 0, locals := 128 } : Room) D cy 5 P 0 0 51 [(0, .ref a0), (1, .int a1), (2, .int a2), (4, .int v5_4)] [.int v51_s0] := by
        intro v51_s0 hv51_4 hv51_s0 hq51_0
        obtain ⟨b64040, e64041, h64042⟩ := I.fld (ha0) 20 13 20 rfl
        have hq51_0 := hq51_0 b64040 e64041
        refine g_istore_n (lv' := [(3, .int v51_s0), (0, .ref a0), (1, .int a1), (2, .int a2), (4, .int v5_4)]) C dX12_hasAlike_51 rfl (by decide) rfl ?_
        refine s_iinc (lv0 := [(3, .int v51_s0), (0, .ref a0), (1, .int a1), (2, .int a2)]) (m := 1) C dX12_hasAlike_52 4 rfl (by decide) rfl (by decide) (by omega) (fun z64043 h64044 => ?_)
        have h64044 : z64043.toInt = v5_4.toInt + 1 := h64044
        refine g_goto C 5 dX12_hasAlike_55 (by decide) ?_
        refine g_lv (lv' := [(0, .ref a0), (1, .int a1), (2, .int a2), (3, .int v51_s0), (4, .int z64043)]) [2, 3, 4, 1, 0] rfl ?_
        exact ih5 v51_s0 z64043 (by omega) (by omega) (by omega)
      have J50 : (0 ≤ v5_4.toInt ∧ v5_4.toInt ≤ 39) → (∀ b, pR P a0 20 = some b → 1 ≤ (pI P b (a1.toInt.toNat)).toInt ∧ (pI P b (a1.toInt.toNat)).toInt ≤ 40) → G E ({ frames := 2, cells := 0, slots := 0, locals := 128 } : Room) D cy 5 P 0 0 50 [(0, .ref a0), (1, .int a1), (2, .int a2), (4, .int v5_4)] [] := by
        intro hv50_4 hq50_0
        obtain ⟨b64045, e64046, h64047⟩ := I.fld (ha0) 20 13 20 rfl
        have hq50_0 := hq50_0 b64045 e64046
        refine g_iconst (v := 0) C dX12_hasAlike_50 (by decide) ?_
        exact J51 0 (by omega) (by decide) (fun b9 e9 => by rw [e64046] at e9; cases e9; omega)
      have J46 : (0 ≤ v5_4.toInt ∧ v5_4.toInt ≤ 39) → (∀ b, pR P a0 20 = some b → 1 ≤ (pI P b (a1.toInt.toNat)).toInt ∧ (pI P b (a1.toInt.toNat)).toInt ≤ 40) → G E ({ frames := 2, cells := 0, slots := 0, locals := 128 } : Room) D cy 5 P 0 0 46 [(0, .ref a0), (1, .int a1), (2, .int a2), (4, .int v5_4)] [] := by
        intro hv46_4 hq46_0
        obtain ⟨b64048, e64049, h64050⟩ := I.fld (ha0) 20 13 20 rfl
        have hq46_0 := hq46_0 b64048 e64049
        refine g_iconst (v := 1) C dX12_hasAlike_46 (by decide) ?_
        refine g_goto C 51 dX12_hasAlike_47 (by decide) ?_
        exact J51 1 (by omega) (by decide) (fun b9 e9 => by rw [e64049] at e9; cases e9; omega)
      refine g_iload C dX12_hasAlike_5 4 rfl ?_
      refine g_aload_n C dX12_hasAlike_7 rfl 0 rfl ?_
      obtain ⟨b64051, e64052, h64053⟩ := I.fld (ha0) 20 13 20 rfl
      refine g_getR C fi_X12_69 rfl e64052 (ha0).1 (ha0).2 dX12_hasAlike_8 ?_
      refine g_iload_n C dX12_hasAlike_11 rfl 1 rfl ?_
      refine g_iald (j := (a1.toInt.toNat)) C h64053.1 h64053.2.1 (ix_in h64053.2.2 (by omega)) dX12_hasAlike_12 ?_
      have h64054 := I.arr e64052 rfl (a1.toInt.toNat)
      refine b_icmp_ge C 58 dX12_hasAlike_13 (by decide) (fun h64055 => ?_) (fun h64055 => ?_)
      · have h64055 : (pI P b64051 (a1.toInt.toNat)).toInt ≤ v5_4.toInt := h64055
        refine g_iload_n C dX12_hasAlike_58 rfl 3 rfl ?_
        exact ret _ _ _ _ _ _ dX12_hasAlike_59 (nar_b (b01 (by omega))) (by decide) (by decide) ⟨rfl, (by omega)⟩
      · have h64055 : v5_4.toInt < (pI P b64051 (a1.toInt.toNat)).toInt := h64055
        refine g_iload_n C dX12_hasAlike_16 rfl 3 rfl ?_
        refine b_if_ne C 46 dX12_hasAlike_17 (by decide) (fun h64056 => ?_) (fun h64056 => ?_)
        · have h64056 : v5_3.toInt ≠ 0 := ti_ne h64056
          refine g_lv (lv' := [(0, .ref a0), (1, .int a1), (2, .int a2), (4, .int v5_4)]) [0, 1, 2, 4] rfl ?_
          exact J46 (by omega) (fun b9 e9 => by rw [e64052] at e9; cases e9; omega)
        · have h64056 : v5_3.toInt = 0 := congrArg Int32.toInt h64056
          refine g_bipush (v := 40) C dX12_hasAlike_20 (by decide) ?_
          refine g_iload_n C dX12_hasAlike_22 rfl 1 rfl ?_
          refine s_imul C dX12_hasAlike_23 (by show -2147483648 ≤ 40 * a1.toInt ∧ 40 * a1.toInt ≤ 2147483647; omega) (fun z64057 h64058 => ?_)
          have h64058 : z64057.toInt = 40 * a1.toInt := h64058
          refine g_iload C dX12_hasAlike_24 4 rfl ?_
          refine s_iadd C dX12_hasAlike_26 (by show -2147483648 ≤ z64057.toInt + v5_4.toInt ∧ z64057.toInt + v5_4.toInt ≤ 2147483647; omega) (fun z64059 h64060 => ?_)
          have h64060 : z64059.toInt = z64057.toInt + v5_4.toInt := h64060
          refine g_iload_n C dX12_hasAlike_27 rfl 2 rfl ?_
          refine b_icmp_eq C 50 dX12_hasAlike_28 (by decide) (fun h64061 => ?_) (fun h64061 => ?_)
          · have h64061 : z64059.toInt = a2.toInt := congrArg Int32.toInt h64061
            refine g_lv (lv' := [(0, .ref a0), (1, .int a1), (2, .int a2), (4, .int v5_4)]) [0, 1, 2, 4] rfl ?_
            exact J50 (by omega) (fun b9 e9 => by rw [e64052] at e9; cases e9; omega)
          · have h64061 : z64059.toInt ≠ a2.toInt := ti_ne h64061
            refine g_aload_n C dX12_hasAlike_31 rfl 0 rfl ?_
            refine g_bipush (v := 40) C dX12_hasAlike_32 (by decide) ?_
            refine g_iload_n C dX12_hasAlike_34 rfl 1 rfl ?_
            refine s_imul C dX12_hasAlike_35 (by show -2147483648 ≤ 40 * a1.toInt ∧ 40 * a1.toInt ≤ 2147483647; omega) (fun z64062 h64063 => ?_)
            have h64063 : z64062.toInt = 40 * a1.toInt := h64063
            refine g_iload C dX12_hasAlike_36 4 rfl ?_
            refine s_iadd C dX12_hasAlike_38 (by show -2147483648 ≤ z64062.toInt + v5_4.toInt ∧ z64062.toInt + v5_4.toInt ≤ 2147483647; omega) (fun z64064 h64065 => ?_)
            have h64065 : z64064.toInt = z64062.toInt + v5_4.toInt := h64065
            refine g_iload_n C dX12_hasAlike_39 rfl 2 rfl ?_
            refine g_callVI (rest := []) C mv_X12_399 [.int z64064, .int a2] (s_X12_isAlike I (by omega) (by omega) hW) (ha0).1 (ha0).2 rfl rfl (by decide) (Nat.le_of_ble_eq_true rfl) (by decide) dX12_hasAlike_40 (fun r64066 Y64067 h64068 => ?_)
            obtain ⟨rfl, h64068⟩ := h64068
            have h64068 : 0 ≤ r64066.toInt ∧ r64066.toInt ≤ 1 := h64068
            refine b_if_eq C 50 dX12_hasAlike_43 (by decide) (fun h64069 => ?_) (fun h64069 => ?_)
            · have h64069 : r64066.toInt = 0 := congrArg Int32.toInt h64069
              refine g_lv (lv' := [(0, .ref a0), (1, .int a1), (2, .int a2), (4, .int v5_4)]) [0, 1, 2, 4] rfl ?_
              exact J50 (by omega) (fun b9 e9 => by rw [e64052] at e9; cases e9; omega)
            · have h64069 : r64066.toInt ≠ 0 := ti_ne h64069
              refine g_lv (lv' := [(0, .ref a0), (1, .int a1), (2, .int a2), (4, .int v5_4)]) [0, 1, 2, 4] rfl ?_
              exact J46 (by omega) (fun b9 e9 => by rw [e64052] at e9; cases e9; omega)
  refine g_iconst (v := 0) C dX12_hasAlike_0 (by decide) ?_
  refine g_istore_n (lv' := [(3, .int 0), (0, .ref a0), (1, .int a1), (2, .int a2)]) C dX12_hasAlike_1 rfl (by decide) rfl ?_
  refine g_iconst (v := 0) C dX12_hasAlike_2 (by decide) ?_
  refine g_istore (lv' := [(4, .int 0), (3, .int 0), (0, .ref a0), (1, .int a1), (2, .int a2)]) C dX12_hasAlike_3 (by decide) rfl ?_
  refine g_lv (lv' := [(0, .ref a0), (1, .int a1), (2, .int a2), (3, .int 0), (4, .int 0)]) [2, 3, 4, 1, 0] rfl ?_
  exact J5 _ 0 0 (Nat.lt_succ_self _) (by decide) (by decide)
theorem dX12_hasWord_0 : decode cX12_hasWord 0 = .ok (.aload_n 0, 1) := by decide +kernel
theorem dX12_hasWord_1 : decode cX12_hasWord 1 = .ok (.iload_n 1, 1) := by decide +kernel
theorem dX12_hasWord_2 : decode cX12_hasWord 2 = .ok (.invokevirtual 172, 3) := by decide +kernel
theorem dX12_isWord_0 : decode cX12_isWord 0 = .ok (.aload_n 0, 1) := by decide +kernel
theorem dX12_isWord_1 : decode cX12_isWord 1 = .ok (.getfield 162, 3) := by decide +kernel
theorem dX12_isWord_4 : decode cX12_isWord 4 = .ok (.ifCond .ne 39, 3) := by decide +kernel
theorem dX12_isWord_7 : decode cX12_isWord 7 = .ok (.aload_n 0, 1) := by decide +kernel
theorem dX12_isWord_8 : decode cX12_isWord 8 = .ok (.getfield 24, 3) := by decide +kernel
theorem dX12_isWord_11 : decode cX12_isWord 11 = .ok (.aload_n 0, 1) := by decide +kernel
theorem dX12_isWord_12 : decode cX12_isWord 12 = .ok (.getfield 159, 3) := by decide +kernel
theorem dX12_isWord_15 : decode cX12_isWord 15 = .ok (.iaload, 1) := by decide +kernel
theorem dX12_isWord_16 : decode cX12_isWord 16 = .ok (.iconst 1, 1) := by decide +kernel
theorem dX12_isWord_17 : decode cX12_isWord 17 = .ok (.if_icmp .ne 26, 3) := by decide +kernel
theorem dX12_isWord_20 : decode cX12_isWord 20 = .ok (.aload_n 0, 1) := by decide +kernel
theorem dX12_isWord_21 : decode cX12_isWord 21 = .ok (.getfield 30, 3) := by decide +kernel
theorem dX12_isWord_24 : decode cX12_isWord 24 = .ok (.aload_n 0, 1) := by decide +kernel
theorem dX12_isWord_25 : decode cX12_isWord 25 = .ok (.getfield 159, 3) := by decide +kernel
theorem dX12_isWord_28 : decode cX12_isWord 28 = .ok (.laload, 1) := by decide +kernel
theorem dX12_isWord_29 : decode cX12_isWord 29 = .ok (.aload_n 0, 1) := by decide +kernel
theorem dX12_isWord_30 : decode cX12_isWord 30 = .ok (.getfield 42, 3) := by decide +kernel
theorem dX12_isWord_33 : decode cX12_isWord 33 = .ok (.iload_n 1, 1) := by decide +kernel
theorem dX12_isWord_34 : decode cX12_isWord 34 = .ok (.laload, 1) := by decide +kernel
theorem dX12_isWord_35 : decode cX12_isWord 35 = .ok (.lcmp, 1) := by decide +kernel
theorem dX12_isWord_36 : decode cX12_isWord 36 = .ok (.ifCond .ne 7, 3) := by decide +kernel
theorem dX12_isWord_39 : decode cX12_isWord 39 = .ok (.iconst 1, 1) := by decide +kernel
theorem dX12_isWord_40 : decode cX12_isWord 40 = .ok (.goto 4, 3) := by decide +kernel
theorem dX12_isWord_43 : decode cX12_isWord 43 = .ok (.iconst 0, 1) := by decide +kernel
theorem dX12_isWord_44 : decode cX12_isWord 44 = .ok (.ireturn, 1) := by decide +kernel
set_option maxHeartbeats 4000000 in
set_option maxRecDepth 100000 in
theorem s_X12_isWord {P : PP} {a0 : Nat} {a1 : Int32} (I : IM P a0) (ha1 : 0 ≤ a1.toInt ∧ a1.toInt ≤ 3) (hW : MW P a0) : CtrI yX12_isWord cX12_isWord 2 (some Jvm.ClassFile.FieldType.boolean) ({ frames := 1, cells := 0, slots := 0, locals := 64 } : Room) 0 0 P [.ref a0, .int a1] (fun r P2 => P = P2 ∧ (0 ≤ r.toInt ∧ r.toInt ≤ 1)) := by
  refine enI (lv := [(0, .ref a0), (1, .int a1)]) (by decide) (Nat.le_of_ble_eq_true rfl) rfl (fun E D cy C Ci0 ret => ?_)
  have ha0 := I.2.1
  have J43 : (0 ≤ (pI P a0 8).toInt ∧ (pI P a0 8).toInt ≤ 16005) → G E ({ frames := 1, cells := 0, slots := 0, locals := 64 } : Room) D cy 2 P 0 0 43 [] [] := by
    intro hq43_0
    refine g_iconst (v := 0) C dX12_isWord_43 (by decide) ?_
    exact ret _ _ _ _ _ _ dX12_isWord_44 rfl (by decide) (by decide) ⟨rfl, (by decide)⟩
  refine g_aload_n C dX12_isWord_0 rfl 0 rfl ?_
  refine g_getI C fi_X12_162 (by decide) (ha0).1 (ha0).2 dX12_isWord_1 ?_
  have h64089 := I.rg (ha0) 8 rfl
  refine b_if_ne C 43 dX12_isWord_4 (by decide) (fun h64090 => ?_) (fun h64090 => ?_)
  · have h64090 : (pI P a0 8).toInt ≠ 0 := ti_ne h64090
    refine g_lv (lv' := []) [] rfl ?_
    exact J43 (by omega)
  · have h64090 : (pI P a0 8).toInt = 0 := congrArg Int32.toInt h64090
    refine g_aload_n C dX12_isWord_7 rfl 0 rfl ?_
    obtain ⟨b64091, e64092, h64093⟩ := I.fld (ha0) 4 13 1002 rfl
    refine g_getR C fi_X12_24 rfl e64092 (ha0).1 (ha0).2 dX12_isWord_8 ?_
    refine g_aload_n C dX12_isWord_11 rfl 0 rfl ?_
    refine g_getI C fi_X12_159 (by decide) (ha0).1 (ha0).2 dX12_isWord_12 ?_
    have h64094 := I.rg (ha0) 7 rfl
    refine g_iald (j := ((pI P a0 7).toInt.toNat)) C h64093.1 h64093.2.1 (ix_in h64093.2.2 (by omega)) dX12_isWord_15 ?_
    have h64095 := I.arr e64092 rfl ((pI P a0 7).toInt.toNat)
    refine g_iconst (v := 1) C dX12_isWord_16 (by decide) ?_
    refine b_icmp_ne C 43 dX12_isWord_17 (by decide) (fun h64096 => ?_) (fun h64096 => ?_)
    · have h64096 : (pI P b64091 ((pI P a0 7).toInt.toNat)).toInt ≠ 1 := ti_ne h64096
      refine g_lv (lv' := []) [] rfl ?_
      exact J43 (by omega)
    · have h64096 : (pI P b64091 ((pI P a0 7).toInt.toNat)).toInt = 1 := congrArg Int32.toInt h64096
      refine g_aload_n C dX12_isWord_20 rfl 0 rfl ?_
      obtain ⟨b64097, e64098, h64099⟩ := I.fld (ha0) 6 14 1002 rfl
      refine g_getR C fi_X12_30 rfl e64098 (ha0).1 (ha0).2 dX12_isWord_21 ?_
      refine g_aload_n C dX12_isWord_24 rfl 0 rfl ?_
      refine g_getI C fi_X12_159 (by decide) (ha0).1 (ha0).2 dX12_isWord_25 ?_
      refine g_lald (j := ((pI P a0 7).toInt.toNat)) C h64099.1 h64099.2.1 (ix_in h64099.2.2 (by omega)) dX12_isWord_28 ?_
      refine g_topl (fun l64100 _ => ?_)
      refine g_aload_n C dX12_isWord_29 rfl 0 rfl ?_
      obtain ⟨b64101, e64102, h64103⟩ := I.fld (ha0) 9 14 4 rfl
      refine g_getR C fi_X12_42 rfl e64102 (ha0).1 (ha0).2 dX12_isWord_30 ?_
      refine g_iload_n C dX12_isWord_33 rfl 1 rfl ?_
      refine g_lald (j := (a1.toInt.toNat)) C h64103.1 h64103.2.1 (ix_in h64103.2.2 (by omega)) dX12_isWord_34 ?_
      refine g_topl (fun l64104 _ => ?_)
      refine a_lcmp C dX12_isWord_35 (fun z64105 => ?_)
      have u64107 := ti_rng z64105
      refine b_if_ne C 43 dX12_isWord_36 (by decide) (fun h64106 => ?_) (fun h64106 => ?_)
      · have h64106 : z64105.toInt ≠ 0 := ti_ne h64106
        refine g_lv (lv' := []) [] rfl ?_
        exact J43 (by omega)
      · have h64106 : z64105.toInt = 0 := congrArg Int32.toInt h64106
        refine g_iconst (v := 1) C dX12_isWord_39 (by decide) ?_
        refine g_goto C 44 dX12_isWord_40 (by decide) ?_
        exact ret _ _ _ _ _ _ dX12_isWord_44 rfl (by decide) (by decide) ⟨rfl, (by decide)⟩
theorem dX12_hasWord_5 : decode cX12_hasWord 5 = .ok (.istore_n 2, 1) := by decide +kernel
theorem dX12_hasWord_6 : decode cX12_hasWord 6 = .ok (.aload_n 0, 1) := by decide +kernel
theorem dX12_hasWord_7 : decode cX12_hasWord 7 = .ok (.dup, 1) := by decide +kernel
theorem dX12_hasWord_8 : decode cX12_hasWord 8 = .ok (.getfield 159, 3) := by decide +kernel
theorem dX12_hasWord_11 : decode cX12_hasWord 11 = .ok (.iload_n 2, 1) := by decide +kernel
theorem dX12_hasWord_12 : decode cX12_hasWord 12 = .ok (.ifCond .eq 7, 3) := by decide +kernel
theorem dX12_hasWord_15 : decode cX12_hasWord 15 = .ok (.iconst 1, 1) := by decide +kernel
theorem dX12_hasWord_16 : decode cX12_hasWord 16 = .ok (.goto 4, 3) := by decide +kernel
theorem dX12_hasWord_19 : decode cX12_hasWord 19 = .ok (.iconst 0, 1) := by decide +kernel
theorem dX12_hasWord_20 : decode cX12_hasWord 20 = .ok (.iadd, 1) := by decide +kernel
theorem dX12_hasWord_21 : decode cX12_hasWord 21 = .ok (.putfield 159, 3) := by decide +kernel
theorem dX12_howMany_0 : decode cX12_howMany 0 = .ok (.iconst 0, 1) := by decide +kernel
theorem dX12_howMany_1 : decode cX12_howMany 1 = .ok (.istore_n 2, 1) := by decide +kernel
theorem dX12_howMany_2 : decode cX12_howMany 2 = .ok (.iconst 1, 1) := by decide +kernel
theorem dX12_howMany_3 : decode cX12_howMany 3 = .ok (.istore_n 3, 1) := by decide +kernel
theorem dX12_howMany_4 : decode cX12_howMany 4 = .ok (.iload_n 3, 1) := by decide +kernel
theorem dX12_howMany_5 : decode cX12_howMany 5 = .ok (.aload_n 0, 1) := by decide +kernel
theorem dX12_howMany_6 : decode cX12_howMany 6 = .ok (.iload_n 1, 1) := by decide +kernel
theorem dX12_howMany_7 : decode cX12_howMany 7 = .ok (.invokevirtual 238, 3) := by decide +kernel
theorem dX12_howMany_10 : decode cX12_howMany 10 = .ok (.if_icmp .gt 18, 3) := by decide +kernel
theorem dX12_howMany_13 : decode cX12_howMany 13 = .ok (.iload_n 2, 1) := by decide +kernel
theorem dX12_howMany_14 : decode cX12_howMany 14 = .ok (.aload_n 0, 1) := by decide +kernel
theorem dX12_howMany_15 : decode cX12_howMany 15 = .ok (.iload_n 1, 1) := by decide +kernel
theorem dX12_howMany_16 : decode cX12_howMany 16 = .ok (.iload_n 3, 1) := by decide +kernel
theorem dX12_howMany_17 : decode cX12_howMany 17 = .ok (.invokevirtual 241, 3) := by decide +kernel
theorem dX12_howMany_28 : decode cX12_howMany 28 = .ok (.iload_n 2, 1) := by decide +kernel
theorem dX12_howMany_29 : decode cX12_howMany 29 = .ok (.ifCond .ne 5, 3) := by decide +kernel
theorem dX12_howMany_32 : decode cX12_howMany 32 = .ok (.iconst 1, 1) := by decide +kernel
theorem dX12_howMany_33 : decode cX12_howMany 33 = .ok (.ireturn, 1) := by decide +kernel
theorem dX12_oddsOf_0 : decode cX12_oddsOf 0 = .ok (.aload_n 0, 1) := by decide +kernel
theorem dX12_oddsOf_1 : decode cX12_oddsOf 1 = .ok (.getfield 51, 3) := by decide +kernel
theorem dX12_oddsOf_4 : decode cX12_oddsOf 4 = .ok (.bipush 21, 2) := by decide +kernel
theorem dX12_oddsOf_6 : decode cX12_oddsOf 6 = .ok (.iload_n 1, 1) := by decide +kernel
theorem dX12_oddsOf_7 : decode cX12_oddsOf 7 = .ok (.imul, 1) := by decide +kernel
theorem dX12_oddsOf_8 : decode cX12_oddsOf 8 = .ok (.iload_n 2, 1) := by decide +kernel
theorem dX12_oddsOf_9 : decode cX12_oddsOf 9 = .ok (.iadd, 1) := by decide +kernel
theorem dX12_oddsOf_10 : decode cX12_oddsOf 10 = .ok (.iaload, 1) := by decide +kernel
theorem dX12_oddsOf_11 : decode cX12_oddsOf 11 = .ok (.ifCond .ge 7, 3) := by decide +kernel
theorem dX12_oddsOf_14 : decode cX12_oddsOf 14 = .ok (.iconst 0, 1) := by decide +kernel
theorem dX12_oddsOf_15 : decode cX12_oddsOf 15 = .ok (.goto 14, 3) := by decide +kernel
theorem dX12_oddsOf_18 : decode cX12_oddsOf 18 = .ok (.aload_n 0, 1) := by decide +kernel
theorem dX12_oddsOf_19 : decode cX12_oddsOf 19 = .ok (.getfield 51, 3) := by decide +kernel
theorem dX12_oddsOf_22 : decode cX12_oddsOf 22 = .ok (.bipush 21, 2) := by decide +kernel
theorem dX12_oddsOf_24 : decode cX12_oddsOf 24 = .ok (.iload_n 1, 1) := by decide +kernel
theorem dX12_oddsOf_25 : decode cX12_oddsOf 25 = .ok (.imul, 1) := by decide +kernel
theorem dX12_oddsOf_26 : decode cX12_oddsOf 26 = .ok (.iload_n 2, 1) := by decide +kernel
theorem dX12_oddsOf_27 : decode cX12_oddsOf 27 = .ok (.iadd, 1) := by decide +kernel
theorem dX12_oddsOf_28 : decode cX12_oddsOf 28 = .ok (.iaload, 1) := by decide +kernel
theorem dX12_oddsOf_29 : decode cX12_oddsOf 29 = .ok (.ireturn, 1) := by decide +kernel
set_option maxHeartbeats 4000000 in
set_option maxRecDepth 100000 in
theorem s_X12_oddsOf {P : PP} {a0 : Nat} {a1 : Int32} {a2 : Int32} (I : IM P a0) (ha1 : 0 ≤ a1.toInt ∧ a1.toInt ≤ 1) (ha2 : 0 ≤ a2.toInt ∧ a2.toInt ≤ 20) (hW : MW P a0) : CtrI yX12_oddsOf cX12_oddsOf 3 (some Jvm.ClassFile.FieldType.int) ({ frames := 1, cells := 0, slots := 0, locals := 64 } : Room) 0 0 P [.ref a0, .int a1, .int a2] (fun r P2 => P = P2 ∧ (True)) := by
  refine enI (lv := [(0, .ref a0), (1, .int a1), (2, .int a2)]) (by decide) (Nat.le_of_ble_eq_true rfl) rfl (fun E D cy C Ci0 ret => ?_)
  have ha0 := I.2.1
  refine g_aload_n C dX12_oddsOf_0 rfl 0 rfl ?_
  obtain ⟨b64144, e64145, h64146⟩ := I.fld (ha0) 12 13 63 rfl
  refine g_getR C fi_X12_51 rfl e64145 (ha0).1 (ha0).2 dX12_oddsOf_1 ?_
  refine g_bipush (v := 21) C dX12_oddsOf_4 (by decide) ?_
  refine g_iload_n C dX12_oddsOf_6 rfl 1 rfl ?_
  refine s_imul C dX12_oddsOf_7 (by show -2147483648 ≤ 21 * a1.toInt ∧ 21 * a1.toInt ≤ 2147483647; omega) (fun z64147 h64148 => ?_)
  have h64148 : z64147.toInt = 21 * a1.toInt := h64148
  refine g_iload_n C dX12_oddsOf_8 rfl 2 rfl ?_
  refine s_iadd C dX12_oddsOf_9 (by show -2147483648 ≤ z64147.toInt + a2.toInt ∧ z64147.toInt + a2.toInt ≤ 2147483647; omega) (fun z64149 h64150 => ?_)
  have h64150 : z64149.toInt = z64147.toInt + a2.toInt := h64150
  refine g_iald (j := (z64149.toInt.toNat)) C h64146.1 h64146.2.1 (ix_in h64146.2.2 (by omega)) dX12_oddsOf_10 ?_
  have u64152 := ti_rng (pI P b64144 (z64149.toInt.toNat))
  refine b_if_ge C 18 dX12_oddsOf_11 (by decide) (fun h64151 => ?_) (fun h64151 => ?_)
  · have h64151 : 0 ≤ (pI P b64144 (z64149.toInt.toNat)).toInt := h64151
    refine g_aload_n C dX12_oddsOf_18 rfl 0 rfl ?_
    refine g_getR C fi_X12_51 rfl e64145 (ha0).1 (ha0).2 dX12_oddsOf_19 ?_
    refine g_bipush (v := 21) C dX12_oddsOf_22 (by decide) ?_
    refine g_iload_n C dX12_oddsOf_24 rfl 1 rfl ?_
    refine s_imul C dX12_oddsOf_25 (by show -2147483648 ≤ 21 * a1.toInt ∧ 21 * a1.toInt ≤ 2147483647; omega) (fun z64153 h64154 => ?_)
    have h64154 : z64153.toInt = 21 * a1.toInt := h64154
    refine g_iload_n C dX12_oddsOf_26 rfl 2 rfl ?_
    refine s_iadd C dX12_oddsOf_27 (by show -2147483648 ≤ z64153.toInt + a2.toInt ∧ z64153.toInt + a2.toInt ≤ 2147483647; omega) (fun z64155 h64156 => ?_)
    have h64156 : z64155.toInt = z64153.toInt + a2.toInt := h64156
    refine g_iald (j := (z64155.toInt.toNat)) C h64146.1 h64146.2.1 (ix_in h64146.2.2 (by omega)) dX12_oddsOf_28 ?_
    exact ret _ _ _ _ _ _ dX12_oddsOf_29 rfl (by decide) (by decide) ⟨rfl, trivial⟩
  · have h64151 : (pI P b64144 (z64149.toInt.toNat)).toInt < 0 := h64151
    refine g_iconst (v := 0) C dX12_oddsOf_14 (by decide) ?_
    refine g_goto C 29 dX12_oddsOf_15 (by decide) ?_
    exact ret _ _ _ _ _ _ dX12_oddsOf_29 rfl (by decide) (by decide) ⟨rfl, trivial⟩
theorem dX12_howMany_20 : decode cX12_howMany 20 = .ok (.iadd, 1) := by decide +kernel
theorem dX12_howMany_21 : decode cX12_howMany 21 = .ok (.istore_n 2, 1) := by decide +kernel
theorem dX12_howMany_22 : decode cX12_howMany 22 = .ok (.iinc 3 1, 3) := by decide +kernel
theorem dX12_howMany_25 : decode cX12_howMany 25 = .ok (.goto (-21), 3) := by decide +kernel
theorem dX12_howMany_34 : decode cX12_howMany 34 = .ok (.aload_n 0, 1) := by decide +kernel
theorem dX12_howMany_35 : decode cX12_howMany 35 = .ok (.invokevirtual 244, 3) := by decide +kernel
theorem dX12_howMany_38 : decode cX12_howMany 38 = .ok (.iload_n 2, 1) := by decide +kernel
theorem dX12_howMany_39 : decode cX12_howMany 39 = .ok (.irem, 1) := by decide +kernel
theorem dX12_howMany_40 : decode cX12_howMany 40 = .ok (.istore_n 3, 1) := by decide +kernel
theorem dX12_howMany_41 : decode cX12_howMany 41 = .ok (.iconst 1, 1) := by decide +kernel
theorem dX12_howMany_42 : decode cX12_howMany 42 = .ok (.istore 4, 2) := by decide +kernel
theorem dX12_howMany_44 : decode cX12_howMany 44 = .ok (.aload_n 0, 1) := by decide +kernel
theorem dX12_howMany_45 : decode cX12_howMany 45 = .ok (.iload_n 1, 1) := by decide +kernel
theorem dX12_howMany_46 : decode cX12_howMany 46 = .ok (.iconst 1, 1) := by decide +kernel
theorem dX12_howMany_47 : decode cX12_howMany 47 = .ok (.invokevirtual 241, 3) := by decide +kernel
theorem dX12_howMany_50 : decode cX12_howMany 50 = .ok (.istore 5, 2) := by decide +kernel
theorem dX12_howMany_52 : decode cX12_howMany 52 = .ok (.iload 5, 2) := by decide +kernel
theorem dX12_howMany_54 : decode cX12_howMany 54 = .ok (.iload_n 3, 1) := by decide +kernel
theorem dX12_howMany_55 : decode cX12_howMany 55 = .ok (.if_icmp .gt 21, 3) := by decide +kernel
theorem dX12_howMany_58 : decode cX12_howMany 58 = .ok (.iinc 4 1, 3) := by decide +kernel
theorem dX12_howMany_61 : decode cX12_howMany 61 = .ok (.iload 5, 2) := by decide +kernel
theorem dX12_howMany_63 : decode cX12_howMany 63 = .ok (.aload_n 0, 1) := by decide +kernel
theorem dX12_howMany_64 : decode cX12_howMany 64 = .ok (.iload_n 1, 1) := by decide +kernel
theorem dX12_howMany_65 : decode cX12_howMany 65 = .ok (.iload 4, 2) := by decide +kernel
theorem dX12_howMany_67 : decode cX12_howMany 67 = .ok (.invokevirtual 241, 3) := by decide +kernel
theorem dX12_howMany_70 : decode cX12_howMany 70 = .ok (.iadd, 1) := by decide +kernel
theorem dX12_howMany_71 : decode cX12_howMany 71 = .ok (.istore 5, 2) := by decide +kernel
theorem dX12_howMany_73 : decode cX12_howMany 73 = .ok (.goto (-21), 3) := by decide +kernel
theorem dX12_howMany_76 : decode cX12_howMany 76 = .ok (.iload 4, 2) := by decide +kernel
theorem dX12_howMany_78 : decode cX12_howMany 78 = .ok (.ireturn, 1) := by decide +kernel
theorem dX12_init_0 : decode cX12_init 0 = .ok (.aload_n 0, 1) := by decide +kernel
theorem dX12_init_1 : decode cX12_init 1 = .ok (.invokespecial 18, 3) := by decide +kernel
theorem dX12_init_4 : decode cX12_init 4 = .ok (.aload_n 0, 1) := by decide +kernel
theorem dX12_init_5 : decode cX12_init 5 = .ok (.sipush 1000, 3) := by decide +kernel
theorem dX12_init_8 : decode cX12_init 8 = .ok (.newarray .int, 2) := by decide +kernel
theorem dX12_isAllWith_0 : decode cX12_isAllWith 0 = .ok (.iconst 0, 1) := by decide +kernel
theorem dX12_isAllWith_1 : decode cX12_isAllWith 1 = .ok (.istore 4, 2) := by decide +kernel
theorem dX12_isAllWith_3 : decode cX12_isAllWith 3 = .ok (.iload 4, 2) := by decide +kernel
theorem dX12_isAllWith_5 : decode cX12_isAllWith 5 = .ok (.iconst 2, 1) := by decide +kernel
theorem dX12_isAllWith_6 : decode cX12_isAllWith 6 = .ok (.if_icmp .ge 95, 3) := by decide +kernel
theorem dX12_isAllWith_9 : decode cX12_isAllWith 9 = .ok (.aload_n 0, 1) := by decide +kernel
theorem dX12_isAllWith_10 : decode cX12_isAllWith 10 = .ok (.iload_n 1, 1) := by decide +kernel
theorem dX12_isAllWith_11 : decode cX12_isAllWith 11 = .ok (.iload_n 2, 1) := by decide +kernel
theorem dX12_isAllWith_12 : decode cX12_isAllWith 12 = .ok (.iload 4, 2) := by decide +kernel
theorem dX12_isAllWith_14 : decode cX12_isAllWith 14 = .ok (.aload_n 0, 1) := by decide +kernel
theorem dX12_isAllWith_15 : decode cX12_isAllWith 15 = .ok (.getfield 69, 3) := by decide +kernel
theorem dX12_isAllWith_18 : decode cX12_isAllWith 18 = .ok (.iload_n 1, 1) := by decide +kernel
theorem dX12_isAllWith_19 : decode cX12_isAllWith 19 = .ok (.iaload, 1) := by decide +kernel
theorem dX12_isAllWith_20 : decode cX12_isAllWith 20 = .ok (.invokevirtual 339, 3) := by decide +kernel
theorem dX12_isAllWith_23 : decode cX12_isAllWith 23 = .ok (.iconst 0, 1) := by decide +kernel
theorem dX12_isAllWith_24 : decode cX12_isAllWith 24 = .ok (.istore 5, 2) := by decide +kernel
theorem dX12_isAllWith_26 : decode cX12_isAllWith 26 = .ok (.iload 5, 2) := by decide +kernel
theorem dX12_isAllWith_28 : decode cX12_isAllWith 28 = .ok (.bipush 11, 2) := by decide +kernel
theorem dX12_isAllWith_30 : decode cX12_isAllWith 30 = .ok (.if_icmp .ge 47, 3) := by decide +kernel
theorem dX12_isAllWith_33 : decode cX12_isAllWith 33 = .ok (.iload_n 3, 1) := by decide +kernel
theorem dX12_isAllWith_34 : decode cX12_isAllWith 34 = .ok (.iload 5, 2) := by decide +kernel
theorem dX12_isAllWith_36 : decode cX12_isAllWith 36 = .ok (.ishr, 1) := by decide +kernel
theorem dX12_isAllWith_37 : decode cX12_isAllWith 37 = .ok (.iconst 1, 1) := by decide +kernel
theorem dX12_isAllWith_38 : decode cX12_isAllWith 38 = .ok (.iand, 1) := by decide +kernel
theorem dX12_isAllWith_39 : decode cX12_isAllWith 39 = .ok (.iconst 1, 1) := by decide +kernel
theorem dX12_isAllWith_40 : decode cX12_isAllWith 40 = .ok (.if_icmp .ne 31, 3) := by decide +kernel
theorem dX12_isAllWith_43 : decode cX12_isAllWith 43 = .ok (.aload_n 0, 1) := by decide +kernel
theorem dX12_isAllWith_44 : decode cX12_isAllWith 44 = .ok (.iload_n 2, 1) := by decide +kernel
theorem dX12_isAllWith_45 : decode cX12_isAllWith 45 = .ok (.iload 5, 2) := by decide +kernel
theorem dX12_isAllWith_47 : decode cX12_isAllWith 47 = .ok (.invokevirtual 261, 3) := by decide +kernel
theorem dX12_isAllWith_50 : decode cX12_isAllWith 50 = .ok (.istore 6, 2) := by decide +kernel
theorem dX12_isAllWith_52 : decode cX12_isAllWith 52 = .ok (.aload_n 0, 1) := by decide +kernel
theorem dX12_isAllWith_53 : decode cX12_isAllWith 53 = .ok (.iload 6, 2) := by decide +kernel
theorem dX12_isAllWith_55 : decode cX12_isAllWith 55 = .ok (.aload_n 0, 1) := by decide +kernel
theorem dX12_isAllWith_56 : decode cX12_isAllWith 56 = .ok (.iload_n 2, 1) := by decide +kernel
theorem dX12_isAllWith_57 : decode cX12_isAllWith 57 = .ok (.iload 6, 2) := by decide +kernel
theorem dX12_isAllWith_59 : decode cX12_isAllWith 59 = .ok (.invokevirtual 223, 3) := by decide +kernel
theorem dX12_isAllWith_62 : decode cX12_isAllWith 62 = .ok (.iload 4, 2) := by decide +kernel
theorem dX12_isAllWith_64 : decode cX12_isAllWith 64 = .ok (.invokestatic 315, 3) := by decide +kernel
theorem dX12_isAllWith_67 : decode cX12_isAllWith 67 = .ok (.iconst (-1), 1) := by decide +kernel
theorem dX12_isAllWith_68 : decode cX12_isAllWith 68 = .ok (.invokevirtual 308, 3) := by decide +kernel
theorem dX12_isAllWith_71 : decode cX12_isAllWith 71 = .ok (.iinc 5 1, 3) := by decide +kernel
theorem dX12_isAllWith_74 : decode cX12_isAllWith 74 = .ok (.goto (-48), 3) := by decide +kernel
theorem dX12_isAllWith_77 : decode cX12_isAllWith 77 = .ok (.aload_n 0, 1) := by decide +kernel
theorem dX12_isAllWith_78 : decode cX12_isAllWith 78 = .ok (.invokevirtual 346, 3) := by decide +kernel
theorem dX12_isAllWith_81 : decode cX12_isAllWith 81 = .ok (.aload_n 0, 1) := by decide +kernel
theorem dX12_isAllWith_82 : decode cX12_isAllWith 82 = .ok (.iload_n 2, 1) := by decide +kernel
theorem dX12_isAllWith_83 : decode cX12_isAllWith 83 = .ok (.aload_n 0, 1) := by decide +kernel
theorem dX12_isAllWith_84 : decode cX12_isAllWith 84 = .ok (.invokevirtual 349, 3) := by decide +kernel
theorem dX12_isAllWith_87 : decode cX12_isAllWith 87 = .ok (.invokevirtual 371, 3) := by decide +kernel
theorem dX12_isAllWith_90 : decode cX12_isAllWith 90 = .ok (.ifCond .ne 5, 3) := by decide +kernel
theorem dX12_isAllWith_93 : decode cX12_isAllWith 93 = .ok (.iconst 0, 1) := by decide +kernel
theorem dX12_isAllWith_94 : decode cX12_isAllWith 94 = .ok (.ireturn, 1) := by decide +kernel
theorem dX12_isAllWith_95 : decode cX12_isAllWith 95 = .ok (.iinc 4 1, 3) := by decide +kernel
theorem dX12_isAllWith_98 : decode cX12_isAllWith 98 = .ok (.goto (-95), 3) := by decide +kernel
theorem dX12_isAllWith_101 : decode cX12_isAllWith 101 = .ok (.iconst 1, 1) := by decide +kernel
theorem dX12_isAllWith_102 : decode cX12_isAllWith 102 = .ok (.ireturn, 1) := by decide +kernel
set_option maxHeartbeats 4000000 in
set_option maxRecDepth 100000 in
theorem s_X12_isAllWith {P : PP} {a0 : Nat} {a1 : Int32} {a2 : Int32} {a3 : Int32} (I : IM P a0) (ha1 : 0 ≤ a1.toInt ∧ a1.toInt ≤ 3) (ha2 : 0 ≤ a2.toInt ∧ a2.toInt ≤ 1) (hf0 : ∀ b, pR P a0 10 = some b → 1 ≤ (pI P b (a2.toInt.toNat)).toInt ∧ (pI P b (a2.toInt.toNat)).toInt ≤ 16) (hW : MW P a0) : CtrI yX12_isAllWith cX12_isAllWith 7 (some Jvm.ClassFile.FieldType.boolean) ({ frames := 7, cells := 0, slots := 0, locals := 448 } : Room) 0 0 P [.ref a0, .int a1, .int a2, .int a3] (fun r P2 => IM P2 a0 ∧ EM [28, 29, 30, 31, 35, 36, 37, 38] a0 P P2 ∧ MW P2 a0 ∧ (0 ≤ r.toInt ∧ r.toInt ≤ 1)) := by
  refine enI (lv := [(0, .ref a0), (1, .int a1), (2, .int a2), (3, .int a3)]) (by decide) (Nat.le_of_ble_eq_true rfl) rfl (fun E D cy C Ci0 ret => ?_)
  have ha0 := I.2.1
  have J3 : ∀ (n3 : Nat) (P3 : PP) (v3_4 : Int32), (2 - v3_4.toInt).toNat < n3 → (IM P3 a0) → (EM [28, 29, 30, 31, 35, 36, 37, 38] a0 P P3) → (MW P3 a0) → (0 ≤ v3_4.toInt ∧ v3_4.toInt ≤ 2) → (∀ b, pR P3 a0 10 = some b → 1 ≤ (pI P3 b (a2.toInt.toNat)).toInt ∧ (pI P3 b (a2.toInt.toNat)).toInt ≤ 16) → G E ({ frames := 7, cells := 0, slots := 0, locals := 448 } : Room) D cy 7 P3 0 0 3 [(0, .ref a0), (1, .int a1), (2, .int a2), (3, .int a3), (4, .int v3_4)] [] := by
    intro n3
    induction n3 with
    | zero => intro P3 v3_4 hm3 I3 X3 W3 hv3_4 hq3_0; omega
    | succ n3 ih3 =>
      intro P3 v3_4 hm3 I3 X3 W3 hv3_4 hq3_0
      have h65419 := X3.at ha0
      obtain ⟨b65420, e65421, h65422⟩ := I3.fld (h65419) 10 13 2 rfl
      have hq3_0 := hq3_0 b65420 e65421
      have J26 : ∀ (n26 : Nat) (P26 : PP) (v26_5 : Int32), (11 - v26_5.toInt).toNat < n26 → (IM P26 a0) → (EM [28, 29, 30, 31, 35, 36, 37, 38] a0 P P26) → (MW P26 a0) → (0 ≤ v3_4.toInt ∧ v3_4.toInt ≤ 1) → (0 ≤ v26_5.toInt ∧ v26_5.toInt ≤ 11) → (∀ b, pR P26 a0 10 = some b → 1 ≤ (pI P26 b (a2.toInt.toNat)).toInt ∧ (pI P26 b (a2.toInt.toNat)).toInt ≤ 16) → ((pI P26 a0 28).toInt ≤ 44 + v26_5.toInt) → G E ({ frames := 7, cells := 0, slots := 0, locals := 448 } : Room) D cy 7 P26 0 0 26 [(0, .ref a0), (1, .int a1), (2, .int a2), (3, .int a3), (4, .int v3_4), (5, .int v26_5)] [] := by
        intro n26
        induction n26 with
        | zero => intro P26 v26_5 hm26 I26 X26 W26 hv26_4 hv26_5 hq26_0 rel26_0; omega
        | succ n26 ih26 =>
          intro P26 v26_5 hm26 I26 X26 W26 hv26_4 hv26_5 hq26_0 rel26_0
          have h65423 := X26.at ha0
          obtain ⟨b65424, e65425, h65426⟩ := I26.fld (h65423) 10 13 2 rfl
          have hq26_0 := hq26_0 b65424 e65425
          have h65427 := I26.rg h65423 28 rfl
          have J71 : ∀ (P71 : PP), (IM P71 a0) → (EM [28, 29, 30, 31, 35, 36, 37, 38] a0 P P71) → (MW P71 a0) → (0 ≤ v3_4.toInt ∧ v3_4.toInt ≤ 1) → (0 ≤ v26_5.toInt ∧ v26_5.toInt ≤ 10) → (∀ b, pR P71 a0 10 = some b → 1 ≤ (pI P71 b (a2.toInt.toNat)).toInt ∧ (pI P71 b (a2.toInt.toNat)).toInt ≤ 16) → ((pI P71 a0 28).toInt ≤ 45 + v26_5.toInt) → G E ({ frames := 7, cells := 0, slots := 0, locals := 448 } : Room) D cy 7 P71 0 0 71 [(0, .ref a0), (1, .int a1), (2, .int a2), (3, .int a3), (4, .int v3_4), (5, .int v26_5)] [] := by
            intro P71 I71 X71 W71 hv71_4 hv71_5 hq71_0 rel71_0
            have h65428 := X71.at ha0
            obtain ⟨b65429, e65430, h65431⟩ := I71.fld (h65428) 10 13 2 rfl
            have hq71_0 := hq71_0 b65429 e65430
            have h65432 := I71.rg h65428 28 rfl
            refine s_iinc (lv0 := [(0, .ref a0), (1, .int a1), (2, .int a2), (3, .int a3), (4, .int v3_4)]) (m := 1) C dX12_isAllWith_71 5 rfl (by decide) rfl (by decide) (by omega) (fun z65433 h65434 => ?_)
            have h65434 : z65433.toInt = v26_5.toInt + 1 := h65434
            refine g_goto C 26 dX12_isAllWith_74 (by decide) ?_
            refine g_lv (lv' := [(0, .ref a0), (1, .int a1), (2, .int a2), (3, .int a3), (4, .int v3_4), (5, .int z65433)]) [1, 2, 3, 4, 5, 0] rfl ?_
            exact ih26 P71 z65433 (by omega) I71 X71 W71 (by omega) (by omega) (fun b9 e9 => by rw [e65430] at e9; cases e9; omega) (by show (pI P71 a0 28).toInt ≤ 44 + z65433.toInt; omega)
          refine g_iload C dX12_isAllWith_26 5 rfl ?_
          refine g_bipush (v := 11) C dX12_isAllWith_28 (by decide) ?_
          refine b_icmp_ge C 77 dX12_isAllWith_30 (by decide) (fun h65435 => ?_) (fun h65435 => ?_)
          · have h65435 : 11 ≤ v26_5.toInt := h65435
            refine g_aload_n C dX12_isAllWith_77 rfl 0 rfl ?_
            refine g_callVV (rest := []) C mv_X12_346 [] (s_X12_findSolved I26 W26) (h65423).1 (h65423).2 rfl rfl (by decide) (Nat.le_of_ble_eq_true rfl) (by decide) dX12_isAllWith_78 (fun Y65437 h65438 => ?_)
            obtain ⟨Iy65439, Xy65440, W65441⟩ := h65438
            have q65442 := Xy65440.keepA e65425 (by decide) rfl (a2.toInt.toNat)
            have q65443 := Xy65440.keepF 28 (by decide)
            have Xz65444 : EM [28, 29, 30, 31, 35, 36, 37, 38] a0 P Y65437 := EM.tr ha0 X26 (Xy65440.mono (by decide))
            have e65445 := Xy65440.ref h65423 (by decide) e65425
            have h65446 := Xy65440.at h65423
            have h65447 := Xy65440.ar h65426
            refine g_aload_n C dX12_isAllWith_81 rfl 0 rfl ?_
            refine g_iload_n C dX12_isAllWith_82 rfl 2 rfl ?_
            refine g_aload_n C dX12_isAllWith_83 rfl 0 rfl ?_
            refine g_callVI (rest := [.int a2, .ref a0]) C mv_X12_349 [] (s_X12_fixedSet Iy65439 W65441) (h65446).1 (h65446).2 rfl rfl (by decide) (Nat.le_of_ble_eq_true rfl) (by decide) dX12_isAllWith_84 (fun r65448 Y65449 h65450 => ?_)
            obtain ⟨rfl, h65450⟩ := h65450
            have h65450 : True := h65450
            refine g_callVI (rest := []) C mv_X12_371 [.int a2, .int r65448] (s_X12_givesAll Iy65439 (by omega) W65441) (h65446).1 (h65446).2 rfl rfl (by decide) (Nat.le_of_ble_eq_true rfl) (by decide) dX12_isAllWith_87 (fun r65451 Y65452 h65453 => ?_)
            obtain ⟨rfl, h65453⟩ := h65453
            have h65453 : 0 ≤ r65451.toInt ∧ r65451.toInt ≤ 1 := h65453
            refine b_if_ne C 95 dX12_isAllWith_90 (by decide) (fun h65454 => ?_) (fun h65454 => ?_)
            · have h65454 : r65451.toInt ≠ 0 := ti_ne h65454
              refine s_iinc (lv0 := [(0, .ref a0), (1, .int a1), (2, .int a2), (3, .int a3), (5, .int v26_5)]) (m := 1) C dX12_isAllWith_95 4 rfl (by decide) rfl (by decide) (by omega) (fun z65455 h65456 => ?_)
              have h65456 : z65455.toInt = v3_4.toInt + 1 := h65456
              refine g_goto C 3 dX12_isAllWith_98 (by decide) ?_
              refine g_lv (lv' := [(0, .ref a0), (1, .int a1), (2, .int a2), (3, .int a3), (4, .int z65455)]) [1, 2, 3, 4, 0] rfl ?_
              exact ih3 Y65437 z65455 (by omega) Iy65439 Xz65444 W65441 (by omega) (fun b9 e9 => by rw [e65445] at e9; cases e9; omega)
            · have h65454 : r65451.toInt = 0 := congrArg Int32.toInt h65454
              refine g_iconst (v := 0) C dX12_isAllWith_93 (by decide) ?_
              exact ret _ _ _ _ _ _ dX12_isAllWith_94 rfl (by decide) (by decide) ⟨Iy65439, Xz65444, W65441, (by decide)⟩
          · have h65435 : v26_5.toInt < 11 := h65435
            refine g_iload_n C dX12_isAllWith_33 rfl 3 rfl ?_
            refine g_iload C dX12_isAllWith_34 5 rfl ?_
            refine a_ishr C dX12_isAllWith_36 (fun z65457 => ?_)
            refine g_iconst (v := 1) C dX12_isAllWith_37 (by decide) ?_
            refine s_iand C dX12_isAllWith_38 (by show 0 ≤ 1; omega) (fun z65459 h65460 => ?_)
            have h65460 : 0 ≤ z65459.toInt ∧ z65459.toInt ≤ 1 := h65460
            refine g_iconst (v := 1) C dX12_isAllWith_39 (by decide) ?_
            refine b_icmp_ne C 71 dX12_isAllWith_40 (by decide) (fun h65461 => ?_) (fun h65461 => ?_)
            · have h65461 : z65459.toInt ≠ 1 := ti_ne h65461
              exact J71 P26 I26 X26 W26 (by omega) (by omega) (fun b9 e9 => by rw [e65425] at e9; cases e9; omega) (by show (pI P26 a0 28).toInt ≤ 45 + v26_5.toInt; omega)
            · have h65461 : z65459.toInt = 1 := congrArg Int32.toInt h65461
              refine g_aload_n C dX12_isAllWith_43 rfl 0 rfl ?_
              refine g_iload_n C dX12_isAllWith_44 rfl 2 rfl ?_
              refine g_iload C dX12_isAllWith_45 5 rfl ?_
              refine g_callVI (rest := []) C mv_X12_261 [.int a2, .int v26_5] (s_X12_setOf I26 (by omega) (fun b9 e9 => by rw [e65425] at e9; cases e9; show 1 ≤ (pI P26 b65424 (a2.toInt.toNat)).toInt ∧ (pI P26 b65424 (a2.toInt.toNat)).toInt ≤ 16; omega) W26) (h65423).1 (h65423).2 rfl rfl (by decide) (Nat.le_of_ble_eq_true rfl) (by decide) dX12_isAllWith_47 (fun r65462 Y65463 h65464 => ?_)
              obtain ⟨Iy65465, Xy65466, W65467, h65464⟩ := h65464
              have q65468 := Xy65466.keepA e65425 (by decide) rfl (a2.toInt.toNat)
              have q65469 := Xy65466.keepF 28 (by decide)
              have Xz65470 : EM [28, 29, 30, 31, 35, 36, 37, 38] a0 P Y65463 := EM.tr ha0 X26 (Xy65466.mono (by decide))
              have e65471 := Xy65466.ref h65423 (by decide) e65425
              have h65472 := Xy65466.at h65423
              have h65473 := Xy65466.ar h65426
              have h65464 : True := h65464
              refine g_istore (lv' := [(6, .int r65462), (0, .ref a0), (1, .int a1), (2, .int a2), (3, .int a3), (4, .int v3_4), (5, .int v26_5)]) C dX12_isAllWith_50 (by decide) rfl ?_
              refine g_aload_n C dX12_isAllWith_52 rfl 1 rfl ?_
              refine g_iload C dX12_isAllWith_53 0 rfl ?_
              refine g_aload_n C dX12_isAllWith_55 rfl 1 rfl ?_
              refine g_iload_n C dX12_isAllWith_56 rfl 3 rfl ?_
              refine g_iload C dX12_isAllWith_57 0 rfl ?_
              refine g_callVI (rest := [.int r65462, .ref a0]) C mv_X12_223 [.int a2, .int r65462] (s_X12_sumOf Iy65465 (by omega) W65467) (h65472).1 (h65472).2 rfl rfl (by decide) (Nat.le_of_ble_eq_true rfl) (by decide) dX12_isAllWith_59 (fun r65474 Y65475 h65476 => ?_)
              obtain ⟨rfl, h65476⟩ := h65476
              have h65476 : True := h65476
              refine g_iload C dX12_isAllWith_62 5 rfl ?_
              refine g_callSI (b := 0) (ci := 0) (rest := [.int r65462, .ref a0]) C ms_X12_315 [.int r65474, .int v3_4] (s_X12_byteOf Iy65465.1) rfl rfl (by decide) (Nat.le_of_ble_eq_true rfl) (by decide) dX12_isAllWith_64 (fun r65477 Y65478 h65479 => ?_)
              obtain ⟨rfl, h65479⟩ := h65479
              have h65479 : 0 ≤ r65477.toInt ∧ r65477.toInt ≤ 255 := h65479
              refine g_iconst (v := (-1)) C dX12_isAllWith_67 (by decide) ?_
              refine g_callVV (rest := []) C mv_X12_308 [.int r65462, .int r65477, .int (-1)] (s_X12_adds Iy65465 (by omega) W65467) (h65472).1 (h65472).2 rfl rfl (by decide) (Nat.le_of_ble_eq_true rfl) (by decide) dX12_isAllWith_68 (fun Y65481 h65482 => ?_)
              obtain ⟨Iy65483, Xy65484, W65485, p65486⟩ := h65482
              have p65486 : (pI Y65481 a0 28).toInt = (pI Y65463 a0 28).toInt + 1 := p65486
              have q65487 := Xy65484.keepA e65471 (by decide) rfl (a2.toInt.toNat)
              have Xz65488 : EM [28, 29, 30, 31, 35, 36, 37, 38] a0 P Y65481 := EM.tr ha0 Xz65470 (Xy65484.mono (by decide))
              have e65489 := Xy65484.ref h65472 (by decide) e65471
              have h65490 := Xy65484.at h65472
              have h65491 := Xy65484.ar h65473
              have h65492 := Iy65483.rg h65490 28 rfl
              refine g_lv (lv' := [(0, .ref a0), (1, .int a1), (2, .int a2), (3, .int a3), (4, .int v3_4), (5, .int v26_5)]) [1, 2, 3, 4, 5, 6] rfl ?_
              exact J71 Y65481 Iy65483 Xz65488 W65485 (by omega) (by omega) (fun b9 e9 => by rw [e65489] at e9; cases e9; omega) (by show (pI Y65481 a0 28).toInt ≤ 45 + v26_5.toInt; omega)
      refine g_iload C dX12_isAllWith_3 4 rfl ?_
      refine g_iconst (v := 2) C dX12_isAllWith_5 (by decide) ?_
      refine b_icmp_ge C 101 dX12_isAllWith_6 (by decide) (fun h65493 => ?_) (fun h65493 => ?_)
      · have h65493 : 2 ≤ v3_4.toInt := h65493
        refine g_iconst (v := 1) C dX12_isAllWith_101 (by decide) ?_
        exact ret _ _ _ _ _ _ dX12_isAllWith_102 rfl (by decide) (by decide) ⟨I3, X3, W3, (by decide)⟩
      · have h65493 : v3_4.toInt < 2 := h65493
        refine g_aload_n C dX12_isAllWith_9 rfl 0 rfl ?_
        refine g_iload_n C dX12_isAllWith_10 rfl 1 rfl ?_
        refine g_iload_n C dX12_isAllWith_11 rfl 2 rfl ?_
        refine g_iload C dX12_isAllWith_12 4 rfl ?_
        refine g_aload_n C dX12_isAllWith_14 rfl 0 rfl ?_
        obtain ⟨b65494, e65495, h65496⟩ := I3.fld (h65419) 20 13 20 rfl
        refine g_getR C fi_X12_69 rfl e65495 (h65419).1 (h65419).2 dX12_isAllWith_15 ?_
        refine g_iload_n C dX12_isAllWith_18 rfl 1 rfl ?_
        refine g_iald (j := (a1.toInt.toNat)) C h65496.1 h65496.2.1 (ix_in h65496.2.2 (by omega)) dX12_isAllWith_19 ?_
        have h65497 := I3.arr e65495 rfl (a1.toInt.toNat)
        refine g_callVV (rest := []) C mv_X12_339 [.int a1, .int a2, .int v3_4, .int (pI P3 b65494 (a1.toInt.toNat))] (s_X12_gathers I3 (by omega) (by omega) (by omega) (fun b9 e9 => by rw [e65421] at e9; cases e9; show 1 ≤ (pI P3 b65420 (a2.toInt.toNat)).toInt ∧ (pI P3 b65420 (a2.toInt.toNat)).toInt ≤ 16; omega) W3) (h65419).1 (h65419).2 rfl rfl (by decide) (Nat.le_of_ble_eq_true rfl) (by decide) dX12_isAllWith_20 (fun Y65499 h65500 => ?_)
        obtain ⟨Iy65501, Xy65502, W65503, p65504⟩ := h65500
        have p65504 : (pI Y65499 a0 28).toInt ≤ 4 + (pI P3 b65494 (a1.toInt.toNat)).toInt := p65504
        have q65505 := Xy65502.keepA e65421 (by decide) rfl (a2.toInt.toNat)
        have q65506 := Xy65502.keepA e65495 (by decide) rfl (a1.toInt.toNat)
        have Xz65507 : EM [28, 29, 30, 31, 35, 36, 37, 38] a0 P Y65499 := EM.tr ha0 X3 (Xy65502.mono (by decide))
        have e65508 := Xy65502.ref h65419 (by decide) e65421
        have e65509 := Xy65502.ref h65419 (by decide) e65495
        have h65510 := Xy65502.at h65419
        have h65511 := Xy65502.ar h65422
        have h65512 := Xy65502.ar h65496
        have h65513 := Iy65501.rg h65510 28 rfl
        refine g_iconst (v := 0) C dX12_isAllWith_23 (by decide) ?_
        refine g_istore (lv' := [(5, .int 0), (0, .ref a0), (1, .int a1), (2, .int a2), (3, .int a3), (4, .int v3_4)]) C dX12_isAllWith_24 (by decide) rfl ?_
        refine g_lv (lv' := [(0, .ref a0), (1, .int a1), (2, .int a2), (3, .int a3), (4, .int v3_4), (5, .int 0)]) [1, 2, 3, 4, 5, 0] rfl ?_
        exact J26 _ Y65499 0 (Nat.lt_succ_self _) Iy65501 Xz65507 W65503 (by omega) (by decide) (fun b9 e9 => by rw [e65508] at e9; cases e9; omega) (by show (pI Y65499 a0 28).toInt ≤ 44 + 0; omega)
  obtain ⟨b65514, e65515, h65516⟩ := I.fld (ha0) 10 13 2 rfl
  have hf0 := hf0 b65514 e65515
  refine g_iconst (v := 0) C dX12_isAllWith_0 (by decide) ?_
  refine g_istore (lv' := [(4, .int 0), (0, .ref a0), (1, .int a1), (2, .int a2), (3, .int a3)]) C dX12_isAllWith_1 (by decide) rfl ?_
  refine g_lv (lv' := [(0, .ref a0), (1, .int a1), (2, .int a2), (3, .int a3), (4, .int 0)]) [1, 2, 3, 4, 0] rfl ?_
  exact J3 _ P 0 (Nat.lt_succ_self _) I EM.rf hW (by decide) (fun b9 e9 => by rw [e65515] at e9; cases e9; omega)
