theorem dX12_findSlipped_0 : decode cX12_findSlipped 0 = .ok (.aload_n 0, 1) := by decide +kernel
theorem dX12_findSlipped_1 : decode cX12_findSlipped 1 = .ok (.invokevirtual 336, 3) := by decide +kernel
theorem dX12_findSlipped_4 : decode cX12_findSlipped 4 = .ok (.aload_n 0, 1) := by decide +kernel
theorem dX12_findSlipped_5 : decode cX12_findSlipped 5 = .ok (.iload_n 1, 1) := by decide +kernel
theorem dX12_findSlipped_6 : decode cX12_findSlipped 6 = .ok (.iload_n 2, 1) := by decide +kernel
theorem dX12_findSlipped_7 : decode cX12_findSlipped 7 = .ok (.iload_n 3, 1) := by decide +kernel
theorem dX12_findSlipped_8 : decode cX12_findSlipped 8 = .ok (.aload_n 0, 1) := by decide +kernel
theorem dX12_findSlipped_9 : decode cX12_findSlipped 9 = .ok (.getfield 69, 3) := by decide +kernel
theorem dX12_findSlipped_12 : decode cX12_findSlipped 12 = .ok (.iload_n 1, 1) := by decide +kernel
theorem dX12_findSlipped_13 : decode cX12_findSlipped 13 = .ok (.iaload, 1) := by decide +kernel
theorem dX12_findSlipped_14 : decode cX12_findSlipped 14 = .ok (.invokevirtual 339, 3) := by decide +kernel
theorem dX12_findSlipped_17 : decode cX12_findSlipped 17 = .ok (.aload_n 0, 1) := by decide +kernel
theorem dX12_findSlipped_18 : decode cX12_findSlipped 18 = .ok (.invokevirtual 346, 3) := by decide +kernel
theorem dX12_findSlipped_21 : decode cX12_findSlipped 21 = .ok (.aload_n 0, 1) := by decide +kernel
theorem dX12_findSlipped_22 : decode cX12_findSlipped 22 = .ok (.iconst 0, 1) := by decide +kernel
theorem dX12_findSlipped_23 : decode cX12_findSlipped 23 = .ok (.putfield 361, 3) := by decide +kernel
theorem dX12_findSlipped_26 : decode cX12_findSlipped 26 = .ok (.aload_n 0, 1) := by decide +kernel
theorem dX12_findSlipped_27 : decode cX12_findSlipped 27 = .ok (.getfield 326, 3) := by decide +kernel
theorem dX12_findSlipped_30 : decode cX12_findSlipped 30 = .ok (.ifCond .eq 5, 3) := by decide +kernel
theorem dX12_findSlipped_33 : decode cX12_findSlipped 33 = .ok (.iconst 0, 1) := by decide +kernel
theorem dX12_findSlipped_34 : decode cX12_findSlipped 34 = .ok (.ireturn, 1) := by decide +kernel
theorem dX12_findSlipped_35 : decode cX12_findSlipped 35 = .ok (.iconst 0, 1) := by decide +kernel
theorem dX12_findSlipped_36 : decode cX12_findSlipped 36 = .ok (.istore 4, 2) := by decide +kernel
theorem dX12_findSlipped_38 : decode cX12_findSlipped 38 = .ok (.iload 4, 2) := by decide +kernel
theorem dX12_findSlipped_40 : decode cX12_findSlipped 40 = .ok (.aload_n 0, 1) := by decide +kernel
theorem dX12_findSlipped_41 : decode cX12_findSlipped 41 = .ok (.getfield 69, 3) := by decide +kernel
theorem dX12_findSlipped_44 : decode cX12_findSlipped 44 = .ok (.iload_n 1, 1) := by decide +kernel
theorem dX12_findSlipped_45 : decode cX12_findSlipped 45 = .ok (.iaload, 1) := by decide +kernel
theorem dX12_findSlipped_46 : decode cX12_findSlipped 46 = .ok (.if_icmp .ge 105, 3) := by decide +kernel
theorem dX12_findSlipped_49 : decode cX12_findSlipped 49 = .ok (.bipush 40, 2) := by decide +kernel
theorem dX12_findSlipped_51 : decode cX12_findSlipped 51 = .ok (.iload_n 1, 1) := by decide +kernel
theorem dX12_findSlipped_52 : decode cX12_findSlipped 52 = .ok (.imul, 1) := by decide +kernel
theorem dX12_findSlipped_53 : decode cX12_findSlipped 53 = .ok (.iload 4, 2) := by decide +kernel
theorem dX12_findSlipped_55 : decode cX12_findSlipped 55 = .ok (.iadd, 1) := by decide +kernel
theorem dX12_findSlipped_56 : decode cX12_findSlipped 56 = .ok (.istore 5, 2) := by decide +kernel
theorem dX12_findSlipped_58 : decode cX12_findSlipped 58 = .ok (.aload_n 0, 1) := by decide +kernel
theorem dX12_findSlipped_59 : decode cX12_findSlipped 59 = .ok (.getfield 75, 3) := by decide +kernel
theorem dX12_findSlipped_62 : decode cX12_findSlipped 62 = .ok (.iload 5, 2) := by decide +kernel
theorem dX12_findSlipped_64 : decode cX12_findSlipped 64 = .ok (.iaload, 1) := by decide +kernel
theorem dX12_findSlipped_65 : decode cX12_findSlipped 65 = .ok (.iload_n 2, 1) := by decide +kernel
theorem dX12_findSlipped_66 : decode cX12_findSlipped 66 = .ok (.if_icmp .ne 79, 3) := by decide +kernel
theorem dX12_findSlipped_69 : decode cX12_findSlipped 69 = .ok (.aload_n 0, 1) := by decide +kernel
theorem dX12_findSlipped_70 : decode cX12_findSlipped 70 = .ok (.getfield 81, 3) := by decide +kernel
theorem dX12_findSlipped_73 : decode cX12_findSlipped 73 = .ok (.iload 5, 2) := by decide +kernel
theorem dX12_findSlipped_75 : decode cX12_findSlipped 75 = .ok (.iaload, 1) := by decide +kernel
theorem dX12_findSlipped_76 : decode cX12_findSlipped 76 = .ok (.iload_n 3, 1) := by decide +kernel
theorem dX12_findSlipped_77 : decode cX12_findSlipped 77 = .ok (.ishr, 1) := by decide +kernel
theorem dX12_findSlipped_78 : decode cX12_findSlipped 78 = .ok (.iconst 1, 1) := by decide +kernel
theorem dX12_findSlipped_79 : decode cX12_findSlipped 79 = .ok (.iand, 1) := by decide +kernel
theorem dX12_findSlipped_80 : decode cX12_findSlipped 80 = .ok (.iconst 1, 1) := by decide +kernel
theorem dX12_findSlipped_81 : decode cX12_findSlipped 81 = .ok (.if_icmp .ne 64, 3) := by decide +kernel
theorem dX12_findSlipped_84 : decode cX12_findSlipped 84 = .ok (.aload_n 0, 1) := by decide +kernel
theorem dX12_findSlipped_85 : decode cX12_findSlipped 85 = .ok (.getfield 100, 3) := by decide +kernel
theorem dX12_findSlipped_88 : decode cX12_findSlipped 88 = .ok (.iload 4, 2) := by decide +kernel
theorem dX12_findSlipped_90 : decode cX12_findSlipped 90 = .ok (.iconst 1, 1) := by decide +kernel
theorem dX12_findSlipped_91 : decode cX12_findSlipped 91 = .ok (.bastore, 1) := by decide +kernel
theorem dX12_findSlipped_92 : decode cX12_findSlipped 92 = .ok (.aload_n 0, 1) := by decide +kernel
theorem dX12_findSlipped_93 : decode cX12_findSlipped 93 = .ok (.iload_n 1, 1) := by decide +kernel
theorem dX12_findSlipped_94 : decode cX12_findSlipped 94 = .ok (.iload_n 2, 1) := by decide +kernel
theorem dX12_findSlipped_95 : decode cX12_findSlipped 95 = .ok (.iload_n 3, 1) := by decide +kernel
theorem dX12_findSlipped_96 : decode cX12_findSlipped 96 = .ok (.aload_n 0, 1) := by decide +kernel
theorem dX12_findSlipped_97 : decode cX12_findSlipped 97 = .ok (.getfield 69, 3) := by decide +kernel
theorem dX12_findSlipped_100 : decode cX12_findSlipped 100 = .ok (.iload_n 1, 1) := by decide +kernel
theorem dX12_findSlipped_101 : decode cX12_findSlipped 101 = .ok (.iaload, 1) := by decide +kernel
theorem dX12_findSlipped_102 : decode cX12_findSlipped 102 = .ok (.invokevirtual 339, 3) := by decide +kernel
theorem dX12_findSlipped_105 : decode cX12_findSlipped 105 = .ok (.aload_n 0, 1) := by decide +kernel
theorem dX12_findSlipped_106 : decode cX12_findSlipped 106 = .ok (.invokevirtual 346, 3) := by decide +kernel
theorem dX12_findSlipped_109 : decode cX12_findSlipped 109 = .ok (.aload_n 0, 1) := by decide +kernel
theorem dX12_findSlipped_110 : decode cX12_findSlipped 110 = .ok (.getfield 100, 3) := by decide +kernel
theorem dX12_findSlipped_113 : decode cX12_findSlipped 113 = .ok (.iload 4, 2) := by decide +kernel
theorem dX12_findSlipped_115 : decode cX12_findSlipped 115 = .ok (.iconst 0, 1) := by decide +kernel
theorem dX12_findSlipped_116 : decode cX12_findSlipped 116 = .ok (.bastore, 1) := by decide +kernel
theorem dX12_findSlipped_117 : decode cX12_findSlipped 117 = .ok (.aload_n 0, 1) := by decide +kernel
theorem dX12_findSlipped_118 : decode cX12_findSlipped 118 = .ok (.getfield 326, 3) := by decide +kernel
theorem dX12_findSlipped_121 : decode cX12_findSlipped 121 = .ok (.ifCond .eq 24, 3) := by decide +kernel
theorem dX12_findSlipped_124 : decode cX12_findSlipped 124 = .ok (.aload_n 0, 1) := by decide +kernel
theorem dX12_findSlipped_125 : decode cX12_findSlipped 125 = .ok (.getfield 112, 3) := by decide +kernel
theorem dX12_findSlipped_128 : decode cX12_findSlipped 128 = .ok (.aload_n 0, 1) := by decide +kernel
theorem dX12_findSlipped_129 : decode cX12_findSlipped 129 = .ok (.getfield 361, 3) := by decide +kernel
theorem dX12_findSlipped_132 : decode cX12_findSlipped 132 = .ok (.iload 4, 2) := by decide +kernel
theorem dX12_findSlipped_134 : decode cX12_findSlipped 134 = .ok (.iastore, 1) := by decide +kernel
theorem dX12_findSlipped_135 : decode cX12_findSlipped 135 = .ok (.aload_n 0, 1) := by decide +kernel
theorem dX12_findSlipped_136 : decode cX12_findSlipped 136 = .ok (.dup, 1) := by decide +kernel
theorem dX12_findSlipped_137 : decode cX12_findSlipped 137 = .ok (.getfield 361, 3) := by decide +kernel
theorem dX12_findSlipped_140 : decode cX12_findSlipped 140 = .ok (.iconst 1, 1) := by decide +kernel
theorem dX12_findSlipped_141 : decode cX12_findSlipped 141 = .ok (.iadd, 1) := by decide +kernel
theorem dX12_findSlipped_142 : decode cX12_findSlipped 142 = .ok (.putfield 361, 3) := by decide +kernel
theorem dX12_findSlipped_145 : decode cX12_findSlipped 145 = .ok (.iinc 4 1, 3) := by decide +kernel
theorem dX12_findSlipped_148 : decode cX12_findSlipped 148 = .ok (.goto (-110), 3) := by decide +kernel
theorem dX12_findSlipped_151 : decode cX12_findSlipped 151 = .ok (.iconst 1, 1) := by decide +kernel
theorem dX12_findSlipped_152 : decode cX12_findSlipped 152 = .ok (.ireturn, 1) := by decide +kernel
set_option maxHeartbeats 4000000 in
set_option maxRecDepth 100000 in
theorem s_X12_findSlipped {P : PP} {a0 : Nat} {a1 : Int32} {a2 : Int32} {a3 : Int32} (I : IM P a0) (ha1 : 0 ≤ a1.toInt ∧ a1.toInt ≤ 3) (ha2 : 0 ≤ a2.toInt ∧ a2.toInt ≤ 1) (ha3 : 0 ≤ a3.toInt ∧ a3.toInt ≤ 1) (hf0 : ∀ b, pR P a0 10 = some b → 1 ≤ (pI P b (a2.toInt.toNat)).toInt ∧ (pI P b (a2.toInt.toNat)).toInt ≤ 16) (hW : MW P a0) : CtrI yX12_findSlipped cX12_findSlipped 6 (some Jvm.ClassFile.FieldType.boolean) ({ frames := 5, cells := 0, slots := 0, locals := 320 } : Room) 0 0 P [.ref a0, .int a1, .int a2, .int a3] (fun r P2 => IM P2 a0 ∧ EM [28, 29, 30, 31, 32, 35, 36, 37, 38, 39, 40] a0 P P2 ∧ MW P2 a0 ∧ (0 ≤ r.toInt ∧ r.toInt ≤ 1)) := by
  refine enI (lv := [(0, .ref a0), (1, .int a1), (2, .int a2), (3, .int a3)]) (by decide) (Nat.le_of_ble_eq_true rfl) rfl (fun E D cy C Ci0 ret => ?_)
  have ha0 := I.2.1
  have J38 : ∀ (n38 : Nat) (P38 : PP) (v38_4 : Int32), (40 - v38_4.toInt).toNat < n38 → (IM P38 a0) → (EM [28, 29, 30, 31, 32, 35, 36, 37, 38, 39, 40] a0 P P38) → (MW P38 a0) → (0 ≤ v38_4.toInt ∧ v38_4.toInt ≤ 40) → (0 ≤ (pI P38 a0 28).toInt ∧ (pI P38 a0 28).toInt ≤ 44) → (∀ b, pR P38 a0 10 = some b → 1 ≤ (pI P38 b (a2.toInt.toNat)).toInt ∧ (pI P38 b (a2.toInt.toNat)).toInt ≤ 16) → ((pI P38 a0 39).toInt ≤ v38_4.toInt) → G E ({ frames := 5, cells := 0, slots := 0, locals := 320 } : Room) D cy 6 P38 0 0 38 [(0, .ref a0), (1, .int a1), (2, .int a2), (3, .int a3), (4, .int v38_4)] [] := by
    intro n38
    induction n38 with
    | zero => intro P38 v38_4 hm38 I38 X38 W38 hv38_4 hq38_0 hq38_1 rel38_0; omega
    | succ n38 ih38 =>
      intro P38 v38_4 hm38 I38 X38 W38 hv38_4 hq38_0 hq38_1 rel38_0
      have h84116 := X38.at ha0
      obtain ⟨b84117, e84118, h84119⟩ := I38.fld (h84116) 10 13 2 rfl
      have hq38_1 := hq38_1 b84117 e84118
      have h84120 := I38.rg h84116 39 rfl
      have J145 : ∀ (P145 : PP), (IM P145 a0) → (EM [28, 29, 30, 31, 32, 35, 36, 37, 38, 39, 40] a0 P P145) → (MW P145 a0) → (0 ≤ v38_4.toInt ∧ v38_4.toInt ≤ 39) → (0 ≤ (pI P145 a0 28).toInt ∧ (pI P145 a0 28).toInt ≤ 44) → (∀ b, pR P145 a0 10 = some b → 1 ≤ (pI P145 b (a2.toInt.toNat)).toInt ∧ (pI P145 b (a2.toInt.toNat)).toInt ≤ 16) → (∀ b, pR P145 a0 20 = some b → 1 ≤ (pI P145 b (a1.toInt.toNat)).toInt ∧ (pI P145 b (a1.toInt.toNat)).toInt ≤ 40) → ((pI P145 a0 39).toInt ≤ v38_4.toInt + 1) → G E ({ frames := 5, cells := 0, slots := 0, locals := 320 } : Room) D cy 6 P145 0 0 145 [(0, .ref a0), (1, .int a1), (2, .int a2), (3, .int a3), (4, .int v38_4)] [] := by
        intro P145 I145 X145 W145 hv145_4 hq145_0 hq145_1 hq145_2 rel145_0
        have h84121 := X145.at ha0
        obtain ⟨b84122, e84123, h84124⟩ := I145.fld (h84121) 10 13 2 rfl
        have hq145_1 := hq145_1 b84122 e84123
        obtain ⟨b84125, e84126, h84127⟩ := I145.fld (h84121) 20 13 20 rfl
        have hq145_2 := hq145_2 b84125 e84126
        have h84128 := I145.rg h84121 39 rfl
        refine s_iinc (lv0 := [(0, .ref a0), (1, .int a1), (2, .int a2), (3, .int a3)]) (m := 1) C dX12_findSlipped_145 4 rfl (by decide) rfl (by decide) (by omega) (fun z84129 h84130 => ?_)
        have h84130 : z84129.toInt = v38_4.toInt + 1 := h84130
        refine g_goto C 38 dX12_findSlipped_148 (by decide) ?_
        refine g_lv (lv' := [(0, .ref a0), (1, .int a1), (2, .int a2), (3, .int a3), (4, .int z84129)]) [1, 2, 3, 4, 0] rfl ?_
        exact ih38 P145 z84129 (by omega) I145 X145 W145 (by omega) (by omega) (fun b9 e9 => by rw [e84123] at e9; cases e9; omega) (by show (pI P145 a0 39).toInt ≤ z84129.toInt; omega)
      refine g_iload C dX12_findSlipped_38 4 rfl ?_
      refine g_aload_n C dX12_findSlipped_40 rfl 0 rfl ?_
      obtain ⟨b84131, e84132, h84133⟩ := I38.fld (h84116) 20 13 20 rfl
      refine g_getR C fi_X12_69 rfl e84132 (h84116).1 (h84116).2 dX12_findSlipped_41 ?_
      refine g_iload_n C dX12_findSlipped_44 rfl 1 rfl ?_
      refine g_iald (j := (a1.toInt.toNat)) C h84133.1 h84133.2.1 (ix_in h84133.2.2 (by omega)) dX12_findSlipped_45 ?_
      have h84134 := I38.arr e84132 rfl (a1.toInt.toNat)
      refine b_icmp_ge C 151 dX12_findSlipped_46 (by decide) (fun h84135 => ?_) (fun h84135 => ?_)
      · have h84135 : (pI P38 b84131 (a1.toInt.toNat)).toInt ≤ v38_4.toInt := h84135
        refine g_iconst (v := 1) C dX12_findSlipped_151 (by decide) ?_
        exact ret _ _ _ _ _ _ dX12_findSlipped_152 rfl (by decide) (by decide) ⟨I38, X38, W38, (by decide)⟩
      · have h84135 : v38_4.toInt < (pI P38 b84131 (a1.toInt.toNat)).toInt := h84135
        refine g_bipush (v := 40) C dX12_findSlipped_49 (by decide) ?_
        refine g_iload_n C dX12_findSlipped_51 rfl 1 rfl ?_
        refine s_imul C dX12_findSlipped_52 (by show -2147483648 ≤ 40 * a1.toInt ∧ 40 * a1.toInt ≤ 2147483647; omega) (fun z84136 h84137 => ?_)
        have h84137 : z84136.toInt = 40 * a1.toInt := h84137
        refine g_iload C dX12_findSlipped_53 4 rfl ?_
        refine s_iadd C dX12_findSlipped_55 (by show -2147483648 ≤ z84136.toInt + v38_4.toInt ∧ z84136.toInt + v38_4.toInt ≤ 2147483647; omega) (fun z84138 h84139 => ?_)
        have h84139 : z84138.toInt = z84136.toInt + v38_4.toInt := h84139
        refine g_istore (lv' := [(5, .int z84138), (0, .ref a0), (1, .int a1), (2, .int a2), (3, .int a3), (4, .int v38_4)]) C dX12_findSlipped_56 (by decide) rfl ?_
        refine g_aload_n C dX12_findSlipped_58 rfl 1 rfl ?_
        obtain ⟨b84140, e84141, h84142⟩ := I38.fld (h84116) 22 13 800 rfl
        refine g_getR C fi_X12_75 rfl e84141 (h84116).1 (h84116).2 dX12_findSlipped_59 ?_
        refine g_iload C dX12_findSlipped_62 0 rfl ?_
        refine g_iald (j := (z84138.toInt.toNat)) C h84142.1 h84142.2.1 (ix_in h84142.2.2 (by omega)) dX12_findSlipped_64 ?_
        have h84143 := I38.arr e84141 rfl (z84138.toInt.toNat)
        refine g_iload_n C dX12_findSlipped_65 rfl 3 rfl ?_
        refine b_icmp_ne C 145 dX12_findSlipped_66 (by decide) (fun h84144 => ?_) (fun h84144 => ?_)
        · have h84144 : (pI P38 b84140 (z84138.toInt.toNat)).toInt ≠ a2.toInt := ti_ne h84144
          refine g_lv (lv' := [(0, .ref a0), (1, .int a1), (2, .int a2), (3, .int a3), (4, .int v38_4)]) [1, 2, 3, 4, 5] rfl ?_
          exact J145 P38 I38 X38 W38 (by omega) (by omega) (fun b9 e9 => by rw [e84118] at e9; cases e9; omega) (fun b9 e9 => by rw [e84132] at e9; cases e9; omega) (by show (pI P38 a0 39).toInt ≤ v38_4.toInt + 1; omega)
        · have h84144 : (pI P38 b84140 (z84138.toInt.toNat)).toInt = a2.toInt := congrArg Int32.toInt h84144
          refine g_aload_n C dX12_findSlipped_69 rfl 1 rfl ?_
          obtain ⟨b84145, e84146, h84147⟩ := I38.fld (h84116) 24 13 800 rfl
          refine g_getR C fi_X12_81 rfl e84146 (h84116).1 (h84116).2 dX12_findSlipped_70 ?_
          refine g_iload C dX12_findSlipped_73 0 rfl ?_
          refine g_iald (j := (z84138.toInt.toNat)) C h84147.1 h84147.2.1 (ix_in h84147.2.2 (by omega)) dX12_findSlipped_75 ?_
          refine g_iload_n C dX12_findSlipped_76 rfl 4 rfl ?_
          refine a_ishr C dX12_findSlipped_77 (fun z84148 => ?_)
          refine g_iconst (v := 1) C dX12_findSlipped_78 (by decide) ?_
          refine s_iand C dX12_findSlipped_79 (by show 0 ≤ 1; omega) (fun z84150 h84151 => ?_)
          have h84151 : 0 ≤ z84150.toInt ∧ z84150.toInt ≤ 1 := h84151
          refine g_iconst (v := 1) C dX12_findSlipped_80 (by decide) ?_
          refine b_icmp_ne C 145 dX12_findSlipped_81 (by decide) (fun h84152 => ?_) (fun h84152 => ?_)
          · have h84152 : z84150.toInt ≠ 1 := ti_ne h84152
            refine g_lv (lv' := [(0, .ref a0), (1, .int a1), (2, .int a2), (3, .int a3), (4, .int v38_4)]) [1, 2, 3, 4, 5] rfl ?_
            exact J145 P38 I38 X38 W38 (by omega) (by omega) (fun b9 e9 => by rw [e84118] at e9; cases e9; omega) (fun b9 e9 => by rw [e84132] at e9; cases e9; omega) (by show (pI P38 a0 39).toInt ≤ v38_4.toInt + 1; omega)
          · have h84152 : z84150.toInt = 1 := congrArg Int32.toInt h84152
            refine g_aload_n C dX12_findSlipped_84 rfl 1 rfl ?_
            obtain ⟨b84153, e84154, h84155⟩ := I38.fld (h84116) 32 15 40 rfl
            refine g_getR C fi_X12_100 rfl e84154 (h84116).1 (h84116).2 dX12_findSlipped_85 ?_
            refine g_iload C dX12_findSlipped_88 5 rfl ?_
            refine g_iconst (v := 1) C dX12_findSlipped_90 (by decide) ?_
            refine g_zast (j := (v38_4.toInt.toNat)) C h84155.1 h84155.2.1 (ix_in h84155.2.2 (by omega)) (Or.inr rfl) dX12_findSlipped_91 ?_
            refine gqW (ks := [32]) (I38.setA e84154 h84155 (by decide) (arOk.none rfl)) (EM.setA I38 e84154 rfl (by decide)) (fun Y84156 Iy84157 Xy84158 w84159  => ?_)
            have w84159 : (pI Y84156 b84153 (v38_4.toInt.toNat)).toInt = 1 := w84159
            have q84160 := Xy84158.keepF 28 (by decide)
            have q84161 := Xy84158.keepA e84118 (by decide) rfl (a2.toInt.toNat)
            have q84162 := Xy84158.keepF 39 (by decide)
            have q84163 := Xy84158.keepA e84132 (by decide) rfl (a1.toInt.toNat)
            have q84164 := Xy84158.keepA e84141 (by decide) rfl (z84138.toInt.toNat)
            have W84165 := W38.keep I38 Xy84158 (by decide) (by decide) (by decide) (by decide)
            have Xz84166 : EM [28, 29, 30, 31, 32, 35, 36, 37, 38, 39, 40] a0 P Y84156 := EM.tr ha0 X38 (Xy84158.mono (by decide))
            have e84167 := Xy84158.ref h84116 (by decide) e84118
            have e84168 := Xy84158.ref h84116 (by decide) e84132
            have e84169 := Xy84158.ref h84116 (by decide) e84141
            have e84170 := Xy84158.ref h84116 (by decide) e84154
            have h84171 := Xy84158.at h84116
            have h84172 := Xy84158.ar h84119
            have h84173 := Xy84158.ar h84133
            have h84174 := Xy84158.ar h84142
            have h84175 := Xy84158.ar h84155
            refine g_aload_n C dX12_findSlipped_92 rfl 1 rfl ?_
            refine g_iload_n C dX12_findSlipped_93 rfl 2 rfl ?_
            refine g_iload_n C dX12_findSlipped_94 rfl 3 rfl ?_
            refine g_iload_n C dX12_findSlipped_95 rfl 4 rfl ?_
            refine g_aload_n C dX12_findSlipped_96 rfl 1 rfl ?_
            refine g_getR C fi_X12_69 rfl e84168 (h84171).1 (h84171).2 dX12_findSlipped_97 ?_
            refine g_iload_n C dX12_findSlipped_100 rfl 2 rfl ?_
            refine g_iald (j := (a1.toInt.toNat)) C h84173.1 h84173.2.1 (ix_in h84173.2.2 (by omega)) dX12_findSlipped_101 ?_
            refine g_callVV (rest := []) C mv_X12_339 [.int a1, .int a2, .int a3, .int (pI Y84156 b84131 (a1.toInt.toNat))] (s_X12_gathers Iy84157 (by omega) (by omega) (by omega) (fun b9 e9 => by rw [e84167] at e9; cases e9; show 1 ≤ (pI Y84156 b84117 (a2.toInt.toNat)).toInt ∧ (pI Y84156 b84117 (a2.toInt.toNat)).toInt ≤ 16; omega) W84165) (h84171).1 (h84171).2 rfl rfl (by decide) (Nat.le_of_ble_eq_true rfl) (by decide) dX12_findSlipped_102 (fun Y84177 h84178 => ?_)
            obtain ⟨Iy84179, Xy84180, W84181, p84182, p84183⟩ := h84178
            have p84182 : (pI Y84177 a0 28).toInt ≤ 4 + (pI Y84156 b84131 (a1.toInt.toNat)).toInt := p84182
            have q84184 := Xy84180.keepA e84167 (by decide) rfl (a2.toInt.toNat)
            have q84185 := Xy84180.keepF 39 (by decide)
            have q84186 := Xy84180.keepA e84168 (by decide) rfl (a1.toInt.toNat)
            have q84187 := Xy84180.keepA e84169 (by decide) rfl (z84138.toInt.toNat)
            have q84188 := Xy84180.keepA e84170 (by decide) rfl (v38_4.toInt.toNat)
            have Xz84189 : EM [28, 29, 30, 31, 32, 35, 36, 37, 38, 39, 40] a0 P Y84177 := EM.tr ha0 Xz84166 (Xy84180.mono (by decide))
            have e84190 := Xy84180.ref h84171 (by decide) e84167
            have e84191 := Xy84180.ref h84171 (by decide) e84168
            have e84192 := Xy84180.ref h84171 (by decide) e84169
            have e84193 := Xy84180.ref h84171 (by decide) e84170
            have h84194 := Xy84180.at h84171
            have h84195 := Xy84180.ar h84172
            have h84196 := Xy84180.ar h84173
            have h84197 := Xy84180.ar h84174
            have h84198 := Xy84180.ar h84175
            have p84183 := p84183 b84140 e84192
            rw [Xz84189.2.2.2 22 (by decide) rfl b84140 (EM.refB Xz84189 ha0 e84192)] at p84183
            have p84183 : (pI Y84177 a0 28).toInt ≤ 4 + kC (pI P b84140) (40 * a1.toInt).toNat a2.toInt ((pI Y84156 b84131 (a1.toInt.toNat)).toInt : Int).toNat := p84183
            have h84199 := Iy84179.rg h84194 28 rfl
            refine g_aload_n C dX12_findSlipped_105 rfl 1 rfl ?_
            refine g_callVV (rest := []) C mv_X12_346 [] (s_X12_findSolved Iy84179 W84181) (h84194).1 (h84194).2 rfl rfl (by decide) (Nat.le_of_ble_eq_true rfl) (by decide) dX12_findSlipped_106 (fun Y84201 h84202 => ?_)
            obtain ⟨Iy84203, Xy84204, W84205⟩ := h84202
            have q84206 := Xy84204.keepA e84190 (by decide) rfl (a2.toInt.toNat)
            have q84207 := Xy84204.keepF 39 (by decide)
            have q84208 := Xy84204.keepA e84191 (by decide) rfl (a1.toInt.toNat)
            have q84209 := Xy84204.keepA e84192 (by decide) rfl (z84138.toInt.toNat)
            have q84210 := Xy84204.keepA e84193 (by decide) rfl (v38_4.toInt.toNat)
            have q84211 := Xy84204.keepF 28 (by decide)
            have Xz84212 : EM [28, 29, 30, 31, 32, 35, 36, 37, 38, 39, 40] a0 P Y84201 := EM.tr ha0 Xz84189 (Xy84204.mono (by decide))
            have e84213 := Xy84204.ref h84194 (by decide) e84190
            have e84214 := Xy84204.ref h84194 (by decide) e84191
            have e84215 := Xy84204.ref h84194 (by decide) e84192
            have e84216 := Xy84204.ref h84194 (by decide) e84193
            have h84217 := Xy84204.at h84194
            have h84218 := Xy84204.ar h84195
            have h84219 := Xy84204.ar h84196
            have h84220 := Xy84204.ar h84197
            have h84221 := Xy84204.ar h84198
            refine g_aload_n C dX12_findSlipped_109 rfl 1 rfl ?_
            refine g_getR C fi_X12_100 rfl e84216 (h84217).1 (h84217).2 dX12_findSlipped_110 ?_
            refine g_iload C dX12_findSlipped_113 5 rfl ?_
            refine g_iconst (v := 0) C dX12_findSlipped_115 (by decide) ?_
            refine g_zast (j := (v38_4.toInt.toNat)) C h84221.1 h84221.2.1 (ix_in h84221.2.2 (by omega)) (Or.inl rfl) dX12_findSlipped_116 ?_
            refine gqW (ks := [32]) (Iy84203.setA e84216 h84221 (by decide) (arOk.none rfl)) (EM.setA Iy84203 e84216 rfl (by decide)) (fun Y84222 Iy84223 Xy84224 w84225  => ?_)
            have w84225 : (pI Y84222 b84153 (v38_4.toInt.toNat)).toInt = 0 := w84225
            have q84226 := Xy84224.keepA e84213 (by decide) rfl (a2.toInt.toNat)
            have q84227 := Xy84224.keepF 39 (by decide)
            have q84228 := Xy84224.keepA e84214 (by decide) rfl (a1.toInt.toNat)
            have q84229 := Xy84224.keepA e84215 (by decide) rfl (z84138.toInt.toNat)
            have q84230 := Xy84224.keepF 28 (by decide)
            have W84231 := W84205.keep Iy84203 Xy84224 (by decide) (by decide) (by decide) (by decide)
            have Xz84232 : EM [28, 29, 30, 31, 32, 35, 36, 37, 38, 39, 40] a0 P Y84222 := EM.tr ha0 Xz84212 (Xy84224.mono (by decide))
            have e84233 := Xy84224.ref h84217 (by decide) e84213
            have e84234 := Xy84224.ref h84217 (by decide) e84214
            have e84235 := Xy84224.ref h84217 (by decide) e84215
            have e84236 := Xy84224.ref h84217 (by decide) e84216
            have h84237 := Xy84224.at h84217
            have h84238 := Xy84224.ar h84218
            have h84239 := Xy84224.ar h84219
            have h84240 := Xy84224.ar h84220
            have h84241 := Xy84224.ar h84221
            refine g_aload_n C dX12_findSlipped_117 rfl 1 rfl ?_
            refine g_getI C fi_X12_326 (by decide) (h84237).1 (h84237).2 dX12_findSlipped_118 ?_
            have h84242 := Iy84223.rg (h84237) 36 rfl
            refine b_if_eq C 145 dX12_findSlipped_121 (by decide) (fun h84243 => ?_) (fun h84243 => ?_)
            · have h84243 : (pI Y84222 a0 36).toInt = 0 := congrArg Int32.toInt h84243
              refine g_lv (lv' := [(0, .ref a0), (1, .int a1), (2, .int a2), (3, .int a3), (4, .int v38_4)]) [1, 2, 3, 4, 5] rfl ?_
              exact J145 Y84222 Iy84223 Xz84232 W84231 (by omega) (by omega) (fun b9 e9 => by rw [e84233] at e9; cases e9; omega) (fun b9 e9 => by rw [e84234] at e9; cases e9; omega) (by show (pI Y84222 a0 39).toInt ≤ v38_4.toInt + 1; omega)
            · have h84243 : (pI Y84222 a0 36).toInt ≠ 0 := ti_ne h84243
              refine g_aload_n C dX12_findSlipped_124 rfl 1 rfl ?_
              obtain ⟨b84244, e84245, h84246⟩ := Iy84223.fld (h84237) 40 13 40 rfl
              refine g_getR C fi_X12_112 rfl e84245 (h84237).1 (h84237).2 dX12_findSlipped_125 ?_
              refine g_aload_n C dX12_findSlipped_128 rfl 1 rfl ?_
              refine g_getI C fi_X12_361 (by decide) (h84237).1 (h84237).2 dX12_findSlipped_129 ?_
              refine g_iload C dX12_findSlipped_132 5 rfl ?_
              refine g_iast (j := ((pI Y84222 a0 39).toInt.toNat)) C h84246.1 h84246.2.1 (ix_in h84246.2.2 (by omega)) dX12_findSlipped_134 ?_
              refine gqW (ks := [40]) (Iy84223.setA e84245 h84246 (by decide) (arOk.of rfl (by omega))) (EM.setA Iy84223 e84245 rfl (by decide)) (fun Y84247 Iy84248 Xy84249 w84250  => ?_)
              have w84250 : (pI Y84247 b84244 ((pI Y84222 a0 39).toInt.toNat)).toInt = v38_4.toInt := w84250
              have q84251 := Xy84249.keepA e84233 (by decide) rfl (a2.toInt.toNat)
              have q84252 := Xy84249.keepF 39 (by decide)
              have q84253 := Xy84249.keepA e84234 (by decide) rfl (a1.toInt.toNat)
              have q84254 := Xy84249.keepA e84235 (by decide) rfl (z84138.toInt.toNat)
              have q84255 := Xy84249.keepF 28 (by decide)
              have q84256 := Xy84249.keepA e84236 (by decide) rfl (v38_4.toInt.toNat)
              have q84257 := Xy84249.keepF 36 (by decide)
              have W84258 := W84231.keep Iy84223 Xy84249 (by decide) (by decide) (by decide) (by decide)
              have Xz84259 : EM [28, 29, 30, 31, 32, 35, 36, 37, 38, 39, 40] a0 P Y84247 := EM.tr ha0 Xz84232 (Xy84249.mono (by decide))
              have e84260 := Xy84249.ref h84237 (by decide) e84233
              have e84261 := Xy84249.ref h84237 (by decide) e84234
              have e84262 := Xy84249.ref h84237 (by decide) e84235
              have e84263 := Xy84249.ref h84237 (by decide) e84236
              have h84264 := Xy84249.at h84237
              have h84265 := Xy84249.ar h84238
              have h84266 := Xy84249.ar h84239
              have h84267 := Xy84249.ar h84240
              have h84268 := Xy84249.ar h84241
              refine g_aload_n C dX12_findSlipped_135 rfl 1 rfl ?_
              refine g_dup C dX12_findSlipped_136 rfl ?_
              refine g_getI C fi_X12_361 (by decide) (h84264).1 (h84264).2 dX12_findSlipped_137 ?_
              refine g_iconst (v := 1) C dX12_findSlipped_140 (by decide) ?_
              refine s_iadd C dX12_findSlipped_141 (by show -2147483648 ≤ (pI Y84247 a0 39).toInt + 1 ∧ (pI Y84247 a0 39).toInt + 1 ≤ 2147483647; omega) (fun z84269 h84270 => ?_)
              have h84270 : z84269.toInt = (pI Y84247 a0 39).toInt + 1 := h84270
              refine g_putI C fi_X12_361 rfl (h84264).1 (h84264).2 dX12_findSlipped_142 ?_
              refine gqW (ks := [39]) (Iy84248.setI (rgOk.of rfl (by omega))) (EM.setI Iy84248 (by decide)) (fun Y84271 Iy84272 Xy84273 w84274  => ?_)
              have w84274 : (pI Y84271 a0 39).toInt = z84269.toInt := w84274
              have q84275 := Xy84273.keepA e84260 (by decide) rfl (a2.toInt.toNat)
              have q84276 := Xy84273.keepA e84261 (by decide) rfl (a1.toInt.toNat)
              have q84277 := Xy84273.keepA e84262 (by decide) rfl (z84138.toInt.toNat)
              have q84278 := Xy84273.keepF 28 (by decide)
              have q84279 := Xy84273.keepA e84263 (by decide) rfl (v38_4.toInt.toNat)
              have q84280 := Xy84273.keepF 36 (by decide)
              have W84281 := W84258.keep Iy84248 Xy84273 (by decide) (by decide) (by decide) (by decide)
              have Xz84282 : EM [28, 29, 30, 31, 32, 35, 36, 37, 38, 39, 40] a0 P Y84271 := EM.tr ha0 Xz84259 (Xy84273.mono (by decide))
              have e84283 := Xy84273.ref h84264 (by decide) e84260
              have e84284 := Xy84273.ref h84264 (by decide) e84261
              have e84285 := Xy84273.ref h84264 (by decide) e84262
              have e84286 := Xy84273.ref h84264 (by decide) e84263
              have h84287 := Xy84273.at h84264
              have h84288 := Xy84273.ar h84265
              have h84289 := Xy84273.ar h84266
              have h84290 := Xy84273.ar h84267
              have h84291 := Xy84273.ar h84268
              refine g_lv (lv' := [(0, .ref a0), (1, .int a1), (2, .int a2), (3, .int a3), (4, .int v38_4)]) [1, 2, 3, 4, 5] rfl ?_
              exact J145 Y84271 Iy84272 Xz84282 W84281 (by omega) (by omega) (fun b9 e9 => by rw [e84283] at e9; cases e9; omega) (fun b9 e9 => by rw [e84284] at e9; cases e9; omega) (by show (pI Y84271 a0 39).toInt ≤ v38_4.toInt + 1; omega)
  obtain ⟨b84292, e84293, h84294⟩ := I.fld (ha0) 10 13 2 rfl
  have hf0 := hf0 b84292 e84293
  refine g_aload_n C dX12_findSlipped_0 rfl 0 rfl ?_
  refine g_callVV (rest := []) C mv_X12_336 [] (s_X12_leavesNone I hW) (ha0).1 (ha0).2 rfl rfl (by decide) (Nat.le_of_ble_eq_true rfl) (by decide) dX12_findSlipped_1 (fun Y84296 h84297 => ?_)
  obtain ⟨Iy84298, Xy84299, W84300⟩ := h84297
  have q84301 := Xy84299.keepA e84293 (by decide) rfl (a2.toInt.toNat)
  have Xz84302 : EM [28, 29, 30, 31, 32, 35, 36, 37, 38, 39, 40] a0 P Y84296 := Xy84299.mono (by decide)
  have e84303 := Xy84299.ref ha0 (by decide) e84293
  have h84304 := Xy84299.at ha0
  have h84305 := Xy84299.ar h84294
  refine g_aload_n C dX12_findSlipped_4 rfl 0 rfl ?_
  refine g_iload_n C dX12_findSlipped_5 rfl 1 rfl ?_
  refine g_iload_n C dX12_findSlipped_6 rfl 2 rfl ?_
  refine g_iload_n C dX12_findSlipped_7 rfl 3 rfl ?_
  refine g_aload_n C dX12_findSlipped_8 rfl 0 rfl ?_
  obtain ⟨b84306, e84307, h84308⟩ := Iy84298.fld (h84304) 20 13 20 rfl
  refine g_getR C fi_X12_69 rfl e84307 (h84304).1 (h84304).2 dX12_findSlipped_9 ?_
  refine g_iload_n C dX12_findSlipped_12 rfl 1 rfl ?_
  refine g_iald (j := (a1.toInt.toNat)) C h84308.1 h84308.2.1 (ix_in h84308.2.2 (by omega)) dX12_findSlipped_13 ?_
  have h84309 := Iy84298.arr e84307 rfl (a1.toInt.toNat)
  refine g_callVV (rest := []) C mv_X12_339 [.int a1, .int a2, .int a3, .int (pI Y84296 b84306 (a1.toInt.toNat))] (s_X12_gathers Iy84298 (by omega) (by omega) (by omega) (fun b9 e9 => by rw [e84303] at e9; cases e9; show 1 ≤ (pI Y84296 b84292 (a2.toInt.toNat)).toInt ∧ (pI Y84296 b84292 (a2.toInt.toNat)).toInt ≤ 16; omega) W84300) (h84304).1 (h84304).2 rfl rfl (by decide) (Nat.le_of_ble_eq_true rfl) (by decide) dX12_findSlipped_14 (fun Y84311 h84312 => ?_)
  obtain ⟨Iy84313, Xy84314, W84315, p84316, p84317⟩ := h84312
  have p84316 : (pI Y84311 a0 28).toInt ≤ 4 + (pI Y84296 b84306 (a1.toInt.toNat)).toInt := p84316
  have q84318 := Xy84314.keepA e84303 (by decide) rfl (a2.toInt.toNat)
  have q84319 := Xy84314.keepA e84307 (by decide) rfl (a1.toInt.toNat)
  have Xz84320 : EM [28, 29, 30, 31, 32, 35, 36, 37, 38, 39, 40] a0 P Y84311 := EM.tr ha0 Xz84302 (Xy84314.mono (by decide))
  have e84321 := Xy84314.ref h84304 (by decide) e84303
  have e84322 := Xy84314.ref h84304 (by decide) e84307
  have h84323 := Xy84314.at h84304
  have h84324 := Xy84314.ar h84305
  have h84325 := Xy84314.ar h84308
  obtain ⟨b84326, e84327, h84328⟩ := Iy84313.fld (h84323) 22 13 800 rfl
  have p84317 := p84317 b84326 e84327
  rw [Xz84320.2.2.2 22 (by decide) rfl b84326 (EM.refB Xz84320 ha0 e84327)] at p84317
  have p84317 : (pI Y84311 a0 28).toInt ≤ 4 + kC (pI P b84326) (40 * a1.toInt).toNat a2.toInt ((pI Y84296 b84306 (a1.toInt.toNat)).toInt : Int).toNat := p84317
  have h84329 := Iy84313.rg h84323 28 rfl
  refine g_aload_n C dX12_findSlipped_17 rfl 0 rfl ?_
  refine g_callVV (rest := []) C mv_X12_346 [] (s_X12_findSolved Iy84313 W84315) (h84323).1 (h84323).2 rfl rfl (by decide) (Nat.le_of_ble_eq_true rfl) (by decide) dX12_findSlipped_18 (fun Y84331 h84332 => ?_)
  obtain ⟨Iy84333, Xy84334, W84335⟩ := h84332
  have q84336 := Xy84334.keepA e84321 (by decide) rfl (a2.toInt.toNat)
  have q84337 := Xy84334.keepA e84322 (by decide) rfl (a1.toInt.toNat)
  have q84338 := Xy84334.keepF 28 (by decide)
  have Xz84339 : EM [28, 29, 30, 31, 32, 35, 36, 37, 38, 39, 40] a0 P Y84331 := EM.tr ha0 Xz84320 (Xy84334.mono (by decide))
  have e84340 := Xy84334.ref h84323 (by decide) e84321
  have e84341 := Xy84334.ref h84323 (by decide) e84322
  have h84342 := Xy84334.at h84323
  have h84343 := Xy84334.ar h84324
  have h84344 := Xy84334.ar h84325
  refine g_aload_n C dX12_findSlipped_21 rfl 0 rfl ?_
  refine g_iconst (v := 0) C dX12_findSlipped_22 (by decide) ?_
  refine g_putI C fi_X12_361 rfl (h84342).1 (h84342).2 dX12_findSlipped_23 ?_
  refine gqW (ks := [39]) (Iy84333.setI (rgOk.of rfl (by decide))) (EM.setI Iy84333 (by decide)) (fun Y84345 Iy84346 Xy84347 w84348  => ?_)
  have w84348 : (pI Y84345 a0 39).toInt = 0 := w84348
  have q84349 := Xy84347.keepA e84340 (by decide) rfl (a2.toInt.toNat)
  have q84350 := Xy84347.keepA e84341 (by decide) rfl (a1.toInt.toNat)
  have q84351 := Xy84347.keepF 28 (by decide)
  have W84352 := W84335.keep Iy84333 Xy84347 (by decide) (by decide) (by decide) (by decide)
  have Xz84353 : EM [28, 29, 30, 31, 32, 35, 36, 37, 38, 39, 40] a0 P Y84345 := EM.tr ha0 Xz84339 (Xy84347.mono (by decide))
  have e84354 := Xy84347.ref h84342 (by decide) e84340
  have e84355 := Xy84347.ref h84342 (by decide) e84341
  have h84356 := Xy84347.at h84342
  have h84357 := Xy84347.ar h84343
  have h84358 := Xy84347.ar h84344
  refine g_aload_n C dX12_findSlipped_26 rfl 0 rfl ?_
  refine g_getI C fi_X12_326 (by decide) (h84356).1 (h84356).2 dX12_findSlipped_27 ?_
  have h84359 := Iy84346.rg (h84356) 36 rfl
  refine b_if_eq C 35 dX12_findSlipped_30 (by decide) (fun h84360 => ?_) (fun h84360 => ?_)
  · have h84360 : (pI Y84345 a0 36).toInt = 0 := congrArg Int32.toInt h84360
    refine g_iconst (v := 0) C dX12_findSlipped_35 (by decide) ?_
    refine g_istore (lv' := [(4, .int 0), (0, .ref a0), (1, .int a1), (2, .int a2), (3, .int a3)]) C dX12_findSlipped_36 (by decide) rfl ?_
    refine g_lv (lv' := [(0, .ref a0), (1, .int a1), (2, .int a2), (3, .int a3), (4, .int 0)]) [1, 2, 3, 4, 0] rfl ?_
    exact J38 _ Y84345 0 (Nat.lt_succ_self _) Iy84346 Xz84353 W84352 (by decide) (by omega) (fun b9 e9 => by rw [e84354] at e9; cases e9; omega) (by show (pI Y84345 a0 39).toInt ≤ 0; omega)
  · have h84360 : (pI Y84345 a0 36).toInt ≠ 0 := ti_ne h84360
    refine g_iconst (v := 0) C dX12_findSlipped_33 (by decide) ?_
    exact ret _ _ _ _ _ _ dX12_findSlipped_34 rfl (by decide) (by decide) ⟨Iy84346, Xz84353, W84352, (by decide)⟩
theorem dX12_forged_0 : decode cX12_forged 0 = .ok (.aload_n 0, 1) := by decide +kernel
theorem dX12_forged_1 : decode cX12_forged 1 = .ok (.iconst 0, 1) := by decide +kernel
theorem dX12_forged_2 : decode cX12_forged 2 = .ok (.putfield 1, 3) := by decide +kernel
theorem dX12_forged_5 : decode cX12_forged 5 = .ok (.iload_n 1, 1) := by decide +kernel
theorem dX12_forged_6 : decode cX12_forged 6 = .ok (.invokestatic 278, 3) := by decide +kernel
theorem dX12_forged_9 : decode cX12_forged 9 = .ok (.ifCond .eq 45, 3) := by decide +kernel
theorem dX12_forged_12 : decode cX12_forged 12 = .ok (.aload_n 0, 1) := by decide +kernel
theorem dX12_forged_13 : decode cX12_forged 13 = .ok (.iload_n 2, 1) := by decide +kernel
theorem dX12_forged_14 : decode cX12_forged 14 = .ok (.invokevirtual 192, 3) := by decide +kernel
theorem dX12_forged_17 : decode cX12_forged 17 = .ok (.ifCond .eq 37, 3) := by decide +kernel
theorem dX12_forged_20 : decode cX12_forged 20 = .ok (.iload_n 3, 1) := by decide +kernel
theorem dX12_forged_21 : decode cX12_forged 21 = .ok (.invokestatic 258, 3) := by decide +kernel
theorem dX12_forged_24 : decode cX12_forged 24 = .ok (.ifCond .eq 30, 3) := by decide +kernel
theorem dX12_forged_27 : decode cX12_forged 27 = .ok (.iload 4, 2) := by decide +kernel
theorem dX12_forged_29 : decode cX12_forged 29 = .ok (.iconst 0, 1) := by decide +kernel
theorem dX12_forged_30 : decode cX12_forged 30 = .ok (.ldc 195, 2) := by decide +kernel
theorem dX12_forged_32 : decode cX12_forged 32 = .ok (.invokestatic 178, 3) := by decide +kernel
theorem dX12_forged_35 : decode cX12_forged 35 = .ok (.ifCond .eq 19, 3) := by decide +kernel
theorem dX12_forged_38 : decode cX12_forged 38 = .ok (.iload 5, 2) := by decide +kernel
theorem dX12_forged_40 : decode cX12_forged 40 = .ok (.iconst 0, 1) := by decide +kernel
theorem dX12_forged_41 : decode cX12_forged 41 = .ok (.sipush 996, 3) := by decide +kernel
theorem dX12_forged_44 : decode cX12_forged 44 = .ok (.invokestatic 178, 3) := by decide +kernel
theorem dX12_forged_47 : decode cX12_forged 47 = .ok (.ifCond .eq 7, 3) := by decide +kernel
theorem dX12_forged_50 : decode cX12_forged 50 = .ok (.iconst 1, 1) := by decide +kernel
theorem dX12_forged_51 : decode cX12_forged 51 = .ok (.goto 4, 3) := by decide +kernel
theorem dX12_forged_54 : decode cX12_forged 54 = .ok (.iconst 0, 1) := by decide +kernel
theorem dX12_forged_55 : decode cX12_forged 55 = .ok (.istore 6, 2) := by decide +kernel
theorem dX12_forged_57 : decode cX12_forged 57 = .ok (.iload 6, 2) := by decide +kernel
theorem dX12_forged_59 : decode cX12_forged 59 = .ok (.ifCond .eq 28, 3) := by decide +kernel
theorem dX12_forged_62 : decode cX12_forged 62 = .ok (.aload_n 0, 1) := by decide +kernel
theorem dX12_forged_63 : decode cX12_forged 63 = .ok (.getfield 69, 3) := by decide +kernel
theorem dX12_forged_66 : decode cX12_forged 66 = .ok (.iload_n 1, 1) := by decide +kernel
theorem dX12_forged_67 : decode cX12_forged 67 = .ok (.iaload, 1) := by decide +kernel
theorem dX12_forged_68 : decode cX12_forged 68 = .ok (.bipush 40, 2) := by decide +kernel
theorem dX12_forged_70 : decode cX12_forged 70 = .ok (.if_icmp .ge 17, 3) := by decide +kernel
theorem dX12_forged_73 : decode cX12_forged 73 = .ok (.aload_n 0, 1) := by decide +kernel
theorem dX12_forged_74 : decode cX12_forged 74 = .ok (.iload_n 1, 1) := by decide +kernel
theorem dX12_forged_75 : decode cX12_forged 75 = .ok (.iload_n 2, 1) := by decide +kernel
theorem dX12_forged_76 : decode cX12_forged 76 = .ok (.iload_n 3, 1) := by decide +kernel
theorem dX12_forged_77 : decode cX12_forged 77 = .ok (.iload 4, 2) := by decide +kernel
theorem dX12_forged_79 : decode cX12_forged 79 = .ok (.iload 5, 2) := by decide +kernel
theorem dX12_forged_81 : decode cX12_forged 81 = .ok (.invokevirtual 291, 3) := by decide +kernel
theorem dX12_laysIf_0 : decode cX12_laysIf 0 = .ok (.aload_n 0, 1) := by decide +kernel
theorem dX12_laysIf_1 : decode cX12_laysIf 1 = .ok (.getfield 66, 3) := by decide +kernel
theorem dX12_laysIf_4 : decode cX12_laysIf 4 = .ok (.iload_n 2, 1) := by decide +kernel
theorem dX12_laysIf_5 : decode cX12_laysIf 5 = .ok (.iaload, 1) := by decide +kernel
theorem dX12_laysIf_6 : decode cX12_laysIf 6 = .ok (.ifCond .le 28, 3) := by decide +kernel
theorem dX12_laysIf_9 : decode cX12_laysIf 9 = .ok (.iload 5, 2) := by decide +kernel
theorem dX12_laysIf_11 : decode cX12_laysIf 11 = .ok (.aload_n 0, 1) := by decide +kernel
theorem dX12_laysIf_12 : decode cX12_laysIf 12 = .ok (.iload_n 2, 1) := by decide +kernel
theorem dX12_laysIf_13 : decode cX12_laysIf 13 = .ok (.iload_n 3, 1) := by decide +kernel
theorem dX12_laysIf_14 : decode cX12_laysIf 14 = .ok (.iload 4, 2) := by decide +kernel
theorem dX12_laysIf_16 : decode cX12_laysIf 16 = .ok (.invokevirtual 267, 3) := by decide +kernel
theorem dX12_laysIf_19 : decode cX12_laysIf 19 = .ok (.if_icmp .eq 15, 3) := by decide +kernel
theorem dX12_laysIf_22 : decode cX12_laysIf 22 = .ok (.aload_n 0, 1) := by decide +kernel
theorem dX12_laysIf_23 : decode cX12_laysIf 23 = .ok (.dup, 1) := by decide +kernel
theorem dX12_laysIf_24 : decode cX12_laysIf 24 = .ok (.getfield 288, 3) := by decide +kernel
theorem dX12_laysIf_27 : decode cX12_laysIf 27 = .ok (.iconst 1, 1) := by decide +kernel
theorem dX12_laysIf_28 : decode cX12_laysIf 28 = .ok (.iadd, 1) := by decide +kernel
theorem dX12_laysIf_29 : decode cX12_laysIf 29 = .ok (.putfield 288, 3) := by decide +kernel
theorem dX12_laysIf_32 : decode cX12_laysIf 32 = .ok (.iconst (-1), 1) := by decide +kernel
theorem dX12_laysIf_33 : decode cX12_laysIf 33 = .ok (.ireturn, 1) := by decide +kernel
theorem dX12_laysIf_34 : decode cX12_laysIf 34 = .ok (.aload_n 0, 1) := by decide +kernel
theorem dX12_laysIf_35 : decode cX12_laysIf 35 = .ok (.iload_n 1, 1) := by decide +kernel
theorem dX12_laysIf_36 : decode cX12_laysIf 36 = .ok (.iload_n 2, 1) := by decide +kernel
theorem dX12_laysIf_37 : decode cX12_laysIf 37 = .ok (.iload_n 3, 1) := by decide +kernel
theorem dX12_laysIf_38 : decode cX12_laysIf 38 = .ok (.iload 4, 2) := by decide +kernel
theorem dX12_laysIf_40 : decode cX12_laysIf 40 = .ok (.iconst 3, 1) := by decide +kernel
theorem dX12_laysIf_41 : decode cX12_laysIf 41 = .ok (.iload 5, 2) := by decide +kernel
theorem dX12_laysIf_43 : decode cX12_laysIf 43 = .ok (.invokevirtual 284, 3) := by decide +kernel
theorem dX12_laysIf_46 : decode cX12_laysIf 46 = .ok (.ireturn, 1) := by decide +kernel
set_option maxHeartbeats 4000000 in
set_option maxRecDepth 100000 in
theorem s_X12_laysIf {P : PP} {a0 : Nat} {a1 : Int32} {a2 : Int32} {a3 : Int32} {a4 : Int32} {a5 : Int32} (I : IM P a0) (ha1 : 0 ≤ a1.toInt ∧ a1.toInt ≤ 3) (ha2 : 0 ≤ a2.toInt ∧ a2.toInt ≤ 1) (hf0 : ∀ b, pR P a0 10 = some b → 1 ≤ (pI P b (a2.toInt.toNat)).toInt ∧ (pI P b (a2.toInt.toNat)).toInt ≤ 16) (hf1 : ∀ b, pR P a0 20 = some b → 0 ≤ (pI P b (a1.toInt.toNat)).toInt ∧ (pI P b (a1.toInt.toNat)).toInt ≤ 39) (hW : MW P a0) : CtrI yX12_laysIf cX12_laysIf 6 (some Jvm.ClassFile.FieldType.int) ({ frames := 2, cells := 0, slots := 0, locals := 128 } : Room) 0 0 P [.ref a0, .int a1, .int a2, .int a3, .int a4, .int a5] (fun r P2 => IM P2 a0 ∧ EM [20, 21, 22, 23, 24, 25, 27] a0 P P2 ∧ MW P2 a0 ∧ (-1 ≤ r.toInt ∧ r.toInt ≤ 39)) := by
  refine enI (lv := [(0, .ref a0), (1, .int a1), (2, .int a2), (3, .int a3), (4, .int a4), (5, .int a5)]) (by decide) (Nat.le_of_ble_eq_true rfl) rfl (fun E D cy C Ci0 ret => ?_)
  have ha0 := I.2.1
  have J34 : (∀ b, pR P a0 10 = some b → 1 ≤ (pI P b (a2.toInt.toNat)).toInt ∧ (pI P b (a2.toInt.toNat)).toInt ≤ 16) → (∀ b, pR P a0 17 = some b → (pI P b (a2.toInt.toNat)).toInt ≤ 2147483647) → (∀ b, pR P a0 20 = some b → 0 ≤ (pI P b (a1.toInt.toNat)).toInt ∧ (pI P b (a1.toInt.toNat)).toInt ≤ 39) → G E ({ frames := 2, cells := 0, slots := 0, locals := 128 } : Room) D cy 6 P 0 0 34 [(0, .ref a0), (1, .int a1), (2, .int a2), (3, .int a3), (4, .int a4), (5, .int a5)] [] := by
    intro hq34_0 hq34_1 hq34_2
    obtain ⟨b84470, e84471, h84472⟩ := I.fld (ha0) 10 13 2 rfl
    have hq34_0 := hq34_0 b84470 e84471
    obtain ⟨b84473, e84474, h84475⟩ := I.fld (ha0) 17 13 3 rfl
    have hq34_1 := hq34_1 b84473 e84474
    obtain ⟨b84476, e84477, h84478⟩ := I.fld (ha0) 20 13 20 rfl
    have hq34_2 := hq34_2 b84476 e84477
    refine g_aload_n C dX12_laysIf_34 rfl 0 rfl ?_
    refine g_iload_n C dX12_laysIf_35 rfl 1 rfl ?_
    refine g_iload_n C dX12_laysIf_36 rfl 2 rfl ?_
    refine g_iload_n C dX12_laysIf_37 rfl 3 rfl ?_
    refine g_iload C dX12_laysIf_38 4 rfl ?_
    refine g_iconst (v := 3) C dX12_laysIf_40 (by decide) ?_
    refine g_iload C dX12_laysIf_41 5 rfl ?_
    refine g_callVI (rest := []) C mv_X12_284 [.int a1, .int a2, .int a3, .int a4, .int 3, .int a5] (s_X12_lays I (by omega) (by omega) (fun b9 e9 => by rw [e84477] at e9; cases e9; show 0 ≤ (pI P b84476 (a1.toInt.toNat)).toInt ∧ (pI P b84476 (a1.toInt.toNat)).toInt ≤ 39; omega) hW (fun c9 f9 _ => by rw [e84471] at f9; cases f9; show 0 < (pI P b84470 (a2.toInt.toNat)).toInt; omega)) (ha0).1 (ha0).2 rfl rfl (by decide) (Nat.le_of_ble_eq_true rfl) (by decide) dX12_laysIf_43 (fun r84479 Y84480 h84481 => ?_)
    obtain ⟨Iy84482, Xy84483, W84484, p84485, h84481⟩ := h84481
    have p84485 := p84485 b84476 e84477
    have p84485 : (pI Y84480 b84476 (a1.toInt.toNat)).toInt = (pI P b84476 (a1.toInt.toNat)).toInt + 1 := p84485
    have q84486 := Xy84483.keepA e84471 (by decide) rfl (a2.toInt.toNat)
    have q84487 := Xy84483.keepA e84474 (by decide) rfl (a2.toInt.toNat)
    have Xz84488 : EM [20, 21, 22, 23, 24, 25, 27] a0 P Y84480 := Xy84483.mono (by decide)
    have e84489 := Xy84483.ref ha0 (by decide) e84471
    have e84490 := Xy84483.ref ha0 (by decide) e84474
    have e84491 := Xy84483.ref ha0 (by decide) e84477
    have h84492 := Xy84483.at ha0
    have h84493 := Xy84483.ar h84472
    have h84494 := Xy84483.ar h84475
    have h84495 := Xy84483.ar h84478
    have h84481 : 0 ≤ r84479.toInt ∧ r84479.toInt ≤ 39 := h84481
    exact ret _ _ _ _ _ _ dX12_laysIf_46 rfl (by decide) (by decide) ⟨Iy84482, Xz84488, W84484, (by omega)⟩
  obtain ⟨b84496, e84497, h84498⟩ := I.fld (ha0) 10 13 2 rfl
  have hf0 := hf0 b84496 e84497
  obtain ⟨b84499, e84500, h84501⟩ := I.fld (ha0) 20 13 20 rfl
  have hf1 := hf1 b84499 e84500
  refine g_aload_n C dX12_laysIf_0 rfl 0 rfl ?_
  obtain ⟨b84502, e84503, h84504⟩ := I.fld (ha0) 17 13 3 rfl
  refine g_getR C fi_X12_66 rfl e84503 (ha0).1 (ha0).2 dX12_laysIf_1 ?_
  refine g_iload_n C dX12_laysIf_4 rfl 2 rfl ?_
  refine g_iald (j := (a2.toInt.toNat)) C h84504.1 h84504.2.1 (ix_in h84504.2.2 (by omega)) dX12_laysIf_5 ?_
  have u84506 := ti_rng (pI P b84502 (a2.toInt.toNat))
  refine b_if_le C 34 dX12_laysIf_6 (by decide) (fun h84505 => ?_) (fun h84505 => ?_)
  · have h84505 : (pI P b84502 (a2.toInt.toNat)).toInt ≤ 0 := h84505
    exact J34 (fun b9 e9 => by rw [e84497] at e9; cases e9; omega) (fun b9 e9 => by rw [e84503] at e9; cases e9; omega) (fun b9 e9 => by rw [e84500] at e9; cases e9; omega)
  · have h84505 : 0 < (pI P b84502 (a2.toInt.toNat)).toInt := h84505
    refine g_iload C dX12_laysIf_9 5 rfl ?_
    refine g_aload_n C dX12_laysIf_11 rfl 0 rfl ?_
    refine g_iload_n C dX12_laysIf_12 rfl 2 rfl ?_
    refine g_iload_n C dX12_laysIf_13 rfl 3 rfl ?_
    refine g_iload C dX12_laysIf_14 4 rfl ?_
    refine g_callVI (rest := [.int a5]) C mv_X12_267 [.int a2, .int a3, .int a4] (s_X12_sealOf I (by omega) hW) (ha0).1 (ha0).2 rfl rfl (by decide) (Nat.le_of_ble_eq_true rfl) (by decide) dX12_laysIf_16 (fun r84507 Y84508 h84509 => ?_)
    obtain ⟨rfl, h84509⟩ := h84509
    have h84509 : -996 ≤ r84507.toInt ∧ r84507.toInt ≤ 996 := h84509
    have u84511 := ti_rng a5
    refine b_icmp_eq C 34 dX12_laysIf_19 (by decide) (fun h84510 => ?_) (fun h84510 => ?_)
    · have h84510 : a5.toInt = r84507.toInt := congrArg Int32.toInt h84510
      exact J34 (fun b9 e9 => by rw [e84497] at e9; cases e9; omega) (fun b9 e9 => by rw [e84503] at e9; cases e9; omega) (fun b9 e9 => by rw [e84500] at e9; cases e9; omega)
    · have h84510 : a5.toInt ≠ r84507.toInt := ti_ne h84510
      refine g_aload_n C dX12_laysIf_22 rfl 0 rfl ?_
      refine g_dup C dX12_laysIf_23 rfl ?_
      refine g_getI C fi_X12_288 (by decide) (ha0).1 (ha0).2 dX12_laysIf_24 ?_
      refine g_iconst (v := 1) C dX12_laysIf_27 (by decide) ?_
      refine a_iadd C dX12_laysIf_28 (fun z84512 => ?_)
      refine g_putI C fi_X12_288 rfl (ha0).1 (ha0).2 dX12_laysIf_29 ?_
      refine gqW (ks := [27]) (I.setI (rgOk.none rfl)) (EM.setI I (by decide)) (fun Y84514 Iy84515 Xy84516 w84517  => ?_)
      have w84517 : (pI Y84514 a0 27).toInt = z84512.toInt := w84517
      have q84518 := Xy84516.keepA e84497 (by decide) rfl (a2.toInt.toNat)
      have q84519 := Xy84516.keepA e84500 (by decide) rfl (a1.toInt.toNat)
      have q84520 := Xy84516.keepA e84503 (by decide) rfl (a2.toInt.toNat)
      have W84521 := hW.keep I Xy84516 (by decide) (by decide) (by decide) (by decide)
      have Xz84522 : EM [20, 21, 22, 23, 24, 25, 27] a0 P Y84514 := Xy84516.mono (by decide)
      have e84523 := Xy84516.ref ha0 (by decide) e84497
      have e84524 := Xy84516.ref ha0 (by decide) e84500
      have e84525 := Xy84516.ref ha0 (by decide) e84503
      have h84526 := Xy84516.at ha0
      have h84527 := Xy84516.ar h84498
      have h84528 := Xy84516.ar h84501
      have h84529 := Xy84516.ar h84504
      refine g_iconst (v := (-1)) C dX12_laysIf_32 (by decide) ?_
      exact ret _ _ _ _ _ _ dX12_laysIf_33 rfl (by decide) (by decide) ⟨Iy84515, Xz84522, W84521, (by decide)⟩
theorem dX12_forged_84 : decode cX12_forged 84 = .ok (.goto 4, 3) := by decide +kernel
theorem dX12_forged_87 : decode cX12_forged 87 = .ok (.iconst (-1), 1) := by decide +kernel
theorem dX12_forged_88 : decode cX12_forged 88 = .ok (.ireturn, 1) := by decide +kernel
set_option maxHeartbeats 4000000 in
set_option maxRecDepth 100000 in
theorem s_X12_forged {P : PP} {a0 : Nat} {a1 : Int32} {a2 : Int32} {a3 : Int32} {a4 : Int32} {a5 : Int32} (I : IM P a0) (hW : MW P a0) : CtrI yX12_forged cX12_forged 7 (some Jvm.ClassFile.FieldType.int) ({ frames := 3, cells := 0, slots := 0, locals := 192 } : Room) 0 0 P [.ref a0, .int a1, .int a2, .int a3, .int a4, .int a5] (fun r P2 => IM P2 a0 ∧ EM [0, 20, 21, 22, 23, 24, 25, 27] a0 P P2 ∧ MW P2 a0 ∧ (-1 ≤ r.toInt ∧ r.toInt ≤ 39)) := by
  refine enI (lv := [(0, .ref a0), (1, .int a1), (2, .int a2), (3, .int a3), (4, .int a4), (5, .int a5)]) (by decide) (Nat.le_of_ble_eq_true rfl) rfl (fun E D cy C Ci0 ret => ?_)
  have ha0 := I.2.1
  have J87 : ∀ (P87 : PP), (IM P87 a0) → (EM [0, 20, 21, 22, 23, 24, 25, 27] a0 P P87) → (MW P87 a0) → (0 ≤ (pI P87 a0 0).toInt ∧ (pI P87 a0 0).toInt ≤ 0) → G E ({ frames := 3, cells := 0, slots := 0, locals := 192 } : Room) D cy 7 P87 0 0 87 [] [] := by
    intro P87 I87 X87 W87 hq87_0
    have h84592 := X87.at ha0
    refine g_iconst (v := (-1)) C dX12_forged_87 (by decide) ?_
    exact ret _ _ _ _ _ _ dX12_forged_88 rfl (by decide) (by decide) ⟨I87, X87, W87, (by decide)⟩
  have J55 : ∀ (P55 : PP) (v55_s0 : Int32), (IM P55 a0) → (EM [0, 20, 21, 22, 23, 24, 25, 27] a0 P P55) → (MW P55 a0) → (0 ≤ v55_s0.toInt ∧ v55_s0.toInt ≤ 1) → (0 ≤ (pI P55 a0 0).toInt ∧ (pI P55 a0 0).toInt ≤ 0) → (∀ b910, pR P55 a0 10 = some b910 → v55_s0.toInt = 0 ∨ 0 < (pI P55 b910 (a2.toInt.toNat)).toInt) → (v55_s0.toInt = 0 ∨ (0 ≤ a1.toInt ∧ a1.toInt ≤ 3 ∧ 0 ≤ a2.toInt ∧ a2.toInt ≤ 1)) → G E ({ frames := 3, cells := 0, slots := 0, locals := 192 } : Room) D cy 7 P55 0 0 55 [(0, .ref a0), (1, .int a1), (2, .int a2), (3, .int a3), (4, .int a4), (5, .int a5)] [.int v55_s0] := by
    intro P55 v55_s0 I55 X55 W55 hv55_s0 hq55_0 rel55_0 rel55_1
    have h84593 := X55.at ha0
    obtain ⟨b84594, e84595, h84596⟩ := I55.fld (h84593) 10 13 2 rfl
    have rel55_0 := rel55_0 b84594 e84595
    have h84597 := I55.arr e84595 rfl (a2.toInt.toNat)
    refine g_istore (lv' := [(6, .int v55_s0), (0, .ref a0), (1, .int a1), (2, .int a2), (3, .int a3), (4, .int a4), (5, .int a5)]) C dX12_forged_55 (by decide) rfl ?_
    refine g_iload C dX12_forged_57 0 rfl ?_
    refine b_if_eq C 87 dX12_forged_59 (by decide) (fun h84598 => ?_) (fun h84598 => ?_)
    · have h84598 : v55_s0.toInt = 0 := congrArg Int32.toInt h84598
      clear rel55_1
      refine g_lv (lv' := []) [] rfl ?_
      exact J87 P55 I55 X55 W55 (by omega)
    · have h84598 : v55_s0.toInt ≠ 0 := ti_ne h84598
      replace rel55_1 := rel55_1.resolve_left (by omega)
      refine g_aload_n C dX12_forged_62 rfl 1 rfl ?_
      obtain ⟨b84599, e84600, h84601⟩ := I55.fld (h84593) 20 13 20 rfl
      refine g_getR C fi_X12_69 rfl e84600 (h84593).1 (h84593).2 dX12_forged_63 ?_
      refine g_iload_n C dX12_forged_66 rfl 2 rfl ?_
      refine g_iald (j := (a1.toInt.toNat)) C h84601.1 h84601.2.1 (ix_in h84601.2.2 (by omega)) dX12_forged_67 ?_
      have h84602 := I55.arr e84600 rfl (a1.toInt.toNat)
      refine g_bipush (v := 40) C dX12_forged_68 (by decide) ?_
      refine b_icmp_ge C 87 dX12_forged_70 (by decide) (fun h84603 => ?_) (fun h84603 => ?_)
      · have h84603 : 40 ≤ (pI P55 b84599 (a1.toInt.toNat)).toInt := h84603
        refine g_lv (lv' := []) [] rfl ?_
        exact J87 P55 I55 X55 W55 (by omega)
      · have h84603 : (pI P55 b84599 (a1.toInt.toNat)).toInt < 40 := h84603
        refine g_aload_n C dX12_forged_73 rfl 1 rfl ?_
        refine g_iload_n C dX12_forged_74 rfl 2 rfl ?_
        refine g_iload_n C dX12_forged_75 rfl 3 rfl ?_
        refine g_iload_n C dX12_forged_76 rfl 4 rfl ?_
        refine g_iload C dX12_forged_77 5 rfl ?_
        refine g_iload C dX12_forged_79 6 rfl ?_
        refine g_callVI (rest := []) C mv_X12_291 [.int a1, .int a2, .int a3, .int a4, .int a5] (s_X12_laysIf I55 (by omega) (by omega) (fun b9 e9 => by rw [e84595] at e9; cases e9; show 1 ≤ (pI P55 b84594 (a2.toInt.toNat)).toInt ∧ (pI P55 b84594 (a2.toInt.toNat)).toInt ≤ 16; omega) (fun b9 e9 => by rw [e84600] at e9; cases e9; show 0 ≤ (pI P55 b84599 (a1.toInt.toNat)).toInt ∧ (pI P55 b84599 (a1.toInt.toNat)).toInt ≤ 39; omega) W55) (h84593).1 (h84593).2 rfl rfl (by decide) (Nat.le_of_ble_eq_true rfl) (by decide) dX12_forged_81 (fun r84604 Y84605 h84606 => ?_)
        obtain ⟨Iy84607, Xy84608, W84609, h84606⟩ := h84606
        have q84610 := Xy84608.keepF 0 (by decide)
        have q84611 := Xy84608.keepA e84595 (by decide) rfl (a2.toInt.toNat)
        have Xz84612 : EM [0, 20, 21, 22, 23, 24, 25, 27] a0 P Y84605 := EM.tr ha0 X55 (Xy84608.mono (by decide))
        have e84613 := Xy84608.ref h84593 (by decide) e84595
        have h84614 := Xy84608.at h84593
        have h84615 := Xy84608.ar h84596
        have h84606 : -1 ≤ r84604.toInt ∧ r84604.toInt ≤ 39 := h84606
        refine g_goto C 88 dX12_forged_84 (by decide) ?_
        exact ret _ _ _ _ _ _ dX12_forged_88 rfl (by decide) (by decide) ⟨Iy84607, Xz84612, W84609, (by omega)⟩
  have J54 : ∀ (P54 : PP), (IM P54 a0) → (EM [0, 20, 21, 22, 23, 24, 25, 27] a0 P P54) → (MW P54 a0) → (0 ≤ (pI P54 a0 0).toInt ∧ (pI P54 a0 0).toInt ≤ 0) → G E ({ frames := 3, cells := 0, slots := 0, locals := 192 } : Room) D cy 7 P54 0 0 54 [(0, .ref a0), (1, .int a1), (2, .int a2), (3, .int a3), (4, .int a4), (5, .int a5)] [] := by
    intro P54 I54 X54 W54 hq54_0
    have h84616 := X54.at ha0
    refine g_iconst (v := 0) C dX12_forged_54 (by decide) ?_
    obtain ⟨b84617, e84618, h84619⟩ := I54.fld (h84616) 10 13 2 rfl
    exact J55 P54 0 I54 X54 W54 (by decide) (by omega) (by intro b910 e910; rw [e84618] at e910; cases e910; show 0 = 0 ∨ 0 < (pI P54 b84617 (a2.toInt.toNat)).toInt; omega) (by show 0 = 0 ∨ (0 ≤ a1.toInt ∧ a1.toInt ≤ 3 ∧ 0 ≤ a2.toInt ∧ a2.toInt ≤ 1); omega)
  refine g_aload_n C dX12_forged_0 rfl 0 rfl ?_
  refine g_iconst (v := 0) C dX12_forged_1 (by decide) ?_
  refine g_putI C fi_X12_1 rfl (ha0).1 (ha0).2 dX12_forged_2 ?_
  refine gqW (ks := [0]) (I.setI (rgOk.of rfl (by decide))) (EM.setI I (by decide)) (fun Y84620 Iy84621 Xy84622 w84623  => ?_)
  have w84623 : (pI Y84620 a0 0).toInt = 0 := w84623
  have W84624 := hW.keep I Xy84622 (by decide) (by decide) (by decide) (by decide)
  have Xz84625 : EM [0, 20, 21, 22, 23, 24, 25, 27] a0 P Y84620 := Xy84622.mono (by decide)
  have h84626 := Xy84622.at ha0
  refine g_iload_n C dX12_forged_5 rfl 1 rfl ?_
  refine g_callSI (b := 0) (ci := 0) (rest := []) C ms_X12_278 [.int a1] (s_X12_isQuarter Iy84621.1) rfl rfl (by decide) (Nat.le_of_ble_eq_true rfl) (by decide) dX12_forged_6 (fun r84627 Y84628 h84629 => ?_)
  obtain ⟨rfl, h84629⟩ := h84629
  obtain ⟨h84629, hi84630⟩ := h84629
  have hi84630 : r84627.toInt = 0 ∨ (((0 : Int) ≤ a1.toInt ∧ a1.toInt ≤ (3 : Int))) := hi84630
  have h84629 : 0 ≤ r84627.toInt ∧ r84627.toInt ≤ 1 := h84629
  refine b_if_eq C 54 dX12_forged_9 (by decide) (fun h84631 => ?_) (fun h84631 => ?_)
  · have h84631 : r84627.toInt = 0 := congrArg Int32.toInt h84631
    clear hi84630
    exact J54 Y84620 Iy84621 Xz84625 W84624 (by omega)
  · have h84631 : r84627.toInt ≠ 0 := ti_ne h84631
    replace hi84630 := hi84630.resolve_left (by omega)
    refine g_aload_n C dX12_forged_12 rfl 0 rfl ?_
    refine g_iload_n C dX12_forged_13 rfl 2 rfl ?_
    refine g_callVI (rest := []) C mv_X12_192 [.int a2] (s_X12_isBook Iy84621 W84624) (h84626).1 (h84626).2 rfl rfl (by decide) (Nat.le_of_ble_eq_true rfl) (by decide) dX12_forged_14 (fun r84632 Y84633 h84634 => ?_)
    obtain ⟨rfl, h84634⟩ := h84634
    obtain ⟨h84634, hi84635, hi84636⟩ := h84634
    have hi84635 : r84632.toInt = 0 ∨ (((0 : Int) ≤ a2.toInt ∧ a2.toInt ≤ (1 : Int))) := hi84635
    have h84634 : 0 ≤ r84632.toInt ∧ r84632.toInt ≤ 1 := h84634
    refine b_if_eq C 54 dX12_forged_17 (by decide) (fun h84637 => ?_) (fun h84637 => ?_)
    · have h84637 : r84632.toInt = 0 := congrArg Int32.toInt h84637
      clear hi84635
      exact J54 Y84620 Iy84621 Xz84625 W84624 (by omega)
    · have h84637 : r84632.toInt ≠ 0 := ti_ne h84637
      replace hi84635 := hi84635.resolve_left (by omega)
      obtain ⟨b84638, e84639, h84640⟩ := Iy84621.fld (h84626) 10 13 2 rfl
      have hi84636 := (hi84636.resolve_left (by omega)) b84638 e84639
      have hi84636 : 0 < (pI Y84620 b84638 (a2.toInt.toNat)).toInt := hi84636
      have h84641 := Iy84621.arr e84639 rfl (a2.toInt.toNat)
      refine g_iload_n C dX12_forged_20 rfl 3 rfl ?_
      refine g_callSI (b := 0) (ci := 0) (rest := []) C ms_X12_258 [.int a3] (s_X12_isNumber Iy84621.1) rfl rfl (by decide) (Nat.le_of_ble_eq_true rfl) (by decide) dX12_forged_21 (fun r84642 Y84643 h84644 => ?_)
      obtain ⟨rfl, h84644⟩ := h84644
      obtain ⟨h84644, hi84645⟩ := h84644
      have hi84645 : r84642.toInt = 0 ∨ (((0 : Int) ≤ a3.toInt ∧ a3.toInt ≤ (9999 : Int))) := hi84645
      have h84644 : 0 ≤ r84642.toInt ∧ r84642.toInt ≤ 1 := h84644
      refine b_if_eq C 54 dX12_forged_24 (by decide) (fun h84646 => ?_) (fun h84646 => ?_)
      · have h84646 : r84642.toInt = 0 := congrArg Int32.toInt h84646
        clear hi84645
        exact J54 Y84620 Iy84621 Xz84625 W84624 (by omega)
      · have h84646 : r84642.toInt ≠ 0 := ti_ne h84646
        replace hi84645 := hi84645.resolve_left (by omega)
        refine g_iload C dX12_forged_27 4 rfl ?_
        refine g_iconst (v := 0) C dX12_forged_29 (by decide) ?_
        refine g_ldc (v := 65535) C kc_X12_195 dX12_forged_30 ?_
        refine g_callSI (b := 0) (ci := 0) (rest := []) C ms_X12_178 [.int a4, .int 0, .int 65535] (s_X12_within Iy84621.1) rfl rfl (by decide) (Nat.le_of_ble_eq_true rfl) (by decide) dX12_forged_32 (fun r84647 Y84648 h84649 => ?_)
        obtain ⟨rfl, h84649⟩ := h84649
        obtain ⟨h84649, hi84650⟩ := h84649
        have hi84650 : r84647.toInt = 0 ∨ (0 ≤ a4.toInt ∧ a4.toInt ≤ 65535) := hi84650
        have h84649 : 0 ≤ r84647.toInt ∧ r84647.toInt ≤ 1 := h84649
        refine b_if_eq C 54 dX12_forged_35 (by decide) (fun h84651 => ?_) (fun h84651 => ?_)
        · have h84651 : r84647.toInt = 0 := congrArg Int32.toInt h84651
          clear hi84650
          exact J54 Y84620 Iy84621 Xz84625 W84624 (by omega)
        · have h84651 : r84647.toInt ≠ 0 := ti_ne h84651
          replace hi84650 := hi84650.resolve_left (by omega)
          refine g_iload C dX12_forged_38 5 rfl ?_
          refine g_iconst (v := 0) C dX12_forged_40 (by decide) ?_
          refine g_sipush (v := 996) C dX12_forged_41 (by decide) ?_
          refine g_callSI (b := 0) (ci := 0) (rest := []) C ms_X12_178 [.int a5, .int 0, .int 996] (s_X12_within Iy84621.1) rfl rfl (by decide) (Nat.le_of_ble_eq_true rfl) (by decide) dX12_forged_44 (fun r84652 Y84653 h84654 => ?_)
          obtain ⟨rfl, h84654⟩ := h84654
          obtain ⟨h84654, hi84655⟩ := h84654
          have hi84655 : r84652.toInt = 0 ∨ (0 ≤ a5.toInt ∧ a5.toInt ≤ 996) := hi84655
          have h84654 : 0 ≤ r84652.toInt ∧ r84652.toInt ≤ 1 := h84654
          refine b_if_eq C 54 dX12_forged_47 (by decide) (fun h84656 => ?_) (fun h84656 => ?_)
          · have h84656 : r84652.toInt = 0 := congrArg Int32.toInt h84656
            clear hi84655
            exact J54 Y84620 Iy84621 Xz84625 W84624 (by omega)
          · have h84656 : r84652.toInt ≠ 0 := ti_ne h84656
            replace hi84655 := hi84655.resolve_left (by omega)
            refine g_iconst (v := 1) C dX12_forged_50 (by decide) ?_
            refine g_goto C 55 dX12_forged_51 (by decide) ?_
            exact J55 Y84620 1 Iy84621 Xz84625 W84624 (by decide) (by omega) (by intro b910 e910; rw [e84639] at e910; cases e910; show 1 = 0 ∨ 0 < (pI Y84620 b84638 (a2.toInt.toNat)).toInt; omega) (by show 1 = 0 ∨ (0 ≤ a1.toInt ∧ a1.toInt ≤ 3 ∧ 0 ≤ a2.toInt ∧ a2.toInt ≤ 1); omega)
theorem dX12_guard_0 : decode cX12_guard 0 = .ok (.aload_n 0, 1) := by decide +kernel
theorem dX12_guard_1 : decode cX12_guard 1 = .ok (.iconst 0, 1) := by decide +kernel
theorem dX12_guard_2 : decode cX12_guard 2 = .ok (.putfield 1, 3) := by decide +kernel
theorem dX12_guard_5 : decode cX12_guard 5 = .ok (.aload_n 0, 1) := by decide +kernel
theorem dX12_guard_6 : decode cX12_guard 6 = .ok (.iload_n 1, 1) := by decide +kernel
theorem dX12_guard_7 : decode cX12_guard 7 = .ok (.iload_n 2, 1) := by decide +kernel
theorem dX12_guard_8 : decode cX12_guard 8 = .ok (.iload_n 3, 1) := by decide +kernel
theorem dX12_guard_9 : decode cX12_guard 9 = .ok (.invokevirtual 333, 3) := by decide +kernel
theorem dX12_guard_12 : decode cX12_guard 12 = .ok (.ifCond .eq 13, 3) := by decide +kernel
theorem dX12_guard_15 : decode cX12_guard 15 = .ok (.aload_n 0, 1) := by decide +kernel
theorem dX12_guard_16 : decode cX12_guard 16 = .ok (.iload_n 2, 1) := by decide +kernel
theorem dX12_guard_17 : decode cX12_guard 17 = .ok (.iload 4, 2) := by decide +kernel
theorem dX12_guard_19 : decode cX12_guard 19 = .ok (.invokevirtual 352, 3) := by decide +kernel
theorem dX12_isPage_0 : decode cX12_isPage 0 = .ok (.iload_n 2, 1) := by decide +kernel
theorem dX12_isPage_1 : decode cX12_isPage 1 = .ok (.iconst 0, 1) := by decide +kernel
theorem dX12_isPage_2 : decode cX12_isPage 2 = .ok (.aload_n 0, 1) := by decide +kernel
theorem dX12_isPage_3 : decode cX12_isPage 3 = .ok (.iload_n 1, 1) := by decide +kernel
theorem dX12_isPage_4 : decode cX12_isPage 4 = .ok (.invokevirtual 238, 3) := by decide +kernel
theorem dX12_isPage_7 : decode cX12_isPage 7 = .ok (.iconst 1, 1) := by decide +kernel
theorem dX12_isPage_8 : decode cX12_isPage 8 = .ok (.isub, 1) := by decide +kernel
theorem dX12_isPage_9 : decode cX12_isPage 9 = .ok (.invokestatic 178, 3) := by decide +kernel
theorem dX12_isPage_12 : decode cX12_isPage 12 = .ok (.ireturn, 1) := by decide +kernel
set_option maxHeartbeats 4000000 in
set_option maxRecDepth 100000 in
theorem s_X12_isPage {P : PP} {a0 : Nat} {a1 : Int32} {a2 : Int32} (I : IM P a0) (ha1 : 0 ≤ a1.toInt ∧ a1.toInt ≤ 1) (hW : MW P a0) : CtrI yX12_isPage cX12_isPage 3 (some Jvm.ClassFile.FieldType.boolean) ({ frames := 2, cells := 0, slots := 0, locals := 128 } : Room) 0 0 P [.ref a0, .int a1, .int a2] (fun r P2 => P = P2 ∧ (0 ≤ r.toInt ∧ r.toInt ≤ 1) ∧ (r.toInt = 0 ∨ (((0 : Int) ≤ a2.toInt ∧ a2.toInt ≤ (19 : Int))))) := by
  refine enI (lv := [(0, .ref a0), (1, .int a1), (2, .int a2)]) (by decide) (Nat.le_of_ble_eq_true rfl) rfl (fun E D cy C Ci0 ret => ?_)
  have ha0 := I.2.1
  refine g_iload_n C dX12_isPage_0 rfl 2 rfl ?_
  refine g_iconst (v := 0) C dX12_isPage_1 (by decide) ?_
  refine g_aload_n C dX12_isPage_2 rfl 0 rfl ?_
  refine g_iload_n C dX12_isPage_3 rfl 1 rfl ?_
  refine g_callVI (rest := [.int 0, .int a2]) C mv_X12_238 [.int a1] (s_X12_allOf I (by omega) hW) (ha0).1 (ha0).2 rfl rfl (by decide) (Nat.le_of_ble_eq_true rfl) (by decide) dX12_isPage_4 (fun r84692 Y84693 h84694 => ?_)
  obtain ⟨rfl, h84694⟩ := h84694
  obtain ⟨h84694, hi84695⟩ := h84694
  obtain ⟨b84696, e84697, h84698⟩ := I.fld (ha0) 10 13 2 rfl
  obtain ⟨b84699, e84700, h84701⟩ := I.fld (ha0) 15 13 3 rfl
  have hi84695 : (r84692.toInt = 0 ∧ (pI P b84696 (a1.toInt.toNat)).toInt = 0) ∨ r84692.toInt = (pI P b84696 (a1.toInt.toNat)).toInt + (pI P b84699 (a1.toInt.toNat)).toInt := hi84695 b84696 b84699 e84697 e84700
  have h84702 := I.arr e84697 rfl (a1.toInt.toNat)
  have h84703 := I.arr e84700 rfl (a1.toInt.toNat)
  have h84694 : 0 ≤ r84692.toInt ∧ r84692.toInt ≤ 20 := h84694
  refine g_iconst (v := 1) C dX12_isPage_7 (by decide) ?_
  refine s_isub C dX12_isPage_8 (by show -2147483648 ≤ r84692.toInt - 1 ∧ r84692.toInt - 1 ≤ 2147483647; omega) (fun z84704 h84705 => ?_)
  have h84705 : z84704.toInt = r84692.toInt - 1 := h84705
  refine g_callSI (b := 0) (ci := 0) (rest := []) C ms_X12_178 [.int a2, .int 0, .int z84704] (s_X12_within I.1) rfl rfl (by decide) (Nat.le_of_ble_eq_true rfl) (by decide) dX12_isPage_9 (fun r84706 Y84707 h84708 => ?_)
  obtain ⟨rfl, h84708⟩ := h84708
  obtain ⟨h84708, hi84709⟩ := h84708
  have hi84709 : r84706.toInt = 0 ∨ (0 ≤ a2.toInt ∧ a2.toInt ≤ z84704.toInt) := hi84709
  have h84708 : 0 ≤ r84706.toInt ∧ r84706.toInt ≤ 1 := h84708
  exact ret _ _ _ _ _ _ dX12_isPage_12 (nar_b (b01 (by omega))) (by decide) (by decide) ⟨rfl, (by omega), hi84709.imp id (fun h9 => by omega)⟩
theorem dX12_guard_22 : decode cX12_guard 22 = .ok (.ifCond .ne 5, 3) := by decide +kernel
theorem dX12_guard_25 : decode cX12_guard 25 = .ok (.iconst (-1), 1) := by decide +kernel
theorem dX12_guard_26 : decode cX12_guard 26 = .ok (.ireturn, 1) := by decide +kernel
theorem dX12_guard_27 : decode cX12_guard 27 = .ok (.aload_n 0, 1) := by decide +kernel
theorem dX12_guard_28 : decode cX12_guard 28 = .ok (.invokevirtual 336, 3) := by decide +kernel
theorem dX12_guard_31 : decode cX12_guard 31 = .ok (.aload_n 0, 1) := by decide +kernel
theorem dX12_guard_32 : decode cX12_guard 32 = .ok (.iload_n 1, 1) := by decide +kernel
theorem dX12_guard_33 : decode cX12_guard 33 = .ok (.iload_n 2, 1) := by decide +kernel
theorem dX12_guard_34 : decode cX12_guard 34 = .ok (.iload_n 3, 1) := by decide +kernel
theorem dX12_guard_35 : decode cX12_guard 35 = .ok (.aload_n 0, 1) := by decide +kernel
theorem dX12_guard_36 : decode cX12_guard 36 = .ok (.getfield 69, 3) := by decide +kernel
theorem dX12_guard_39 : decode cX12_guard 39 = .ok (.iload_n 1, 1) := by decide +kernel
theorem dX12_guard_40 : decode cX12_guard 40 = .ok (.iaload, 1) := by decide +kernel
theorem dX12_guard_41 : decode cX12_guard 41 = .ok (.invokevirtual 339, 3) := by decide +kernel
theorem dX12_guard_44 : decode cX12_guard 44 = .ok (.aload_n 0, 1) := by decide +kernel
theorem dX12_guard_45 : decode cX12_guard 45 = .ok (.invokevirtual 346, 3) := by decide +kernel
theorem dX12_guard_48 : decode cX12_guard 48 = .ok (.aload_n 0, 1) := by decide +kernel
theorem dX12_guard_49 : decode cX12_guard 49 = .ok (.iload 4, 2) := by decide +kernel
theorem dX12_guard_51 : decode cX12_guard 51 = .ok (.invokevirtual 330, 3) := by decide +kernel
theorem dX12_guard_54 : decode cX12_guard 54 = .ok (.ifCond .ne 5, 3) := by decide +kernel
theorem dX12_guard_57 : decode cX12_guard 57 = .ok (.iconst (-1), 1) := by decide +kernel
theorem dX12_guard_58 : decode cX12_guard 58 = .ok (.ireturn, 1) := by decide +kernel
theorem dX12_guard_59 : decode cX12_guard 59 = .ok (.iconst 4, 1) := by decide +kernel
theorem dX12_guard_60 : decode cX12_guard 60 = .ok (.istore 5, 2) := by decide +kernel
theorem dX12_guard_62 : decode cX12_guard 62 = .ok (.aload_n 0, 1) := by decide +kernel
theorem dX12_guard_63 : decode cX12_guard 63 = .ok (.getfield 60, 3) := by decide +kernel
theorem dX12_guard_66 : decode cX12_guard 66 = .ok (.iload_n 2, 1) := by decide +kernel
theorem dX12_guard_67 : decode cX12_guard 67 = .ok (.iaload, 1) := by decide +kernel
theorem dX12_guard_68 : decode cX12_guard 68 = .ok (.istore 6, 2) := by decide +kernel
theorem dX12_guard_70 : decode cX12_guard 70 = .ok (.iload 6, 2) := by decide +kernel
theorem dX12_guard_72 : decode cX12_guard 72 = .ok (.aload_n 0, 1) := by decide +kernel
theorem dX12_guard_73 : decode cX12_guard 73 = .ok (.getfield 305, 3) := by decide +kernel
theorem dX12_guard_76 : decode cX12_guard 76 = .ok (.if_icmp .ge 38, 3) := by decide +kernel
theorem dX12_guard_79 : decode cX12_guard 79 = .ok (.iload 5, 2) := by decide +kernel
theorem dX12_guard_81 : decode cX12_guard 81 = .ok (.iconst 1, 1) := by decide +kernel
theorem dX12_guard_82 : decode cX12_guard 82 = .ok (.if_icmp .le 32, 3) := by decide +kernel
theorem dX12_guard_85 : decode cX12_guard 85 = .ok (.aload_n 0, 1) := by decide +kernel
theorem dX12_guard_86 : decode cX12_guard 86 = .ok (.iload 4, 2) := by decide +kernel
theorem dX12_guard_88 : decode cX12_guard 88 = .ok (.iload 6, 2) := by decide +kernel
theorem dX12_guard_90 : decode cX12_guard 90 = .ok (.iload 6, 2) := by decide +kernel
theorem dX12_guard_92 : decode cX12_guard 92 = .ok (.iload 6, 2) := by decide +kernel
theorem dX12_guard_94 : decode cX12_guard 94 = .ok (.invokevirtual 367, 3) := by decide +kernel
theorem dX12_isFixedWithout_0 : decode cX12_isFixedWithout 0 = .ok (.aload_n 0, 1) := by decide +kernel
theorem dX12_isFixedWithout_1 : decode cX12_isFixedWithout 1 = .ok (.getfield 305, 3) := by decide +kernel
theorem dX12_isFixedWithout_4 : decode cX12_isFixedWithout 4 = .ok (.istore 5, 2) := by decide +kernel
theorem dX12_isFixedWithout_6 : decode cX12_isFixedWithout 6 = .ok (.iconst 0, 1) := by decide +kernel
theorem dX12_isFixedWithout_7 : decode cX12_isFixedWithout 7 = .ok (.istore 6, 2) := by decide +kernel
theorem dX12_isFixedWithout_9 : decode cX12_isFixedWithout 9 = .ok (.iconst 0, 1) := by decide +kernel
theorem dX12_isFixedWithout_10 : decode cX12_isFixedWithout 10 = .ok (.istore 7, 2) := by decide +kernel
theorem dX12_isFixedWithout_12 : decode cX12_isFixedWithout 12 = .ok (.iload 7, 2) := by decide +kernel
theorem dX12_isFixedWithout_14 : decode cX12_isFixedWithout 14 = .ok (.iload 5, 2) := by decide +kernel
theorem dX12_isFixedWithout_16 : decode cX12_isFixedWithout 16 = .ok (.if_icmp .ge 87, 3) := by decide +kernel
theorem dX12_isFixedWithout_19 : decode cX12_isFixedWithout 19 = .ok (.aload_n 0, 1) := by decide +kernel
theorem dX12_isFixedWithout_20 : decode cX12_isFixedWithout 20 = .ok (.getfield 115, 3) := by decide +kernel
theorem dX12_isFixedWithout_23 : decode cX12_isFixedWithout 23 = .ok (.iload 7, 2) := by decide +kernel
theorem dX12_isFixedWithout_25 : decode cX12_isFixedWithout 25 = .ok (.aload_n 0, 1) := by decide +kernel
theorem dX12_isFixedWithout_26 : decode cX12_isFixedWithout 26 = .ok (.getfield 91, 3) := by decide +kernel
theorem dX12_isFixedWithout_29 : decode cX12_isFixedWithout 29 = .ok (.iload 7, 2) := by decide +kernel
theorem dX12_isFixedWithout_31 : decode cX12_isFixedWithout 31 = .ok (.iaload, 1) := by decide +kernel
theorem dX12_isFixedWithout_32 : decode cX12_isFixedWithout 32 = .ok (.iastore, 1) := by decide +kernel
theorem dX12_isFixedWithout_33 : decode cX12_isFixedWithout 33 = .ok (.aload_n 0, 1) := by decide +kernel
theorem dX12_isFixedWithout_34 : decode cX12_isFixedWithout 34 = .ok (.getfield 118, 3) := by decide +kernel
theorem dX12_isFixedWithout_37 : decode cX12_isFixedWithout 37 = .ok (.iload 7, 2) := by decide +kernel
theorem dX12_isFixedWithout_39 : decode cX12_isFixedWithout 39 = .ok (.aload_n 0, 1) := by decide +kernel
theorem dX12_isFixedWithout_40 : decode cX12_isFixedWithout 40 = .ok (.getfield 94, 3) := by decide +kernel
theorem dX12_isFixedWithout_43 : decode cX12_isFixedWithout 43 = .ok (.iload 7, 2) := by decide +kernel
theorem dX12_isFixedWithout_45 : decode cX12_isFixedWithout 45 = .ok (.iaload, 1) := by decide +kernel
theorem dX12_isFixedWithout_46 : decode cX12_isFixedWithout 46 = .ok (.iastore, 1) := by decide +kernel
theorem dX12_isFixedWithout_47 : decode cX12_isFixedWithout 47 = .ok (.iload 7, 2) := by decide +kernel
theorem dX12_isFixedWithout_49 : decode cX12_isFixedWithout 49 = .ok (.iload_n 2, 1) := by decide +kernel
theorem dX12_isFixedWithout_50 : decode cX12_isFixedWithout 50 = .ok (.if_icmp .eq 47, 3) := by decide +kernel
theorem dX12_isFixedWithout_53 : decode cX12_isFixedWithout 53 = .ok (.iload 7, 2) := by decide +kernel
theorem dX12_isFixedWithout_55 : decode cX12_isFixedWithout 55 = .ok (.iload_n 3, 1) := by decide +kernel
theorem dX12_isFixedWithout_56 : decode cX12_isFixedWithout 56 = .ok (.if_icmp .eq 41, 3) := by decide +kernel
theorem dX12_isFixedWithout_59 : decode cX12_isFixedWithout 59 = .ok (.iload 7, 2) := by decide +kernel
theorem dX12_isFixedWithout_61 : decode cX12_isFixedWithout 61 = .ok (.iload 4, 2) := by decide +kernel
theorem dX12_isFixedWithout_63 : decode cX12_isFixedWithout 63 = .ok (.if_icmp .eq 34, 3) := by decide +kernel
theorem dX12_isFixedWithout_66 : decode cX12_isFixedWithout 66 = .ok (.aload_n 0, 1) := by decide +kernel
theorem dX12_isFixedWithout_67 : decode cX12_isFixedWithout 67 = .ok (.getfield 91, 3) := by decide +kernel
theorem dX12_isFixedWithout_70 : decode cX12_isFixedWithout 70 = .ok (.iload 6, 2) := by decide +kernel
theorem dX12_isFixedWithout_72 : decode cX12_isFixedWithout 72 = .ok (.aload_n 0, 1) := by decide +kernel
theorem dX12_isFixedWithout_73 : decode cX12_isFixedWithout 73 = .ok (.getfield 91, 3) := by decide +kernel
theorem dX12_isFixedWithout_76 : decode cX12_isFixedWithout 76 = .ok (.iload 7, 2) := by decide +kernel
theorem dX12_isFixedWithout_78 : decode cX12_isFixedWithout 78 = .ok (.iaload, 1) := by decide +kernel
theorem dX12_isFixedWithout_79 : decode cX12_isFixedWithout 79 = .ok (.iastore, 1) := by decide +kernel
theorem dX12_isFixedWithout_80 : decode cX12_isFixedWithout 80 = .ok (.aload_n 0, 1) := by decide +kernel
theorem dX12_isFixedWithout_81 : decode cX12_isFixedWithout 81 = .ok (.getfield 94, 3) := by decide +kernel
theorem dX12_isFixedWithout_84 : decode cX12_isFixedWithout 84 = .ok (.iload 6, 2) := by decide +kernel
theorem dX12_isFixedWithout_86 : decode cX12_isFixedWithout 86 = .ok (.aload_n 0, 1) := by decide +kernel
theorem dX12_isFixedWithout_87 : decode cX12_isFixedWithout 87 = .ok (.getfield 94, 3) := by decide +kernel
theorem dX12_isFixedWithout_90 : decode cX12_isFixedWithout 90 = .ok (.iload 7, 2) := by decide +kernel
theorem dX12_isFixedWithout_92 : decode cX12_isFixedWithout 92 = .ok (.iaload, 1) := by decide +kernel
theorem dX12_isFixedWithout_93 : decode cX12_isFixedWithout 93 = .ok (.iastore, 1) := by decide +kernel
theorem dX12_isFixedWithout_94 : decode cX12_isFixedWithout 94 = .ok (.iinc 6 1, 3) := by decide +kernel
theorem dX12_isFixedWithout_97 : decode cX12_isFixedWithout 97 = .ok (.iinc 7 1, 3) := by decide +kernel
theorem dX12_isFixedWithout_100 : decode cX12_isFixedWithout 100 = .ok (.goto (-88), 3) := by decide +kernel
theorem dX12_isFixedWithout_103 : decode cX12_isFixedWithout 103 = .ok (.aload_n 0, 1) := by decide +kernel
theorem dX12_isFixedWithout_104 : decode cX12_isFixedWithout 104 = .ok (.iload 6, 2) := by decide +kernel
theorem dX12_isFixedWithout_106 : decode cX12_isFixedWithout 106 = .ok (.putfield 305, 3) := by decide +kernel
theorem dX12_isFixedWithout_109 : decode cX12_isFixedWithout 109 = .ok (.aload_n 0, 1) := by decide +kernel
theorem dX12_isFixedWithout_110 : decode cX12_isFixedWithout 110 = .ok (.invokevirtual 346, 3) := by decide +kernel
theorem dX12_isFixedWithout_113 : decode cX12_isFixedWithout 113 = .ok (.aload_n 0, 1) := by decide +kernel
theorem dX12_isFixedWithout_114 : decode cX12_isFixedWithout 114 = .ok (.iload_n 1, 1) := by decide +kernel
theorem dX12_isFixedWithout_115 : decode cX12_isFixedWithout 115 = .ok (.invokevirtual 330, 3) := by decide +kernel
theorem dX12_isFixedWithout_118 : decode cX12_isFixedWithout 118 = .ok (.istore 7, 2) := by decide +kernel
theorem dX12_isFixedWithout_120 : decode cX12_isFixedWithout 120 = .ok (.aload_n 0, 1) := by decide +kernel
theorem dX12_isFixedWithout_121 : decode cX12_isFixedWithout 121 = .ok (.iload 5, 2) := by decide +kernel
theorem dX12_isFixedWithout_123 : decode cX12_isFixedWithout 123 = .ok (.putfield 305, 3) := by decide +kernel
theorem dX12_isFixedWithout_126 : decode cX12_isFixedWithout 126 = .ok (.iconst 0, 1) := by decide +kernel
theorem dX12_isFixedWithout_127 : decode cX12_isFixedWithout 127 = .ok (.istore 8, 2) := by decide +kernel
theorem dX12_isFixedWithout_129 : decode cX12_isFixedWithout 129 = .ok (.iload 8, 2) := by decide +kernel
theorem dX12_isFixedWithout_131 : decode cX12_isFixedWithout 131 = .ok (.iload 5, 2) := by decide +kernel
theorem dX12_isFixedWithout_133 : decode cX12_isFixedWithout 133 = .ok (.if_icmp .ge 37, 3) := by decide +kernel
theorem dX12_isFixedWithout_136 : decode cX12_isFixedWithout 136 = .ok (.aload_n 0, 1) := by decide +kernel
theorem dX12_isFixedWithout_137 : decode cX12_isFixedWithout 137 = .ok (.getfield 91, 3) := by decide +kernel
theorem dX12_isFixedWithout_140 : decode cX12_isFixedWithout 140 = .ok (.iload 8, 2) := by decide +kernel
theorem dX12_isFixedWithout_142 : decode cX12_isFixedWithout 142 = .ok (.aload_n 0, 1) := by decide +kernel
theorem dX12_isFixedWithout_143 : decode cX12_isFixedWithout 143 = .ok (.getfield 115, 3) := by decide +kernel
theorem dX12_isFixedWithout_146 : decode cX12_isFixedWithout 146 = .ok (.iload 8, 2) := by decide +kernel
theorem dX12_isFixedWithout_148 : decode cX12_isFixedWithout 148 = .ok (.iaload, 1) := by decide +kernel
theorem dX12_isFixedWithout_149 : decode cX12_isFixedWithout 149 = .ok (.iastore, 1) := by decide +kernel
theorem dX12_isFixedWithout_150 : decode cX12_isFixedWithout 150 = .ok (.aload_n 0, 1) := by decide +kernel
theorem dX12_isFixedWithout_151 : decode cX12_isFixedWithout 151 = .ok (.getfield 94, 3) := by decide +kernel
theorem dX12_isFixedWithout_154 : decode cX12_isFixedWithout 154 = .ok (.iload 8, 2) := by decide +kernel
theorem dX12_isFixedWithout_156 : decode cX12_isFixedWithout 156 = .ok (.aload_n 0, 1) := by decide +kernel
theorem dX12_isFixedWithout_157 : decode cX12_isFixedWithout 157 = .ok (.getfield 118, 3) := by decide +kernel
theorem dX12_isFixedWithout_160 : decode cX12_isFixedWithout 160 = .ok (.iload 8, 2) := by decide +kernel
theorem dX12_isFixedWithout_162 : decode cX12_isFixedWithout 162 = .ok (.iaload, 1) := by decide +kernel
theorem dX12_isFixedWithout_163 : decode cX12_isFixedWithout 163 = .ok (.iastore, 1) := by decide +kernel
theorem dX12_isFixedWithout_164 : decode cX12_isFixedWithout 164 = .ok (.iinc 8 1, 3) := by decide +kernel
theorem dX12_isFixedWithout_167 : decode cX12_isFixedWithout 167 = .ok (.goto (-38), 3) := by decide +kernel
theorem dX12_isFixedWithout_170 : decode cX12_isFixedWithout 170 = .ok (.iload 7, 2) := by decide +kernel
theorem dX12_isFixedWithout_172 : decode cX12_isFixedWithout 172 = .ok (.ireturn, 1) := by decide +kernel
set_option maxHeartbeats 4000000 in
set_option maxRecDepth 100000 in
theorem s_X12_isFixedWithout {P : PP} {a0 : Nat} {a1 : Int32} {a2 : Int32} {a3 : Int32} {a4 : Int32} (I : IM P a0) (ha1 : 0 ≤ a1.toInt ∧ a1.toInt ≤ 19) (hW : MW P a0) : CtrI yX12_isFixedWithout cX12_isFixedWithout 9 (some Jvm.ClassFile.FieldType.boolean) ({ frames := 2, cells := 0, slots := 0, locals := 128 } : Room) 0 0 P [.ref a0, .int a1, .int a2, .int a3, .int a4] (fun r P2 => IM P2 a0 ∧ EM [28, 29, 30, 35, 36, 37, 38, 41, 42] a0 P P2 ∧ MW P2 a0 ∧ (0 ≤ r.toInt ∧ r.toInt ≤ 1)) := by
  refine enI (lv := [(0, .ref a0), (1, .int a1), (2, .int a2), (3, .int a3), (4, .int a4)]) (by decide) (Nat.le_of_ble_eq_true rfl) rfl (fun E D cy C Ci0 ret => ?_)
  have ha0 := I.2.1
  have J129 : ∀ (n129 : Nat) (P129 : PP) (v129_5 : Int32) (v129_7 : Int32) (v129_8 : Int32), (64 - v129_8.toInt).toNat < n129 → (IM P129 a0) → (EM [28, 29, 30, 35, 36, 37, 38, 41, 42] a0 P P129) → (MW P129 a0) → (0 ≤ v129_5.toInt ∧ v129_5.toInt ≤ 64) → (0 ≤ v129_7.toInt ∧ v129_7.toInt ≤ 1) → (0 ≤ v129_8.toInt ∧ v129_8.toInt ≤ 64) → G E ({ frames := 2, cells := 0, slots := 0, locals := 128 } : Room) D cy 9 P129 0 0 129 [(0, .ref a0), (5, .int v129_5), (7, .int v129_7), (8, .int v129_8)] [] := by
    intro n129
    induction n129 with
    | zero => intro P129 v129_5 v129_7 v129_8 hm129 I129 X129 W129 hv129_5 hv129_7 hv129_8; omega
    | succ n129 ih129 =>
      intro P129 v129_5 v129_7 v129_8 hm129 I129 X129 W129 hv129_5 hv129_7 hv129_8
      have h88882 := X129.at ha0
      refine g_iload C dX12_isFixedWithout_129 3 rfl ?_
      refine g_iload C dX12_isFixedWithout_131 1 rfl ?_
      refine b_icmp_ge C 170 dX12_isFixedWithout_133 (by decide) (fun h88883 => ?_) (fun h88883 => ?_)
      · have h88883 : v129_5.toInt ≤ v129_8.toInt := h88883
        refine g_iload C dX12_isFixedWithout_170 2 rfl ?_
        exact ret _ _ _ _ _ _ dX12_isFixedWithout_172 (nar_b (b01 (by omega))) (by decide) (by decide) ⟨I129, X129, W129, (by omega)⟩
      · have h88883 : v129_8.toInt < v129_5.toInt := h88883
        refine g_aload_n C dX12_isFixedWithout_136 rfl 0 rfl ?_
        obtain ⟨b88884, e88885, h88886⟩ := I129.fld (h88882) 29 13 64 rfl
        refine g_getR C fi_X12_91 rfl e88885 (h88882).1 (h88882).2 dX12_isFixedWithout_137 ?_
        refine g_iload C dX12_isFixedWithout_140 3 rfl ?_
        refine g_aload_n C dX12_isFixedWithout_142 rfl 0 rfl ?_
        obtain ⟨b88887, e88888, h88889⟩ := I129.fld (h88882) 41 13 64 rfl
        refine g_getR C fi_X12_115 rfl e88888 (h88882).1 (h88882).2 dX12_isFixedWithout_143 ?_
        refine g_iload C dX12_isFixedWithout_146 3 rfl ?_
        refine g_iald (j := (v129_8.toInt.toNat)) C h88889.1 h88889.2.1 (ix_in h88889.2.2 (by omega)) dX12_isFixedWithout_148 ?_
        refine g_iast (j := (v129_8.toInt.toNat)) C h88886.1 h88886.2.1 (ix_in h88886.2.2 (by omega)) dX12_isFixedWithout_149 ?_
        refine gqW (ks := [29]) (I129.setA e88885 h88886 (by decide) (arOk.none rfl)) (EM.setA I129 e88885 rfl (by decide)) (fun Y88890 Iy88891 Xy88892 w88893  => ?_)
        have w88893 : (pI Y88890 b88884 (v129_8.toInt.toNat)).toInt = (pI P129 b88887 (v129_8.toInt.toNat)).toInt := w88893
        have W88894 := W129.keep I129 Xy88892 (by decide) (by decide) (by decide) (by decide)
        have Xz88895 : EM [28, 29, 30, 35, 36, 37, 38, 41, 42] a0 P Y88890 := EM.tr ha0 X129 (Xy88892.mono (by decide))
        have e88896 := Xy88892.ref h88882 (by decide) e88885
        have h88897 := Xy88892.at h88882
        have h88898 := Xy88892.ar h88886
        refine g_aload_n C dX12_isFixedWithout_150 rfl 0 rfl ?_
        obtain ⟨b88899, e88900, h88901⟩ := Iy88891.fld (h88897) 30 13 64 rfl
        refine g_getR C fi_X12_94 rfl e88900 (h88897).1 (h88897).2 dX12_isFixedWithout_151 ?_
        refine g_iload C dX12_isFixedWithout_154 3 rfl ?_
        refine g_aload_n C dX12_isFixedWithout_156 rfl 0 rfl ?_
        obtain ⟨b88902, e88903, h88904⟩ := Iy88891.fld (h88897) 42 13 64 rfl
        refine g_getR C fi_X12_118 rfl e88903 (h88897).1 (h88897).2 dX12_isFixedWithout_157 ?_
        refine g_iload C dX12_isFixedWithout_160 3 rfl ?_
        refine g_iald (j := (v129_8.toInt.toNat)) C h88904.1 h88904.2.1 (ix_in h88904.2.2 (by omega)) dX12_isFixedWithout_162 ?_
        refine g_iast (j := (v129_8.toInt.toNat)) C h88901.1 h88901.2.1 (ix_in h88901.2.2 (by omega)) dX12_isFixedWithout_163 ?_
        refine gqW (ks := [30]) (Iy88891.setA e88900 h88901 (by decide) (arOk.none rfl)) (EM.setA Iy88891 e88900 rfl (by decide)) (fun Y88905 Iy88906 Xy88907 w88908  => ?_)
        have w88908 : (pI Y88905 b88899 (v129_8.toInt.toNat)).toInt = (pI Y88890 b88902 (v129_8.toInt.toNat)).toInt := w88908
        have q88909 := Xy88907.keepA e88896 (by decide) rfl (v129_8.toInt.toNat)
        have W88910 := W88894.keep Iy88891 Xy88907 (by decide) (by decide) (by decide) (by decide)
        have Xz88911 : EM [28, 29, 30, 35, 36, 37, 38, 41, 42] a0 P Y88905 := EM.tr ha0 Xz88895 (Xy88907.mono (by decide))
        have e88912 := Xy88907.ref h88897 (by decide) e88896
        have e88913 := Xy88907.ref h88897 (by decide) e88900
        have h88914 := Xy88907.at h88897
        have h88915 := Xy88907.ar h88898
        have h88916 := Xy88907.ar h88901
        refine s_iinc (lv0 := [(0, .ref a0), (5, .int v129_5), (7, .int v129_7)]) (m := 1) C dX12_isFixedWithout_164 3 rfl (by decide) rfl (by decide) (by omega) (fun z88917 h88918 => ?_)
        have h88918 : z88917.toInt = v129_8.toInt + 1 := h88918
        refine g_goto C 129 dX12_isFixedWithout_167 (by decide) ?_
        refine g_lv (lv' := [(0, .ref a0), (5, .int v129_5), (7, .int v129_7), (8, .int z88917)]) [1, 2, 3, 0] rfl ?_
        exact ih129 Y88905 v129_5 v129_7 z88917 (by omega) Iy88906 Xz88911 W88910 (by omega) (by omega) (by omega)
  have J12 : ∀ (n12 : Nat) (P12 : PP) (v12_5 : Int32) (v12_6 : Int32) (v12_7 : Int32), (64 - v12_7.toInt).toNat < n12 → (IM P12 a0) → (EM [28, 29, 30, 35, 36, 37, 38, 41, 42] a0 P P12) → (MW P12 a0) → (0 ≤ v12_5.toInt ∧ v12_5.toInt ≤ 64) → (0 ≤ v12_6.toInt ∧ v12_6.toInt ≤ 64) → (0 ≤ v12_7.toInt ∧ v12_7.toInt ≤ 64) → (v12_6.toInt ≤ v12_7.toInt) → G E ({ frames := 2, cells := 0, slots := 0, locals := 128 } : Room) D cy 9 P12 0 0 12 [(0, .ref a0), (1, .int a1), (2, .int a2), (3, .int a3), (4, .int a4), (5, .int v12_5), (6, .int v12_6), (7, .int v12_7)] [] := by
    intro n12
    induction n12 with
    | zero => intro P12 v12_5 v12_6 v12_7 hm12 I12 X12 W12 hv12_5 hv12_6 hv12_7 rel12_0; omega
    | succ n12 ih12 =>
      intro P12 v12_5 v12_6 v12_7 hm12 I12 X12 W12 hv12_5 hv12_6 hv12_7 rel12_0
      have h88919 := X12.at ha0
      have J97 : ∀ (P97 : PP) (v97_6 : Int32), (IM P97 a0) → (EM [28, 29, 30, 35, 36, 37, 38, 41, 42] a0 P P97) → (MW P97 a0) → (1 ≤ v12_5.toInt ∧ v12_5.toInt ≤ 64) → (0 ≤ v97_6.toInt ∧ v97_6.toInt ≤ 64) → (0 ≤ v12_7.toInt ∧ v12_7.toInt ≤ 63) → (v97_6.toInt ≤ v12_7.toInt + 1) → G E ({ frames := 2, cells := 0, slots := 0, locals := 128 } : Room) D cy 9 P97 0 0 97 [(0, .ref a0), (1, .int a1), (2, .int a2), (3, .int a3), (4, .int a4), (5, .int v12_5), (6, .int v97_6), (7, .int v12_7)] [] := by
        intro P97 v97_6 I97 X97 W97 hv97_5 hv97_6 hv97_7 rel97_0
        have h88920 := X97.at ha0
        refine s_iinc (lv0 := [(0, .ref a0), (1, .int a1), (2, .int a2), (3, .int a3), (4, .int a4), (5, .int v12_5), (6, .int v97_6)]) (m := 1) C dX12_isFixedWithout_97 7 rfl (by decide) rfl (by decide) (by omega) (fun z88921 h88922 => ?_)
        have h88922 : z88921.toInt = v12_7.toInt + 1 := h88922
        refine g_goto C 12 dX12_isFixedWithout_100 (by decide) ?_
        refine g_lv (lv' := [(0, .ref a0), (1, .int a1), (2, .int a2), (3, .int a3), (4, .int a4), (5, .int v12_5), (6, .int v97_6), (7, .int z88921)]) [1, 2, 3, 4, 5, 6, 7, 0] rfl ?_
        exact ih12 P97 v12_5 v97_6 z88921 (by omega) I97 X97 W97 (by omega) (by omega) (by omega) (by show v97_6.toInt ≤ z88921.toInt; omega)
      refine g_iload C dX12_isFixedWithout_12 7 rfl ?_
      refine g_iload C dX12_isFixedWithout_14 5 rfl ?_
      refine b_icmp_ge C 103 dX12_isFixedWithout_16 (by decide) (fun h88923 => ?_) (fun h88923 => ?_)
      · have h88923 : v12_5.toInt ≤ v12_7.toInt := h88923
        refine g_aload_n C dX12_isFixedWithout_103 rfl 0 rfl ?_
        refine g_iload C dX12_isFixedWithout_104 6 rfl ?_
        refine g_putI C fi_X12_305 rfl (h88919).1 (h88919).2 dX12_isFixedWithout_106 ?_
        refine gqW (ks := [28]) (I12.setI (rgOk.of rfl (by omega))) (EM.setI I12 (by decide)) (fun Y88924 Iy88925 Xy88926 w88927  => ?_)
        have w88927 : (pI Y88924 a0 28).toInt = v12_6.toInt := w88927
        have W88928 := W12.keep I12 Xy88926 (by decide) (by decide) (by decide) (by decide)
        have Xz88929 : EM [28, 29, 30, 35, 36, 37, 38, 41, 42] a0 P Y88924 := EM.tr ha0 X12 (Xy88926.mono (by decide))
        have h88930 := Xy88926.at h88919
        refine g_aload_n C dX12_isFixedWithout_109 rfl 0 rfl ?_
        refine g_callVV (rest := []) C mv_X12_346 [] (s_X12_findSolved Iy88925 W88928) (h88930).1 (h88930).2 rfl rfl (by decide) (Nat.le_of_ble_eq_true rfl) (by decide) dX12_isFixedWithout_110 (fun Y88932 h88933 => ?_)
        obtain ⟨Iy88934, Xy88935, W88936⟩ := h88933
        have q88937 := Xy88935.keepF 28 (by decide)
        have Xz88938 : EM [28, 29, 30, 35, 36, 37, 38, 41, 42] a0 P Y88932 := EM.tr ha0 Xz88929 (Xy88935.mono (by decide))
        have h88939 := Xy88935.at h88930
        refine g_aload_n C dX12_isFixedWithout_113 rfl 0 rfl ?_
        refine g_iload_n C dX12_isFixedWithout_114 rfl 1 rfl ?_
        refine g_callVI (rest := []) C mv_X12_330 [.int a1] (s_X12_isFixed Iy88934 (by omega) W88936) (h88939).1 (h88939).2 rfl rfl (by decide) (Nat.le_of_ble_eq_true rfl) (by decide) dX12_isFixedWithout_115 (fun r88940 Y88941 h88942 => ?_)
        obtain ⟨rfl, h88942⟩ := h88942
        have h88942 : 0 ≤ r88940.toInt ∧ r88940.toInt ≤ 1 := h88942
        refine g_istore (lv' := [(7, .int r88940), (0, .ref a0), (1, .int a1), (2, .int a2), (3, .int a3), (4, .int a4), (5, .int v12_5), (6, .int v12_6)]) C dX12_isFixedWithout_118 (by decide) rfl ?_
        refine g_aload_n C dX12_isFixedWithout_120 rfl 1 rfl ?_
        refine g_iload C dX12_isFixedWithout_121 6 rfl ?_
        refine g_putI C fi_X12_305 rfl (h88939).1 (h88939).2 dX12_isFixedWithout_123 ?_
        refine gqW (ks := [28]) (Iy88934.setI (rgOk.of rfl (by omega))) (EM.setI Iy88934 (by decide)) (fun Y88943 Iy88944 Xy88945 w88946  => ?_)
        have w88946 : (pI Y88943 a0 28).toInt = v12_5.toInt := w88946
        have W88947 := W88936.keep Iy88934 Xy88945 (by decide) (by decide) (by decide) (by decide)
        have Xz88948 : EM [28, 29, 30, 35, 36, 37, 38, 41, 42] a0 P Y88943 := EM.tr ha0 Xz88938 (Xy88945.mono (by decide))
        have h88949 := Xy88945.at h88939
        refine g_iconst (v := 0) C dX12_isFixedWithout_126 (by decide) ?_
        refine g_istore (lv' := [(8, .int 0), (7, .int r88940), (0, .ref a0), (1, .int a1), (2, .int a2), (3, .int a3), (4, .int a4), (5, .int v12_5), (6, .int v12_6)]) C dX12_isFixedWithout_127 (by decide) rfl ?_
        refine g_lv (lv' := [(0, .ref a0), (5, .int v12_5), (7, .int r88940), (8, .int 0)]) [2, 7, 1, 0] rfl ?_
        exact J129 _ Y88943 v12_5 r88940 0 (Nat.lt_succ_self _) Iy88944 Xz88948 W88947 (by omega) (by omega) (by decide)
      · have h88923 : v12_7.toInt < v12_5.toInt := h88923
        refine g_aload_n C dX12_isFixedWithout_19 rfl 0 rfl ?_
        obtain ⟨b88950, e88951, h88952⟩ := I12.fld (h88919) 41 13 64 rfl
        refine g_getR C fi_X12_115 rfl e88951 (h88919).1 (h88919).2 dX12_isFixedWithout_20 ?_
        refine g_iload C dX12_isFixedWithout_23 7 rfl ?_
        refine g_aload_n C dX12_isFixedWithout_25 rfl 0 rfl ?_
        obtain ⟨b88953, e88954, h88955⟩ := I12.fld (h88919) 29 13 64 rfl
        refine g_getR C fi_X12_91 rfl e88954 (h88919).1 (h88919).2 dX12_isFixedWithout_26 ?_
        refine g_iload C dX12_isFixedWithout_29 7 rfl ?_
        refine g_iald (j := (v12_7.toInt.toNat)) C h88955.1 h88955.2.1 (ix_in h88955.2.2 (by omega)) dX12_isFixedWithout_31 ?_
        refine g_iast (j := (v12_7.toInt.toNat)) C h88952.1 h88952.2.1 (ix_in h88952.2.2 (by omega)) dX12_isFixedWithout_32 ?_
        refine gqW (ks := [41]) (I12.setA e88951 h88952 (by decide) (arOk.none rfl)) (EM.setA I12 e88951 rfl (by decide)) (fun Y88956 Iy88957 Xy88958 w88959  => ?_)
        have w88959 : (pI Y88956 b88950 (v12_7.toInt.toNat)).toInt = (pI P12 b88953 (v12_7.toInt.toNat)).toInt := w88959
        have W88960 := W12.keep I12 Xy88958 (by decide) (by decide) (by decide) (by decide)
        have Xz88961 : EM [28, 29, 30, 35, 36, 37, 38, 41, 42] a0 P Y88956 := EM.tr ha0 X12 (Xy88958.mono (by decide))
        have e88962 := Xy88958.ref h88919 (by decide) e88951
        have h88963 := Xy88958.at h88919
        have h88964 := Xy88958.ar h88952
        refine g_aload_n C dX12_isFixedWithout_33 rfl 0 rfl ?_
        obtain ⟨b88965, e88966, h88967⟩ := Iy88957.fld (h88963) 42 13 64 rfl
        refine g_getR C fi_X12_118 rfl e88966 (h88963).1 (h88963).2 dX12_isFixedWithout_34 ?_
        refine g_iload C dX12_isFixedWithout_37 7 rfl ?_
        refine g_aload_n C dX12_isFixedWithout_39 rfl 0 rfl ?_
        obtain ⟨b88968, e88969, h88970⟩ := Iy88957.fld (h88963) 30 13 64 rfl
        refine g_getR C fi_X12_94 rfl e88969 (h88963).1 (h88963).2 dX12_isFixedWithout_40 ?_
        refine g_iload C dX12_isFixedWithout_43 7 rfl ?_
        refine g_iald (j := (v12_7.toInt.toNat)) C h88970.1 h88970.2.1 (ix_in h88970.2.2 (by omega)) dX12_isFixedWithout_45 ?_
        refine g_iast (j := (v12_7.toInt.toNat)) C h88967.1 h88967.2.1 (ix_in h88967.2.2 (by omega)) dX12_isFixedWithout_46 ?_
        refine gqW (ks := [42]) (Iy88957.setA e88966 h88967 (by decide) (arOk.none rfl)) (EM.setA Iy88957 e88966 rfl (by decide)) (fun Y88971 Iy88972 Xy88973 w88974  => ?_)
        have w88974 : (pI Y88971 b88965 (v12_7.toInt.toNat)).toInt = (pI Y88956 b88968 (v12_7.toInt.toNat)).toInt := w88974
        have q88975 := Xy88973.keepA e88962 (by decide) rfl (v12_7.toInt.toNat)
        have W88976 := W88960.keep Iy88957 Xy88973 (by decide) (by decide) (by decide) (by decide)
        have Xz88977 : EM [28, 29, 30, 35, 36, 37, 38, 41, 42] a0 P Y88971 := EM.tr ha0 Xz88961 (Xy88973.mono (by decide))
        have e88978 := Xy88973.ref h88963 (by decide) e88962
        have e88979 := Xy88973.ref h88963 (by decide) e88966
        have h88980 := Xy88973.at h88963
        have h88981 := Xy88973.ar h88964
        have h88982 := Xy88973.ar h88967
        refine g_iload C dX12_isFixedWithout_47 7 rfl ?_
        refine g_iload_n C dX12_isFixedWithout_49 rfl 2 rfl ?_
        have u88984 := ti_rng a2
        refine b_icmp_eq C 97 dX12_isFixedWithout_50 (by decide) (fun h88983 => ?_) (fun h88983 => ?_)
        · have h88983 : v12_7.toInt = a2.toInt := congrArg Int32.toInt h88983
          exact J97 Y88971 v12_6 Iy88972 Xz88977 W88976 (by omega) (by omega) (by omega) (by show v12_6.toInt ≤ v12_7.toInt + 1; omega)
        · have h88983 : v12_7.toInt ≠ a2.toInt := ti_ne h88983
          refine g_iload C dX12_isFixedWithout_53 7 rfl ?_
          refine g_iload_n C dX12_isFixedWithout_55 rfl 3 rfl ?_
          have u88986 := ti_rng a3
          refine b_icmp_eq C 97 dX12_isFixedWithout_56 (by decide) (fun h88985 => ?_) (fun h88985 => ?_)
          · have h88985 : v12_7.toInt = a3.toInt := congrArg Int32.toInt h88985
            exact J97 Y88971 v12_6 Iy88972 Xz88977 W88976 (by omega) (by omega) (by omega) (by show v12_6.toInt ≤ v12_7.toInt + 1; omega)
          · have h88985 : v12_7.toInt ≠ a3.toInt := ti_ne h88985
            refine g_iload C dX12_isFixedWithout_59 7 rfl ?_
            refine g_iload C dX12_isFixedWithout_61 4 rfl ?_
            have u88988 := ti_rng a4
            refine b_icmp_eq C 97 dX12_isFixedWithout_63 (by decide) (fun h88987 => ?_) (fun h88987 => ?_)
            · have h88987 : v12_7.toInt = a4.toInt := congrArg Int32.toInt h88987
              exact J97 Y88971 v12_6 Iy88972 Xz88977 W88976 (by omega) (by omega) (by omega) (by show v12_6.toInt ≤ v12_7.toInt + 1; omega)
            · have h88987 : v12_7.toInt ≠ a4.toInt := ti_ne h88987
              refine g_aload_n C dX12_isFixedWithout_66 rfl 0 rfl ?_
              obtain ⟨b88989, e88990, h88991⟩ := Iy88972.fld (h88980) 29 13 64 rfl
              refine g_getR C fi_X12_91 rfl e88990 (h88980).1 (h88980).2 dX12_isFixedWithout_67 ?_
              refine g_iload C dX12_isFixedWithout_70 6 rfl ?_
              refine g_aload_n C dX12_isFixedWithout_72 rfl 0 rfl ?_
              refine g_getR C fi_X12_91 rfl e88990 (h88980).1 (h88980).2 dX12_isFixedWithout_73 ?_
              refine g_iload C dX12_isFixedWithout_76 7 rfl ?_
              refine g_iald (j := (v12_7.toInt.toNat)) C h88991.1 h88991.2.1 (ix_in h88991.2.2 (by omega)) dX12_isFixedWithout_78 ?_
              refine g_iast (j := (v12_6.toInt.toNat)) C h88991.1 h88991.2.1 (ix_in h88991.2.2 (by omega)) dX12_isFixedWithout_79 ?_
              refine gqW (ks := [29]) (Iy88972.setA e88990 h88991 (by decide) (arOk.none rfl)) (EM.setA Iy88972 e88990 rfl (by decide)) (fun Y88992 Iy88993 Xy88994 w88995  => ?_)
              have w88995 : (pI Y88992 b88989 (v12_6.toInt.toNat)).toInt = (pI Y88971 b88989 (v12_7.toInt.toNat)).toInt := w88995
              have q88996 := Xy88994.keepA e88978 (by decide) rfl (v12_7.toInt.toNat)
              have q88997 := Xy88994.keepA e88979 (by decide) rfl (v12_7.toInt.toNat)
              have W88998 := W88976.keep Iy88972 Xy88994 (by decide) (by decide) (by decide) (by decide)
              have Xz88999 : EM [28, 29, 30, 35, 36, 37, 38, 41, 42] a0 P Y88992 := EM.tr ha0 Xz88977 (Xy88994.mono (by decide))
              have e89000 := Xy88994.ref h88980 (by decide) e88978
              have e89001 := Xy88994.ref h88980 (by decide) e88979
              have e89002 := Xy88994.ref h88980 (by decide) e88990
              have h89003 := Xy88994.at h88980
              have h89004 := Xy88994.ar h88981
              have h89005 := Xy88994.ar h88982
              have h89006 := Xy88994.ar h88991
              refine g_aload_n C dX12_isFixedWithout_80 rfl 0 rfl ?_
              obtain ⟨b89007, e89008, h89009⟩ := Iy88993.fld (h89003) 30 13 64 rfl
              refine g_getR C fi_X12_94 rfl e89008 (h89003).1 (h89003).2 dX12_isFixedWithout_81 ?_
              refine g_iload C dX12_isFixedWithout_84 6 rfl ?_
              refine g_aload_n C dX12_isFixedWithout_86 rfl 0 rfl ?_
              refine g_getR C fi_X12_94 rfl e89008 (h89003).1 (h89003).2 dX12_isFixedWithout_87 ?_
              refine g_iload C dX12_isFixedWithout_90 7 rfl ?_
              refine g_iald (j := (v12_7.toInt.toNat)) C h89009.1 h89009.2.1 (ix_in h89009.2.2 (by omega)) dX12_isFixedWithout_92 ?_
              refine g_iast (j := (v12_6.toInt.toNat)) C h89009.1 h89009.2.1 (ix_in h89009.2.2 (by omega)) dX12_isFixedWithout_93 ?_
              refine gqW (ks := [30]) (Iy88993.setA e89008 h89009 (by decide) (arOk.none rfl)) (EM.setA Iy88993 e89008 rfl (by decide)) (fun Y89010 Iy89011 Xy89012 w89013  => ?_)
              have w89013 : (pI Y89010 b89007 (v12_6.toInt.toNat)).toInt = (pI Y88992 b89007 (v12_7.toInt.toNat)).toInt := w89013
              have q89014 := Xy89012.keepA e89000 (by decide) rfl (v12_7.toInt.toNat)
              have q89015 := Xy89012.keepA e89001 (by decide) rfl (v12_7.toInt.toNat)
              have q89016 := Xy89012.keepA e89002 (by decide) rfl (v12_6.toInt.toNat)
              have W89017 := W88998.keep Iy88993 Xy89012 (by decide) (by decide) (by decide) (by decide)
              have Xz89018 : EM [28, 29, 30, 35, 36, 37, 38, 41, 42] a0 P Y89010 := EM.tr ha0 Xz88999 (Xy89012.mono (by decide))
              have e89019 := Xy89012.ref h89003 (by decide) e89000
              have e89020 := Xy89012.ref h89003 (by decide) e89001
              have e89021 := Xy89012.ref h89003 (by decide) e89002
              have e89022 := Xy89012.ref h89003 (by decide) e89008
              have h89023 := Xy89012.at h89003
              have h89024 := Xy89012.ar h89004
              have h89025 := Xy89012.ar h89005
              have h89026 := Xy89012.ar h89006
              have h89027 := Xy89012.ar h89009
              refine s_iinc (lv0 := [(0, .ref a0), (1, .int a1), (2, .int a2), (3, .int a3), (4, .int a4), (5, .int v12_5), (7, .int v12_7)]) (m := 1) C dX12_isFixedWithout_94 6 rfl (by decide) rfl (by decide) (by omega) (fun z89028 h89029 => ?_)
              have h89029 : z89028.toInt = v12_6.toInt + 1 := h89029
              refine g_lv (lv' := [(0, .ref a0), (1, .int a1), (2, .int a2), (3, .int a3), (4, .int a4), (5, .int v12_5), (6, .int z89028), (7, .int v12_7)]) [1, 2, 3, 4, 5, 6, 0, 7] rfl ?_
              exact J97 Y89010 z89028 Iy89011 Xz89018 W89017 (by omega) (by omega) (by omega) (by show z89028.toInt ≤ v12_7.toInt + 1; omega)
  refine g_aload_n C dX12_isFixedWithout_0 rfl 0 rfl ?_
  refine g_getI C fi_X12_305 (by decide) (ha0).1 (ha0).2 dX12_isFixedWithout_1 ?_
  have h89030 := I.rg (ha0) 28 rfl
  refine g_topi (fun z89031 h89032 => ?_)
  have h89032 : z89031.toInt = (pI P a0 28).toInt := congrArg Int32.toInt h89032
  refine g_istore (lv' := [(5, .int z89031), (0, .ref a0), (1, .int a1), (2, .int a2), (3, .int a3), (4, .int a4)]) C dX12_isFixedWithout_4 (by decide) rfl ?_
  refine g_iconst (v := 0) C dX12_isFixedWithout_6 (by decide) ?_
  refine g_istore (lv' := [(6, .int 0), (5, .int z89031), (0, .ref a0), (1, .int a1), (2, .int a2), (3, .int a3), (4, .int a4)]) C dX12_isFixedWithout_7 (by decide) rfl ?_
  refine g_iconst (v := 0) C dX12_isFixedWithout_9 (by decide) ?_
  refine g_istore (lv' := [(7, .int 0), (6, .int 0), (5, .int z89031), (0, .ref a0), (1, .int a1), (2, .int a2), (3, .int a3), (4, .int a4)]) C dX12_isFixedWithout_10 (by decide) rfl ?_
  refine g_lv (lv' := [(0, .ref a0), (1, .int a1), (2, .int a2), (3, .int a3), (4, .int a4), (5, .int z89031), (6, .int 0), (7, .int 0)]) [3, 4, 5, 6, 7, 2, 1, 0] rfl ?_
  exact J12 _ P z89031 0 0 (Nat.lt_succ_self _) I EM.rf hW (by omega) (by decide) (by decide) (by show 0 ≤ 0; omega)
theorem dX12_guard_97 : decode cX12_guard 97 = .ok (.ifCond .eq 8, 3) := by decide +kernel
theorem dX12_guard_100 : decode cX12_guard 100 = .ok (.iload 5, 2) := by decide +kernel
theorem dX12_guard_102 : decode cX12_guard 102 = .ok (.goto 4, 3) := by decide +kernel
theorem dX12_guard_105 : decode cX12_guard 105 = .ok (.iconst 1, 1) := by decide +kernel
theorem dX12_guard_106 : decode cX12_guard 106 = .ok (.istore 5, 2) := by decide +kernel
theorem dX12_guard_108 : decode cX12_guard 108 = .ok (.iinc 6 1, 3) := by decide +kernel
theorem dX12_guard_111 : decode cX12_guard 111 = .ok (.goto (-41), 3) := by decide +kernel
theorem dX12_guard_114 : decode cX12_guard 114 = .ok (.aload_n 0, 1) := by decide +kernel
theorem dX12_guard_115 : decode cX12_guard 115 = .ok (.getfield 60, 3) := by decide +kernel
theorem dX12_guard_118 : decode cX12_guard 118 = .ok (.iload_n 2, 1) := by decide +kernel
theorem dX12_guard_119 : decode cX12_guard 119 = .ok (.iaload, 1) := by decide +kernel
theorem dX12_guard_120 : decode cX12_guard 120 = .ok (.istore 6, 2) := by decide +kernel
theorem dX12_guard_122 : decode cX12_guard 122 = .ok (.iload 6, 2) := by decide +kernel
theorem dX12_guard_124 : decode cX12_guard 124 = .ok (.aload_n 0, 1) := by decide +kernel
theorem dX12_guard_125 : decode cX12_guard 125 = .ok (.getfield 305, 3) := by decide +kernel
theorem dX12_guard_128 : decode cX12_guard 128 = .ok (.if_icmp .ge 65, 3) := by decide +kernel
theorem dX12_guard_131 : decode cX12_guard 131 = .ok (.iload 5, 2) := by decide +kernel
theorem dX12_guard_133 : decode cX12_guard 133 = .ok (.iconst 2, 1) := by decide +kernel
theorem dX12_guard_134 : decode cX12_guard 134 = .ok (.if_icmp .le 59, 3) := by decide +kernel
theorem dX12_guard_137 : decode cX12_guard 137 = .ok (.iload 6, 2) := by decide +kernel
theorem dX12_guard_139 : decode cX12_guard 139 = .ok (.iconst 1, 1) := by decide +kernel
theorem dX12_guard_140 : decode cX12_guard 140 = .ok (.iadd, 1) := by decide +kernel
theorem dX12_guard_141 : decode cX12_guard 141 = .ok (.istore 7, 2) := by decide +kernel
theorem dX12_guard_143 : decode cX12_guard 143 = .ok (.iload 7, 2) := by decide +kernel
theorem dX12_guard_145 : decode cX12_guard 145 = .ok (.aload_n 0, 1) := by decide +kernel
theorem dX12_guard_146 : decode cX12_guard 146 = .ok (.getfield 305, 3) := by decide +kernel
theorem dX12_guard_149 : decode cX12_guard 149 = .ok (.if_icmp .ge 38, 3) := by decide +kernel
theorem dX12_guard_152 : decode cX12_guard 152 = .ok (.iload 5, 2) := by decide +kernel
theorem dX12_guard_154 : decode cX12_guard 154 = .ok (.iconst 2, 1) := by decide +kernel
theorem dX12_guard_155 : decode cX12_guard 155 = .ok (.if_icmp .le 32, 3) := by decide +kernel
theorem dX12_guard_158 : decode cX12_guard 158 = .ok (.aload_n 0, 1) := by decide +kernel
theorem dX12_guard_159 : decode cX12_guard 159 = .ok (.iload 4, 2) := by decide +kernel
theorem dX12_guard_161 : decode cX12_guard 161 = .ok (.iload 6, 2) := by decide +kernel
theorem dX12_guard_163 : decode cX12_guard 163 = .ok (.iload 7, 2) := by decide +kernel
theorem dX12_guard_165 : decode cX12_guard 165 = .ok (.iload 7, 2) := by decide +kernel
theorem dX12_guard_167 : decode cX12_guard 167 = .ok (.invokevirtual 367, 3) := by decide +kernel
theorem dX12_guard_170 : decode cX12_guard 170 = .ok (.ifCond .eq 8, 3) := by decide +kernel
theorem dX12_guard_173 : decode cX12_guard 173 = .ok (.iload 5, 2) := by decide +kernel
theorem dX12_guard_175 : decode cX12_guard 175 = .ok (.goto 4, 3) := by decide +kernel
theorem dX12_guard_178 : decode cX12_guard 178 = .ok (.iconst 2, 1) := by decide +kernel
theorem dX12_guard_179 : decode cX12_guard 179 = .ok (.istore 5, 2) := by decide +kernel
theorem dX12_guard_181 : decode cX12_guard 181 = .ok (.iinc 7 1, 3) := by decide +kernel
theorem dX12_guard_184 : decode cX12_guard 184 = .ok (.goto (-41), 3) := by decide +kernel
theorem dX12_guard_187 : decode cX12_guard 187 = .ok (.iinc 6 1, 3) := by decide +kernel
theorem dX12_guard_190 : decode cX12_guard 190 = .ok (.goto (-68), 3) := by decide +kernel
theorem dX12_guard_193 : decode cX12_guard 193 = .ok (.aload_n 0, 1) := by decide +kernel
theorem dX12_guard_194 : decode cX12_guard 194 = .ok (.getfield 60, 3) := by decide +kernel
theorem dX12_guard_197 : decode cX12_guard 197 = .ok (.iload_n 2, 1) := by decide +kernel
theorem dX12_guard_198 : decode cX12_guard 198 = .ok (.iaload, 1) := by decide +kernel
theorem dX12_guard_199 : decode cX12_guard 199 = .ok (.istore 6, 2) := by decide +kernel
theorem dX12_guard_201 : decode cX12_guard 201 = .ok (.iload 6, 2) := by decide +kernel
theorem dX12_guard_203 : decode cX12_guard 203 = .ok (.aload_n 0, 1) := by decide +kernel
theorem dX12_guard_204 : decode cX12_guard 204 = .ok (.getfield 305, 3) := by decide +kernel
theorem dX12_guard_207 : decode cX12_guard 207 = .ok (.if_icmp .ge 92, 3) := by decide +kernel
theorem dX12_guard_210 : decode cX12_guard 210 = .ok (.iload 5, 2) := by decide +kernel
theorem dX12_guard_212 : decode cX12_guard 212 = .ok (.iconst 3, 1) := by decide +kernel
theorem dX12_guard_213 : decode cX12_guard 213 = .ok (.if_icmp .le 86, 3) := by decide +kernel
theorem dX12_guard_216 : decode cX12_guard 216 = .ok (.iload 6, 2) := by decide +kernel
theorem dX12_guard_218 : decode cX12_guard 218 = .ok (.iconst 1, 1) := by decide +kernel
theorem dX12_guard_219 : decode cX12_guard 219 = .ok (.iadd, 1) := by decide +kernel
theorem dX12_guard_220 : decode cX12_guard 220 = .ok (.istore 7, 2) := by decide +kernel
theorem dX12_guard_222 : decode cX12_guard 222 = .ok (.iload 7, 2) := by decide +kernel
theorem dX12_guard_224 : decode cX12_guard 224 = .ok (.aload_n 0, 1) := by decide +kernel
theorem dX12_guard_225 : decode cX12_guard 225 = .ok (.getfield 305, 3) := by decide +kernel
theorem dX12_guard_228 : decode cX12_guard 228 = .ok (.if_icmp .ge 65, 3) := by decide +kernel
theorem dX12_guard_231 : decode cX12_guard 231 = .ok (.iload 5, 2) := by decide +kernel
theorem dX12_guard_233 : decode cX12_guard 233 = .ok (.iconst 3, 1) := by decide +kernel
theorem dX12_guard_234 : decode cX12_guard 234 = .ok (.if_icmp .le 59, 3) := by decide +kernel
theorem dX12_guard_237 : decode cX12_guard 237 = .ok (.iload 7, 2) := by decide +kernel
theorem dX12_guard_239 : decode cX12_guard 239 = .ok (.iconst 1, 1) := by decide +kernel
theorem dX12_guard_240 : decode cX12_guard 240 = .ok (.iadd, 1) := by decide +kernel
theorem dX12_guard_241 : decode cX12_guard 241 = .ok (.istore 8, 2) := by decide +kernel
theorem dX12_guard_243 : decode cX12_guard 243 = .ok (.iload 8, 2) := by decide +kernel
theorem dX12_guard_245 : decode cX12_guard 245 = .ok (.aload_n 0, 1) := by decide +kernel
theorem dX12_guard_246 : decode cX12_guard 246 = .ok (.getfield 305, 3) := by decide +kernel
theorem dX12_guard_249 : decode cX12_guard 249 = .ok (.if_icmp .ge 38, 3) := by decide +kernel
theorem dX12_guard_252 : decode cX12_guard 252 = .ok (.iload 5, 2) := by decide +kernel
theorem dX12_guard_254 : decode cX12_guard 254 = .ok (.iconst 3, 1) := by decide +kernel
theorem dX12_guard_255 : decode cX12_guard 255 = .ok (.if_icmp .le 32, 3) := by decide +kernel
theorem dX12_guard_258 : decode cX12_guard 258 = .ok (.aload_n 0, 1) := by decide +kernel
theorem dX12_guard_259 : decode cX12_guard 259 = .ok (.iload 4, 2) := by decide +kernel
theorem dX12_guard_261 : decode cX12_guard 261 = .ok (.iload 6, 2) := by decide +kernel
theorem dX12_guard_263 : decode cX12_guard 263 = .ok (.iload 7, 2) := by decide +kernel
theorem dX12_guard_265 : decode cX12_guard 265 = .ok (.iload 8, 2) := by decide +kernel
theorem dX12_guard_267 : decode cX12_guard 267 = .ok (.invokevirtual 367, 3) := by decide +kernel
theorem dX12_guard_270 : decode cX12_guard 270 = .ok (.ifCond .eq 8, 3) := by decide +kernel
theorem dX12_guard_273 : decode cX12_guard 273 = .ok (.iload 5, 2) := by decide +kernel
theorem dX12_guard_275 : decode cX12_guard 275 = .ok (.goto 4, 3) := by decide +kernel
theorem dX12_guard_278 : decode cX12_guard 278 = .ok (.iconst 3, 1) := by decide +kernel
theorem dX12_guard_279 : decode cX12_guard 279 = .ok (.istore 5, 2) := by decide +kernel
theorem dX12_guard_281 : decode cX12_guard 281 = .ok (.iinc 8 1, 3) := by decide +kernel
theorem dX12_guard_284 : decode cX12_guard 284 = .ok (.goto (-41), 3) := by decide +kernel
theorem dX12_guard_287 : decode cX12_guard 287 = .ok (.iinc 7 1, 3) := by decide +kernel
theorem dX12_guard_290 : decode cX12_guard 290 = .ok (.goto (-68), 3) := by decide +kernel
theorem dX12_guard_293 : decode cX12_guard 293 = .ok (.iinc 6 1, 3) := by decide +kernel
theorem dX12_guard_296 : decode cX12_guard 296 = .ok (.goto (-95), 3) := by decide +kernel
theorem dX12_guard_299 : decode cX12_guard 299 = .ok (.iload 5, 2) := by decide +kernel
theorem dX12_guard_301 : decode cX12_guard 301 = .ok (.iconst 3, 1) := by decide +kernel
theorem dX12_guard_302 : decode cX12_guard 302 = .ok (.if_icmp .le 7, 3) := by decide +kernel
theorem dX12_guard_305 : decode cX12_guard 305 = .ok (.iconst (-1), 1) := by decide +kernel
theorem dX12_guard_306 : decode cX12_guard 306 = .ok (.goto 5, 3) := by decide +kernel
theorem dX12_guard_309 : decode cX12_guard 309 = .ok (.iload 5, 2) := by decide +kernel
theorem dX12_guard_311 : decode cX12_guard 311 = .ok (.ireturn, 1) := by decide +kernel
set_option maxHeartbeats 4000000 in
set_option maxRecDepth 100000 in
theorem s_X12_guard {P : PP} {a0 : Nat} {a1 : Int32} {a2 : Int32} {a3 : Int32} {a4 : Int32} (I : IM P a0) (hW : MW P a0) : CtrI yX12_guard cX12_guard 9 (some Jvm.ClassFile.FieldType.int) ({ frames := 5, cells := 0, slots := 0, locals := 320 } : Room) 0 0 P [.ref a0, .int a1, .int a2, .int a3, .int a4] (fun r P2 => IM P2 a0 ∧ EM [0, 28, 29, 30, 31, 32, 35, 36, 37, 38, 41, 42] a0 P P2 ∧ MW P2 a0 ∧ (-1 ≤ r.toInt ∧ r.toInt ≤ 3)) := by
  refine enI (lv := [(0, .ref a0), (1, .int a1), (2, .int a2), (3, .int a3), (4, .int a4)]) (by decide) (Nat.le_of_ble_eq_true rfl) rfl (fun E D cy C Ci0 ret => ?_)
  have ha0 := I.2.1
  have J299 : ∀ (P299 : PP) (v299_5 : Int32), (IM P299 a0) → (EM [0, 28, 29, 30, 31, 32, 35, 36, 37, 38, 41, 42] a0 P P299) → (MW P299 a0) → (1 ≤ v299_5.toInt ∧ v299_5.toInt ≤ 4) → (0 ≤ (pI P299 a0 0).toInt ∧ (pI P299 a0 0).toInt ≤ 0) → (∀ b, pR P299 a0 10 = some b → 1 ≤ (pI P299 b (a2.toInt.toNat)).toInt ∧ (pI P299 b (a2.toInt.toNat)).toInt ≤ 16) → G E ({ frames := 5, cells := 0, slots := 0, locals := 320 } : Room) D cy 9 P299 0 0 299 [(5, .int v299_5)] [] := by
    intro P299 v299_5 I299 X299 W299 hv299_5 hq299_0 hq299_1
    have h91491 := X299.at ha0
    obtain ⟨b91492, e91493, h91494⟩ := I299.fld (h91491) 10 13 2 rfl
    have hq299_1 := hq299_1 b91492 e91493
    refine g_iload C dX12_guard_299 0 rfl ?_
    refine g_iconst (v := 3) C dX12_guard_301 (by decide) ?_
    refine b_icmp_le C 309 dX12_guard_302 (by decide) (fun h91495 => ?_) (fun h91495 => ?_)
    · have h91495 : v299_5.toInt ≤ 3 := h91495
      refine g_iload C dX12_guard_309 0 rfl ?_
      exact ret _ _ _ _ _ _ dX12_guard_311 rfl (by decide) (by decide) ⟨I299, X299, W299, (by omega)⟩
    · have h91495 : 3 < v299_5.toInt := h91495
      refine g_iconst (v := (-1)) C dX12_guard_305 (by decide) ?_
      refine g_goto C 311 dX12_guard_306 (by decide) ?_
      exact ret _ _ _ _ _ _ dX12_guard_311 rfl (by decide) (by decide) ⟨I299, X299, W299, (by decide)⟩
  have J201 : ∀ (n201 : Nat) (P201 : PP) (v201_5 : Int32) (v201_6 : Int32), (64 - v201_6.toInt).toNat < n201 → (IM P201 a0) → (EM [0, 28, 29, 30, 31, 32, 35, 36, 37, 38, 41, 42] a0 P P201) → (MW P201 a0) → (0 ≤ a4.toInt ∧ a4.toInt ≤ 19) → (1 ≤ v201_5.toInt ∧ v201_5.toInt ≤ 4) → (0 ≤ v201_6.toInt ∧ v201_6.toInt ≤ 64) → (0 ≤ (pI P201 a0 0).toInt ∧ (pI P201 a0 0).toInt ≤ 0) → (∀ b, pR P201 a0 10 = some b → 1 ≤ (pI P201 b (a2.toInt.toNat)).toInt ∧ (pI P201 b (a2.toInt.toNat)).toInt ≤ 16) → G E ({ frames := 5, cells := 0, slots := 0, locals := 320 } : Room) D cy 9 P201 0 0 201 [(0, .ref a0), (4, .int a4), (5, .int v201_5), (6, .int v201_6)] [] := by
    intro n201
    induction n201 with
    | zero => intro P201 v201_5 v201_6 hm201 I201 X201 W201 hv201_4 hv201_5 hv201_6 hq201_0 hq201_1; omega
    | succ n201 ih201 =>
      intro P201 v201_5 v201_6 hm201 I201 X201 W201 hv201_4 hv201_5 hv201_6 hq201_0 hq201_1
      have h91496 := X201.at ha0
      obtain ⟨b91497, e91498, h91499⟩ := I201.fld (h91496) 10 13 2 rfl
      have hq201_1 := hq201_1 b91497 e91498
      have J293 : ∀ (P293 : PP) (v293_5 : Int32), (IM P293 a0) → (EM [0, 28, 29, 30, 31, 32, 35, 36, 37, 38, 41, 42] a0 P P293) → (MW P293 a0) → (0 ≤ a4.toInt ∧ a4.toInt ≤ 19) → (3 ≤ v293_5.toInt ∧ v293_5.toInt ≤ 4) → (0 ≤ v201_6.toInt ∧ v201_6.toInt ≤ 63) → (0 ≤ (pI P293 a0 0).toInt ∧ (pI P293 a0 0).toInt ≤ 0) → (∀ b, pR P293 a0 10 = some b → 1 ≤ (pI P293 b (a2.toInt.toNat)).toInt ∧ (pI P293 b (a2.toInt.toNat)).toInt ≤ 16) → G E ({ frames := 5, cells := 0, slots := 0, locals := 320 } : Room) D cy 9 P293 0 0 293 [(0, .ref a0), (4, .int a4), (5, .int v293_5), (6, .int v201_6)] [] := by
        intro P293 v293_5 I293 X293 W293 hv293_4 hv293_5 hv293_6 hq293_0 hq293_1
        have h91500 := X293.at ha0
        obtain ⟨b91501, e91502, h91503⟩ := I293.fld (h91500) 10 13 2 rfl
        have hq293_1 := hq293_1 b91501 e91502
        refine s_iinc (lv0 := [(0, .ref a0), (4, .int a4), (5, .int v293_5)]) (m := 1) C dX12_guard_293 3 rfl (by decide) rfl (by decide) (by omega) (fun z91504 h91505 => ?_)
        have h91505 : z91504.toInt = v201_6.toInt + 1 := h91505
        refine g_goto C 201 dX12_guard_296 (by decide) ?_
        refine g_lv (lv' := [(0, .ref a0), (4, .int a4), (5, .int v293_5), (6, .int z91504)]) [1, 2, 3, 0] rfl ?_
        exact ih201 P293 v293_5 z91504 (by omega) I293 X293 W293 (by omega) (by omega) (by omega) (by omega) (fun b9 e9 => by rw [e91502] at e9; cases e9; omega)
      have J222 : ∀ (n222 : Nat) (P222 : PP) (v222_5 : Int32) (v222_7 : Int32), (64 - v222_7.toInt).toNat < n222 → (IM P222 a0) → (EM [0, 28, 29, 30, 31, 32, 35, 36, 37, 38, 41, 42] a0 P P222) → (MW P222 a0) → (0 ≤ a4.toInt ∧ a4.toInt ≤ 19) → (3 ≤ v222_5.toInt ∧ v222_5.toInt ≤ 4) → (0 ≤ v201_6.toInt ∧ v201_6.toInt ≤ 63) → (1 ≤ v222_7.toInt ∧ v222_7.toInt ≤ 64) → (0 ≤ (pI P222 a0 0).toInt ∧ (pI P222 a0 0).toInt ≤ 0) → (∀ b, pR P222 a0 10 = some b → 1 ≤ (pI P222 b (a2.toInt.toNat)).toInt ∧ (pI P222 b (a2.toInt.toNat)).toInt ≤ 16) → G E ({ frames := 5, cells := 0, slots := 0, locals := 320 } : Room) D cy 9 P222 0 0 222 [(0, .ref a0), (4, .int a4), (5, .int v222_5), (6, .int v201_6), (7, .int v222_7)] [] := by
        intro n222
        induction n222 with
        | zero => intro P222 v222_5 v222_7 hm222 I222 X222 W222 hv222_4 hv222_5 hv222_6 hv222_7 hq222_0 hq222_1; omega
        | succ n222 ih222 =>
          intro P222 v222_5 v222_7 hm222 I222 X222 W222 hv222_4 hv222_5 hv222_6 hv222_7 hq222_0 hq222_1
          have h91506 := X222.at ha0
          obtain ⟨b91507, e91508, h91509⟩ := I222.fld (h91506) 10 13 2 rfl
          have hq222_1 := hq222_1 b91507 e91508
          have J287 : ∀ (P287 : PP) (v287_5 : Int32), (IM P287 a0) → (EM [0, 28, 29, 30, 31, 32, 35, 36, 37, 38, 41, 42] a0 P P287) → (MW P287 a0) → (0 ≤ a4.toInt ∧ a4.toInt ≤ 19) → (3 ≤ v287_5.toInt ∧ v287_5.toInt ≤ 4) → (0 ≤ v201_6.toInt ∧ v201_6.toInt ≤ 63) → (1 ≤ v222_7.toInt ∧ v222_7.toInt ≤ 63) → (0 ≤ (pI P287 a0 0).toInt ∧ (pI P287 a0 0).toInt ≤ 0) → (∀ b, pR P287 a0 10 = some b → 1 ≤ (pI P287 b (a2.toInt.toNat)).toInt ∧ (pI P287 b (a2.toInt.toNat)).toInt ≤ 16) → G E ({ frames := 5, cells := 0, slots := 0, locals := 320 } : Room) D cy 9 P287 0 0 287 [(0, .ref a0), (4, .int a4), (5, .int v287_5), (6, .int v201_6), (7, .int v222_7)] [] := by
            intro P287 v287_5 I287 X287 W287 hv287_4 hv287_5 hv287_6 hv287_7 hq287_0 hq287_1
            have h91510 := X287.at ha0
            obtain ⟨b91511, e91512, h91513⟩ := I287.fld (h91510) 10 13 2 rfl
            have hq287_1 := hq287_1 b91511 e91512
            refine s_iinc (lv0 := [(0, .ref a0), (4, .int a4), (5, .int v287_5), (6, .int v201_6)]) (m := 1) C dX12_guard_287 4 rfl (by decide) rfl (by decide) (by omega) (fun z91514 h91515 => ?_)
            have h91515 : z91514.toInt = v222_7.toInt + 1 := h91515
            refine g_goto C 222 dX12_guard_290 (by decide) ?_
            refine g_lv (lv' := [(0, .ref a0), (4, .int a4), (5, .int v287_5), (6, .int v201_6), (7, .int z91514)]) [1, 2, 3, 4, 0] rfl ?_
            exact ih222 P287 v287_5 z91514 (by omega) I287 X287 W287 (by omega) (by omega) (by omega) (by omega) (by omega) (fun b9 e9 => by rw [e91512] at e9; cases e9; omega)
          have J243 : ∀ (n243 : Nat) (P243 : PP) (v243_5 : Int32) (v243_8 : Int32), (64 - v243_8.toInt).toNat < n243 → (IM P243 a0) → (EM [0, 28, 29, 30, 31, 32, 35, 36, 37, 38, 41, 42] a0 P P243) → (MW P243 a0) → (0 ≤ a4.toInt ∧ a4.toInt ≤ 19) → (3 ≤ v243_5.toInt ∧ v243_5.toInt ≤ 4) → (0 ≤ v201_6.toInt ∧ v201_6.toInt ≤ 63) → (1 ≤ v222_7.toInt ∧ v222_7.toInt ≤ 63) → (2 ≤ v243_8.toInt ∧ v243_8.toInt ≤ 64) → (0 ≤ (pI P243 a0 0).toInt ∧ (pI P243 a0 0).toInt ≤ 0) → (∀ b, pR P243 a0 10 = some b → 1 ≤ (pI P243 b (a2.toInt.toNat)).toInt ∧ (pI P243 b (a2.toInt.toNat)).toInt ≤ 16) → G E ({ frames := 5, cells := 0, slots := 0, locals := 320 } : Room) D cy 9 P243 0 0 243 [(0, .ref a0), (4, .int a4), (5, .int v243_5), (6, .int v201_6), (7, .int v222_7), (8, .int v243_8)] [] := by
            intro n243
            induction n243 with
            | zero => intro P243 v243_5 v243_8 hm243 I243 X243 W243 hv243_4 hv243_5 hv243_6 hv243_7 hv243_8 hq243_0 hq243_1; omega
            | succ n243 ih243 =>
              intro P243 v243_5 v243_8 hm243 I243 X243 W243 hv243_4 hv243_5 hv243_6 hv243_7 hv243_8 hq243_0 hq243_1
              have h91516 := X243.at ha0
              obtain ⟨b91517, e91518, h91519⟩ := I243.fld (h91516) 10 13 2 rfl
              have hq243_1 := hq243_1 b91517 e91518
              have J279 : ∀ (P279 : PP) (v279_s0 : Int32), (IM P279 a0) → (EM [0, 28, 29, 30, 31, 32, 35, 36, 37, 38, 41, 42] a0 P P279) → (MW P279 a0) → (0 ≤ a4.toInt ∧ a4.toInt ≤ 19) → (0 ≤ v201_6.toInt ∧ v201_6.toInt ≤ 63) → (1 ≤ v222_7.toInt ∧ v222_7.toInt ≤ 63) → (2 ≤ v243_8.toInt ∧ v243_8.toInt ≤ 63) → (3 ≤ v279_s0.toInt ∧ v279_s0.toInt ≤ 4) → (0 ≤ (pI P279 a0 0).toInt ∧ (pI P279 a0 0).toInt ≤ 0) → (∀ b, pR P279 a0 10 = some b → 1 ≤ (pI P279 b (a2.toInt.toNat)).toInt ∧ (pI P279 b (a2.toInt.toNat)).toInt ≤ 16) → G E ({ frames := 5, cells := 0, slots := 0, locals := 320 } : Room) D cy 9 P279 0 0 279 [(0, .ref a0), (4, .int a4), (6, .int v201_6), (7, .int v222_7), (8, .int v243_8)] [.int v279_s0] := by
                intro P279 v279_s0 I279 X279 W279 hv279_4 hv279_6 hv279_7 hv279_8 hv279_s0 hq279_0 hq279_1
                have h91520 := X279.at ha0
                obtain ⟨b91521, e91522, h91523⟩ := I279.fld (h91520) 10 13 2 rfl
                have hq279_1 := hq279_1 b91521 e91522
                refine g_istore (lv' := [(5, .int v279_s0), (0, .ref a0), (4, .int a4), (6, .int v201_6), (7, .int v222_7), (8, .int v243_8)]) C dX12_guard_279 (by decide) rfl ?_
                refine s_iinc (lv0 := [(5, .int v279_s0), (0, .ref a0), (4, .int a4), (6, .int v201_6), (7, .int v222_7)]) (m := 1) C dX12_guard_281 5 rfl (by decide) rfl (by decide) (by omega) (fun z91524 h91525 => ?_)
                have h91525 : z91524.toInt = v243_8.toInt + 1 := h91525
                refine g_goto C 243 dX12_guard_284 (by decide) ?_
                refine g_lv (lv' := [(0, .ref a0), (4, .int a4), (5, .int v279_s0), (6, .int v201_6), (7, .int v222_7), (8, .int z91524)]) [2, 3, 1, 4, 5, 0] rfl ?_
                exact ih243 P279 v279_s0 z91524 (by omega) I279 X279 W279 (by omega) (by omega) (by omega) (by omega) (by omega) (by omega) (fun b9 e9 => by rw [e91522] at e9; cases e9; omega)
              refine g_iload C dX12_guard_243 5 rfl ?_
              refine g_aload_n C dX12_guard_245 rfl 0 rfl ?_
              refine g_getI C fi_X12_305 (by decide) (h91516).1 (h91516).2 dX12_guard_246 ?_
              have h91526 := I243.rg (h91516) 28 rfl
              refine b_icmp_ge C 287 dX12_guard_249 (by decide) (fun h91527 => ?_) (fun h91527 => ?_)
              · have h91527 : (pI P243 a0 28).toInt ≤ v243_8.toInt := h91527
                refine g_lv (lv' := [(0, .ref a0), (4, .int a4), (5, .int v243_5), (6, .int v201_6), (7, .int v222_7)]) [0, 1, 2, 3, 4] rfl ?_
                exact J287 P243 v243_5 I243 X243 W243 (by omega) (by omega) (by omega) (by omega) (by omega) (fun b9 e9 => by rw [e91518] at e9; cases e9; omega)
              · have h91527 : v243_8.toInt < (pI P243 a0 28).toInt := h91527
                refine g_iload C dX12_guard_252 2 rfl ?_
                refine g_iconst (v := 3) C dX12_guard_254 (by decide) ?_
                refine b_icmp_le C 287 dX12_guard_255 (by decide) (fun h91528 => ?_) (fun h91528 => ?_)
                · have h91528 : v243_5.toInt ≤ 3 := h91528
                  refine g_lv (lv' := [(0, .ref a0), (4, .int a4), (5, .int v243_5), (6, .int v201_6), (7, .int v222_7)]) [0, 1, 2, 3, 4] rfl ?_
                  exact J287 P243 v243_5 I243 X243 W243 (by omega) (by omega) (by omega) (by omega) (by omega) (fun b9 e9 => by rw [e91518] at e9; cases e9; omega)
                · have h91528 : 3 < v243_5.toInt := h91528
                  refine g_aload_n C dX12_guard_258 rfl 0 rfl ?_
                  refine g_iload C dX12_guard_259 1 rfl ?_
                  refine g_iload C dX12_guard_261 3 rfl ?_
                  refine g_iload C dX12_guard_263 4 rfl ?_
                  refine g_iload C dX12_guard_265 5 rfl ?_
                  refine g_callVI (rest := []) C mv_X12_367 [.int a4, .int v201_6, .int v222_7, .int v243_8] (s_X12_isFixedWithout I243 (by omega) W243) (h91516).1 (h91516).2 rfl rfl (by decide) (Nat.le_of_ble_eq_true rfl) (by decide) dX12_guard_267 (fun r91529 Y91530 h91531 => ?_)
                  obtain ⟨Iy91532, Xy91533, W91534, h91531⟩ := h91531
                  have q91535 := Xy91533.keepF 0 (by decide)
                  have q91536 := Xy91533.keepA e91518 (by decide) rfl (a2.toInt.toNat)
                  have Xz91537 : EM [0, 28, 29, 30, 31, 32, 35, 36, 37, 38, 41, 42] a0 P Y91530 := EM.tr ha0 X243 (Xy91533.mono (by decide))
                  have e91538 := Xy91533.ref h91516 (by decide) e91518
                  have h91539 := Xy91533.at h91516
                  have h91540 := Xy91533.ar h91519
                  have h91531 : 0 ≤ r91529.toInt ∧ r91529.toInt ≤ 1 := h91531
                  refine b_if_eq C 278 dX12_guard_270 (by decide) (fun h91541 => ?_) (fun h91541 => ?_)
                  · have h91541 : r91529.toInt = 0 := congrArg Int32.toInt h91541
                    refine g_iconst (v := 3) C dX12_guard_278 (by decide) ?_
                    refine g_lv (lv' := [(0, .ref a0), (4, .int a4), (6, .int v201_6), (7, .int v222_7), (8, .int v243_8)]) [0, 1, 3, 4, 5] rfl ?_
                    exact J279 Y91530 3 Iy91532 Xz91537 W91534 (by omega) (by omega) (by omega) (by omega) (by decide) (by omega) (fun b9 e9 => by rw [e91538] at e9; cases e9; omega)
                  · have h91541 : r91529.toInt ≠ 0 := ti_ne h91541
                    refine g_iload C dX12_guard_273 2 rfl ?_
                    refine g_goto C 279 dX12_guard_275 (by decide) ?_
                    refine g_lv (lv' := [(0, .ref a0), (4, .int a4), (6, .int v201_6), (7, .int v222_7), (8, .int v243_8)]) [0, 1, 3, 4, 5] rfl ?_
                    exact J279 Y91530 v243_5 Iy91532 Xz91537 W91534 (by omega) (by omega) (by omega) (by omega) (by omega) (by omega) (fun b9 e9 => by rw [e91538] at e9; cases e9; omega)
          refine g_iload C dX12_guard_222 4 rfl ?_
          refine g_aload_n C dX12_guard_224 rfl 0 rfl ?_
          refine g_getI C fi_X12_305 (by decide) (h91506).1 (h91506).2 dX12_guard_225 ?_
          have h91542 := I222.rg (h91506) 28 rfl
          refine b_icmp_ge C 293 dX12_guard_228 (by decide) (fun h91543 => ?_) (fun h91543 => ?_)
          · have h91543 : (pI P222 a0 28).toInt ≤ v222_7.toInt := h91543
            refine g_lv (lv' := [(0, .ref a0), (4, .int a4), (5, .int v222_5), (6, .int v201_6)]) [0, 1, 2, 3] rfl ?_
            exact J293 P222 v222_5 I222 X222 W222 (by omega) (by omega) (by omega) (by omega) (fun b9 e9 => by rw [e91508] at e9; cases e9; omega)
          · have h91543 : v222_7.toInt < (pI P222 a0 28).toInt := h91543
            refine g_iload C dX12_guard_231 2 rfl ?_
            refine g_iconst (v := 3) C dX12_guard_233 (by decide) ?_
            refine b_icmp_le C 293 dX12_guard_234 (by decide) (fun h91544 => ?_) (fun h91544 => ?_)
            · have h91544 : v222_5.toInt ≤ 3 := h91544
              refine g_lv (lv' := [(0, .ref a0), (4, .int a4), (5, .int v222_5), (6, .int v201_6)]) [0, 1, 2, 3] rfl ?_
              exact J293 P222 v222_5 I222 X222 W222 (by omega) (by omega) (by omega) (by omega) (fun b9 e9 => by rw [e91508] at e9; cases e9; omega)
            · have h91544 : 3 < v222_5.toInt := h91544
              refine g_iload C dX12_guard_237 4 rfl ?_
              refine g_iconst (v := 1) C dX12_guard_239 (by decide) ?_
              refine s_iadd C dX12_guard_240 (by show -2147483648 ≤ v222_7.toInt + 1 ∧ v222_7.toInt + 1 ≤ 2147483647; omega) (fun z91545 h91546 => ?_)
              have h91546 : z91545.toInt = v222_7.toInt + 1 := h91546
              refine g_istore (lv' := [(8, .int z91545), (0, .ref a0), (4, .int a4), (5, .int v222_5), (6, .int v201_6), (7, .int v222_7)]) C dX12_guard_241 (by decide) rfl ?_
              refine g_lv (lv' := [(0, .ref a0), (4, .int a4), (5, .int v222_5), (6, .int v201_6), (7, .int v222_7), (8, .int z91545)]) [1, 2, 3, 4, 5, 0] rfl ?_
              exact J243 _ P222 v222_5 z91545 (Nat.lt_succ_self _) I222 X222 W222 (by omega) (by omega) (by omega) (by omega) (by omega) (by omega) (fun b9 e9 => by rw [e91508] at e9; cases e9; omega)
      refine g_iload C dX12_guard_201 3 rfl ?_
      refine g_aload_n C dX12_guard_203 rfl 0 rfl ?_
      refine g_getI C fi_X12_305 (by decide) (h91496).1 (h91496).2 dX12_guard_204 ?_
      have h91547 := I201.rg (h91496) 28 rfl
      refine b_icmp_ge C 299 dX12_guard_207 (by decide) (fun h91548 => ?_) (fun h91548 => ?_)
      · have h91548 : (pI P201 a0 28).toInt ≤ v201_6.toInt := h91548
        refine g_lv (lv' := [(5, .int v201_5)]) [2] rfl ?_
        exact J299 P201 v201_5 I201 X201 W201 (by omega) (by omega) (fun b9 e9 => by rw [e91498] at e9; cases e9; omega)
      · have h91548 : v201_6.toInt < (pI P201 a0 28).toInt := h91548
        refine g_iload C dX12_guard_210 2 rfl ?_
        refine g_iconst (v := 3) C dX12_guard_212 (by decide) ?_
        refine b_icmp_le C 299 dX12_guard_213 (by decide) (fun h91549 => ?_) (fun h91549 => ?_)
        · have h91549 : v201_5.toInt ≤ 3 := h91549
          refine g_lv (lv' := [(5, .int v201_5)]) [2] rfl ?_
          exact J299 P201 v201_5 I201 X201 W201 (by omega) (by omega) (fun b9 e9 => by rw [e91498] at e9; cases e9; omega)
        · have h91549 : 3 < v201_5.toInt := h91549
          refine g_iload C dX12_guard_216 3 rfl ?_
          refine g_iconst (v := 1) C dX12_guard_218 (by decide) ?_
          refine s_iadd C dX12_guard_219 (by show -2147483648 ≤ v201_6.toInt + 1 ∧ v201_6.toInt + 1 ≤ 2147483647; omega) (fun z91550 h91551 => ?_)
          have h91551 : z91550.toInt = v201_6.toInt + 1 := h91551
          refine g_istore (lv' := [(7, .int z91550), (0, .ref a0), (4, .int a4), (5, .int v201_5), (6, .int v201_6)]) C dX12_guard_220 (by decide) rfl ?_
          refine g_lv (lv' := [(0, .ref a0), (4, .int a4), (5, .int v201_5), (6, .int v201_6), (7, .int z91550)]) [1, 2, 3, 4, 0] rfl ?_
          exact J222 _ P201 v201_5 z91550 (Nat.lt_succ_self _) I201 X201 W201 (by omega) (by omega) (by omega) (by omega) (by omega) (fun b9 e9 => by rw [e91498] at e9; cases e9; omega)
  have J193 : ∀ (P193 : PP) (v193_5 : Int32), (IM P193 a0) → (EM [0, 28, 29, 30, 31, 32, 35, 36, 37, 38, 41, 42] a0 P P193) → (MW P193 a0) → (0 ≤ a2.toInt ∧ a2.toInt ≤ 1) → (0 ≤ a4.toInt ∧ a4.toInt ≤ 19) → (1 ≤ v193_5.toInt ∧ v193_5.toInt ≤ 4) → (0 ≤ (pI P193 a0 0).toInt ∧ (pI P193 a0 0).toInt ≤ 0) → (∀ b, pR P193 a0 10 = some b → 1 ≤ (pI P193 b (a2.toInt.toNat)).toInt ∧ (pI P193 b (a2.toInt.toNat)).toInt ≤ 16) → G E ({ frames := 5, cells := 0, slots := 0, locals := 320 } : Room) D cy 9 P193 0 0 193 [(0, .ref a0), (2, .int a2), (4, .int a4), (5, .int v193_5)] [] := by
    intro P193 v193_5 I193 X193 W193 hv193_2 hv193_4 hv193_5 hq193_0 hq193_1
    have h91552 := X193.at ha0
    obtain ⟨b91553, e91554, h91555⟩ := I193.fld (h91552) 10 13 2 rfl
    have hq193_1 := hq193_1 b91553 e91554
    refine g_aload_n C dX12_guard_193 rfl 0 rfl ?_
    obtain ⟨b91556, e91557, h91558⟩ := I193.fld (h91552) 15 13 3 rfl
    refine g_getR C fi_X12_60 rfl e91557 (h91552).1 (h91552).2 dX12_guard_194 ?_
    refine g_iload_n C dX12_guard_197 rfl 1 rfl ?_
    refine g_iald (j := (a2.toInt.toNat)) C h91558.1 h91558.2.1 (ix_in h91558.2.2 (by omega)) dX12_guard_198 ?_
    have h91559 := I193.arr e91557 rfl (a2.toInt.toNat)
    refine g_topi (fun z91560 h91561 => ?_)
    have h91561 : z91560.toInt = (pI P193 b91556 (a2.toInt.toNat)).toInt := congrArg Int32.toInt h91561
    refine g_istore (lv' := [(6, .int z91560), (0, .ref a0), (2, .int a2), (4, .int a4), (5, .int v193_5)]) C dX12_guard_199 (by decide) rfl ?_
    refine g_lv (lv' := [(0, .ref a0), (4, .int a4), (5, .int v193_5), (6, .int z91560)]) [1, 3, 4, 0] rfl ?_
    exact J201 _ P193 v193_5 z91560 (Nat.lt_succ_self _) I193 X193 W193 (by omega) (by omega) (by omega) (by omega) (fun b9 e9 => by rw [e91554] at e9; cases e9; omega)
  have J122 : ∀ (n122 : Nat) (P122 : PP) (v122_5 : Int32) (v122_6 : Int32), (64 - v122_6.toInt).toNat < n122 → (IM P122 a0) → (EM [0, 28, 29, 30, 31, 32, 35, 36, 37, 38, 41, 42] a0 P P122) → (MW P122 a0) → (0 ≤ a2.toInt ∧ a2.toInt ≤ 1) → (0 ≤ a4.toInt ∧ a4.toInt ≤ 19) → (1 ≤ v122_5.toInt ∧ v122_5.toInt ≤ 4) → (0 ≤ v122_6.toInt ∧ v122_6.toInt ≤ 64) → (0 ≤ (pI P122 a0 0).toInt ∧ (pI P122 a0 0).toInt ≤ 0) → (∀ b, pR P122 a0 10 = some b → 1 ≤ (pI P122 b (a2.toInt.toNat)).toInt ∧ (pI P122 b (a2.toInt.toNat)).toInt ≤ 16) → G E ({ frames := 5, cells := 0, slots := 0, locals := 320 } : Room) D cy 9 P122 0 0 122 [(0, .ref a0), (2, .int a2), (4, .int a4), (5, .int v122_5), (6, .int v122_6)] [] := by
    intro n122
    induction n122 with
    | zero => intro P122 v122_5 v122_6 hm122 I122 X122 W122 hv122_2 hv122_4 hv122_5 hv122_6 hq122_0 hq122_1; omega
    | succ n122 ih122 =>
      intro P122 v122_5 v122_6 hm122 I122 X122 W122 hv122_2 hv122_4 hv122_5 hv122_6 hq122_0 hq122_1
      have h91562 := X122.at ha0
      obtain ⟨b91563, e91564, h91565⟩ := I122.fld (h91562) 10 13 2 rfl
      have hq122_1 := hq122_1 b91563 e91564
      have J187 : ∀ (P187 : PP) (v187_5 : Int32), (IM P187 a0) → (EM [0, 28, 29, 30, 31, 32, 35, 36, 37, 38, 41, 42] a0 P P187) → (MW P187 a0) → (0 ≤ a2.toInt ∧ a2.toInt ≤ 1) → (0 ≤ a4.toInt ∧ a4.toInt ≤ 19) → (2 ≤ v187_5.toInt ∧ v187_5.toInt ≤ 4) → (0 ≤ v122_6.toInt ∧ v122_6.toInt ≤ 63) → (0 ≤ (pI P187 a0 0).toInt ∧ (pI P187 a0 0).toInt ≤ 0) → (∀ b, pR P187 a0 10 = some b → 1 ≤ (pI P187 b (a2.toInt.toNat)).toInt ∧ (pI P187 b (a2.toInt.toNat)).toInt ≤ 16) → G E ({ frames := 5, cells := 0, slots := 0, locals := 320 } : Room) D cy 9 P187 0 0 187 [(0, .ref a0), (2, .int a2), (4, .int a4), (5, .int v187_5), (6, .int v122_6)] [] := by
        intro P187 v187_5 I187 X187 W187 hv187_2 hv187_4 hv187_5 hv187_6 hq187_0 hq187_1
        have h91566 := X187.at ha0
        obtain ⟨b91567, e91568, h91569⟩ := I187.fld (h91566) 10 13 2 rfl
        have hq187_1 := hq187_1 b91567 e91568
        refine s_iinc (lv0 := [(0, .ref a0), (2, .int a2), (4, .int a4), (5, .int v187_5)]) (m := 1) C dX12_guard_187 4 rfl (by decide) rfl (by decide) (by omega) (fun z91570 h91571 => ?_)
        have h91571 : z91570.toInt = v122_6.toInt + 1 := h91571
        refine g_goto C 122 dX12_guard_190 (by decide) ?_
        refine g_lv (lv' := [(0, .ref a0), (2, .int a2), (4, .int a4), (5, .int v187_5), (6, .int z91570)]) [1, 2, 3, 4, 0] rfl ?_
        exact ih122 P187 v187_5 z91570 (by omega) I187 X187 W187 (by omega) (by omega) (by omega) (by omega) (by omega) (fun b9 e9 => by rw [e91568] at e9; cases e9; omega)
      have J143 : ∀ (n143 : Nat) (P143 : PP) (v143_5 : Int32) (v143_7 : Int32), (64 - v143_7.toInt).toNat < n143 → (IM P143 a0) → (EM [0, 28, 29, 30, 31, 32, 35, 36, 37, 38, 41, 42] a0 P P143) → (MW P143 a0) → (0 ≤ a2.toInt ∧ a2.toInt ≤ 1) → (0 ≤ a4.toInt ∧ a4.toInt ≤ 19) → (2 ≤ v143_5.toInt ∧ v143_5.toInt ≤ 4) → (0 ≤ v122_6.toInt ∧ v122_6.toInt ≤ 63) → (1 ≤ v143_7.toInt ∧ v143_7.toInt ≤ 64) → (0 ≤ (pI P143 a0 0).toInt ∧ (pI P143 a0 0).toInt ≤ 0) → (∀ b, pR P143 a0 10 = some b → 1 ≤ (pI P143 b (a2.toInt.toNat)).toInt ∧ (pI P143 b (a2.toInt.toNat)).toInt ≤ 16) → G E ({ frames := 5, cells := 0, slots := 0, locals := 320 } : Room) D cy 9 P143 0 0 143 [(0, .ref a0), (2, .int a2), (4, .int a4), (5, .int v143_5), (6, .int v122_6), (7, .int v143_7)] [] := by
        intro n143
        induction n143 with
        | zero => intro P143 v143_5 v143_7 hm143 I143 X143 W143 hv143_2 hv143_4 hv143_5 hv143_6 hv143_7 hq143_0 hq143_1; omega
        | succ n143 ih143 =>
          intro P143 v143_5 v143_7 hm143 I143 X143 W143 hv143_2 hv143_4 hv143_5 hv143_6 hv143_7 hq143_0 hq143_1
          have h91572 := X143.at ha0
          obtain ⟨b91573, e91574, h91575⟩ := I143.fld (h91572) 10 13 2 rfl
          have hq143_1 := hq143_1 b91573 e91574
          have J179 : ∀ (P179 : PP) (v179_s0 : Int32), (IM P179 a0) → (EM [0, 28, 29, 30, 31, 32, 35, 36, 37, 38, 41, 42] a0 P P179) → (MW P179 a0) → (0 ≤ a2.toInt ∧ a2.toInt ≤ 1) → (0 ≤ a4.toInt ∧ a4.toInt ≤ 19) → (0 ≤ v122_6.toInt ∧ v122_6.toInt ≤ 63) → (1 ≤ v143_7.toInt ∧ v143_7.toInt ≤ 63) → (2 ≤ v179_s0.toInt ∧ v179_s0.toInt ≤ 4) → (0 ≤ (pI P179 a0 0).toInt ∧ (pI P179 a0 0).toInt ≤ 0) → (∀ b, pR P179 a0 10 = some b → 1 ≤ (pI P179 b (a2.toInt.toNat)).toInt ∧ (pI P179 b (a2.toInt.toNat)).toInt ≤ 16) → G E ({ frames := 5, cells := 0, slots := 0, locals := 320 } : Room) D cy 9 P179 0 0 179 [(0, .ref a0), (2, .int a2), (4, .int a4), (6, .int v122_6), (7, .int v143_7)] [.int v179_s0] := by
            intro P179 v179_s0 I179 X179 W179 hv179_2 hv179_4 hv179_6 hv179_7 hv179_s0 hq179_0 hq179_1
            have h91576 := X179.at ha0
            obtain ⟨b91577, e91578, h91579⟩ := I179.fld (h91576) 10 13 2 rfl
            have hq179_1 := hq179_1 b91577 e91578
            refine g_istore (lv' := [(5, .int v179_s0), (0, .ref a0), (2, .int a2), (4, .int a4), (6, .int v122_6), (7, .int v143_7)]) C dX12_guard_179 (by decide) rfl ?_
            refine s_iinc (lv0 := [(5, .int v179_s0), (0, .ref a0), (2, .int a2), (4, .int a4), (6, .int v122_6)]) (m := 1) C dX12_guard_181 5 rfl (by decide) rfl (by decide) (by omega) (fun z91580 h91581 => ?_)
            have h91581 : z91580.toInt = v143_7.toInt + 1 := h91581
            refine g_goto C 143 dX12_guard_184 (by decide) ?_
            refine g_lv (lv' := [(0, .ref a0), (2, .int a2), (4, .int a4), (5, .int v179_s0), (6, .int v122_6), (7, .int z91580)]) [2, 3, 4, 1, 5, 0] rfl ?_
            exact ih143 P179 v179_s0 z91580 (by omega) I179 X179 W179 (by omega) (by omega) (by omega) (by omega) (by omega) (by omega) (fun b9 e9 => by rw [e91578] at e9; cases e9; omega)
          refine g_iload C dX12_guard_143 5 rfl ?_
          refine g_aload_n C dX12_guard_145 rfl 0 rfl ?_
          refine g_getI C fi_X12_305 (by decide) (h91572).1 (h91572).2 dX12_guard_146 ?_
          have h91582 := I143.rg (h91572) 28 rfl
          refine b_icmp_ge C 187 dX12_guard_149 (by decide) (fun h91583 => ?_) (fun h91583 => ?_)
          · have h91583 : (pI P143 a0 28).toInt ≤ v143_7.toInt := h91583
            refine g_lv (lv' := [(0, .ref a0), (2, .int a2), (4, .int a4), (5, .int v143_5), (6, .int v122_6)]) [0, 1, 2, 3, 4] rfl ?_
            exact J187 P143 v143_5 I143 X143 W143 (by omega) (by omega) (by omega) (by omega) (by omega) (fun b9 e9 => by rw [e91574] at e9; cases e9; omega)
          · have h91583 : v143_7.toInt < (pI P143 a0 28).toInt := h91583
            refine g_iload C dX12_guard_152 3 rfl ?_
            refine g_iconst (v := 2) C dX12_guard_154 (by decide) ?_
            refine b_icmp_le C 187 dX12_guard_155 (by decide) (fun h91584 => ?_) (fun h91584 => ?_)
            · have h91584 : v143_5.toInt ≤ 2 := h91584
              refine g_lv (lv' := [(0, .ref a0), (2, .int a2), (4, .int a4), (5, .int v143_5), (6, .int v122_6)]) [0, 1, 2, 3, 4] rfl ?_
              exact J187 P143 v143_5 I143 X143 W143 (by omega) (by omega) (by omega) (by omega) (by omega) (fun b9 e9 => by rw [e91574] at e9; cases e9; omega)
            · have h91584 : 2 < v143_5.toInt := h91584
              refine g_aload_n C dX12_guard_158 rfl 0 rfl ?_
              refine g_iload C dX12_guard_159 2 rfl ?_
              refine g_iload C dX12_guard_161 4 rfl ?_
              refine g_iload C dX12_guard_163 5 rfl ?_
              refine g_iload C dX12_guard_165 5 rfl ?_
              refine g_callVI (rest := []) C mv_X12_367 [.int a4, .int v122_6, .int v143_7, .int v143_7] (s_X12_isFixedWithout I143 (by omega) W143) (h91572).1 (h91572).2 rfl rfl (by decide) (Nat.le_of_ble_eq_true rfl) (by decide) dX12_guard_167 (fun r91585 Y91586 h91587 => ?_)
              obtain ⟨Iy91588, Xy91589, W91590, h91587⟩ := h91587
              have q91591 := Xy91589.keepF 0 (by decide)
              have q91592 := Xy91589.keepA e91574 (by decide) rfl (a2.toInt.toNat)
              have Xz91593 : EM [0, 28, 29, 30, 31, 32, 35, 36, 37, 38, 41, 42] a0 P Y91586 := EM.tr ha0 X143 (Xy91589.mono (by decide))
              have e91594 := Xy91589.ref h91572 (by decide) e91574
              have h91595 := Xy91589.at h91572
              have h91596 := Xy91589.ar h91575
              have h91587 : 0 ≤ r91585.toInt ∧ r91585.toInt ≤ 1 := h91587
              refine b_if_eq C 178 dX12_guard_170 (by decide) (fun h91597 => ?_) (fun h91597 => ?_)
              · have h91597 : r91585.toInt = 0 := congrArg Int32.toInt h91597
                refine g_iconst (v := 2) C dX12_guard_178 (by decide) ?_
                refine g_lv (lv' := [(0, .ref a0), (2, .int a2), (4, .int a4), (6, .int v122_6), (7, .int v143_7)]) [0, 1, 2, 4, 5] rfl ?_
                exact J179 Y91586 2 Iy91588 Xz91593 W91590 (by omega) (by omega) (by omega) (by omega) (by decide) (by omega) (fun b9 e9 => by rw [e91594] at e9; cases e9; omega)
              · have h91597 : r91585.toInt ≠ 0 := ti_ne h91597
                refine g_iload C dX12_guard_173 3 rfl ?_
                refine g_goto C 179 dX12_guard_175 (by decide) ?_
                refine g_lv (lv' := [(0, .ref a0), (2, .int a2), (4, .int a4), (6, .int v122_6), (7, .int v143_7)]) [0, 1, 2, 4, 5] rfl ?_
                exact J179 Y91586 v143_5 Iy91588 Xz91593 W91590 (by omega) (by omega) (by omega) (by omega) (by omega) (by omega) (fun b9 e9 => by rw [e91594] at e9; cases e9; omega)
      refine g_iload C dX12_guard_122 4 rfl ?_
      refine g_aload_n C dX12_guard_124 rfl 0 rfl ?_
      refine g_getI C fi_X12_305 (by decide) (h91562).1 (h91562).2 dX12_guard_125 ?_
      have h91598 := I122.rg (h91562) 28 rfl
      refine b_icmp_ge C 193 dX12_guard_128 (by decide) (fun h91599 => ?_) (fun h91599 => ?_)
      · have h91599 : (pI P122 a0 28).toInt ≤ v122_6.toInt := h91599
        refine g_lv (lv' := [(0, .ref a0), (2, .int a2), (4, .int a4), (5, .int v122_5)]) [0, 1, 2, 3] rfl ?_
        exact J193 P122 v122_5 I122 X122 W122 (by omega) (by omega) (by omega) (by omega) (fun b9 e9 => by rw [e91564] at e9; cases e9; omega)
      · have h91599 : v122_6.toInt < (pI P122 a0 28).toInt := h91599
        refine g_iload C dX12_guard_131 3 rfl ?_
        refine g_iconst (v := 2) C dX12_guard_133 (by decide) ?_
        refine b_icmp_le C 193 dX12_guard_134 (by decide) (fun h91600 => ?_) (fun h91600 => ?_)
        · have h91600 : v122_5.toInt ≤ 2 := h91600
          refine g_lv (lv' := [(0, .ref a0), (2, .int a2), (4, .int a4), (5, .int v122_5)]) [0, 1, 2, 3] rfl ?_
          exact J193 P122 v122_5 I122 X122 W122 (by omega) (by omega) (by omega) (by omega) (fun b9 e9 => by rw [e91564] at e9; cases e9; omega)
        · have h91600 : 2 < v122_5.toInt := h91600
          refine g_iload C dX12_guard_137 4 rfl ?_
          refine g_iconst (v := 1) C dX12_guard_139 (by decide) ?_
          refine s_iadd C dX12_guard_140 (by show -2147483648 ≤ v122_6.toInt + 1 ∧ v122_6.toInt + 1 ≤ 2147483647; omega) (fun z91601 h91602 => ?_)
          have h91602 : z91601.toInt = v122_6.toInt + 1 := h91602
          refine g_istore (lv' := [(7, .int z91601), (0, .ref a0), (2, .int a2), (4, .int a4), (5, .int v122_5), (6, .int v122_6)]) C dX12_guard_141 (by decide) rfl ?_
          refine g_lv (lv' := [(0, .ref a0), (2, .int a2), (4, .int a4), (5, .int v122_5), (6, .int v122_6), (7, .int z91601)]) [1, 2, 3, 4, 5, 0] rfl ?_
          exact J143 _ P122 v122_5 z91601 (Nat.lt_succ_self _) I122 X122 W122 (by omega) (by omega) (by omega) (by omega) (by omega) (by omega) (fun b9 e9 => by rw [e91564] at e9; cases e9; omega)
  have J114 : ∀ (P114 : PP) (v114_5 : Int32), (IM P114 a0) → (EM [0, 28, 29, 30, 31, 32, 35, 36, 37, 38, 41, 42] a0 P P114) → (MW P114 a0) → (0 ≤ a2.toInt ∧ a2.toInt ≤ 1) → (0 ≤ a4.toInt ∧ a4.toInt ≤ 19) → (1 ≤ v114_5.toInt ∧ v114_5.toInt ≤ 4) → (0 ≤ (pI P114 a0 0).toInt ∧ (pI P114 a0 0).toInt ≤ 0) → (∀ b, pR P114 a0 10 = some b → 1 ≤ (pI P114 b (a2.toInt.toNat)).toInt ∧ (pI P114 b (a2.toInt.toNat)).toInt ≤ 16) → G E ({ frames := 5, cells := 0, slots := 0, locals := 320 } : Room) D cy 9 P114 0 0 114 [(0, .ref a0), (2, .int a2), (4, .int a4), (5, .int v114_5)] [] := by
    intro P114 v114_5 I114 X114 W114 hv114_2 hv114_4 hv114_5 hq114_0 hq114_1
    have h91603 := X114.at ha0
    obtain ⟨b91604, e91605, h91606⟩ := I114.fld (h91603) 10 13 2 rfl
    have hq114_1 := hq114_1 b91604 e91605
    refine g_aload_n C dX12_guard_114 rfl 0 rfl ?_
    obtain ⟨b91607, e91608, h91609⟩ := I114.fld (h91603) 15 13 3 rfl
    refine g_getR C fi_X12_60 rfl e91608 (h91603).1 (h91603).2 dX12_guard_115 ?_
    refine g_iload_n C dX12_guard_118 rfl 1 rfl ?_
    refine g_iald (j := (a2.toInt.toNat)) C h91609.1 h91609.2.1 (ix_in h91609.2.2 (by omega)) dX12_guard_119 ?_
    have h91610 := I114.arr e91608 rfl (a2.toInt.toNat)
    refine g_topi (fun z91611 h91612 => ?_)
    have h91612 : z91611.toInt = (pI P114 b91607 (a2.toInt.toNat)).toInt := congrArg Int32.toInt h91612
    refine g_istore (lv' := [(6, .int z91611), (0, .ref a0), (2, .int a2), (4, .int a4), (5, .int v114_5)]) C dX12_guard_120 (by decide) rfl ?_
    refine g_lv (lv' := [(0, .ref a0), (2, .int a2), (4, .int a4), (5, .int v114_5), (6, .int z91611)]) [1, 2, 3, 4, 0] rfl ?_
    exact J122 _ P114 v114_5 z91611 (Nat.lt_succ_self _) I114 X114 W114 (by omega) (by omega) (by omega) (by omega) (by omega) (fun b9 e9 => by rw [e91605] at e9; cases e9; omega)
  have J70 : ∀ (n70 : Nat) (P70 : PP) (v70_5 : Int32) (v70_6 : Int32), (64 - v70_6.toInt).toNat < n70 → (IM P70 a0) → (EM [0, 28, 29, 30, 31, 32, 35, 36, 37, 38, 41, 42] a0 P P70) → (MW P70 a0) → (0 ≤ a2.toInt ∧ a2.toInt ≤ 1) → (0 ≤ a4.toInt ∧ a4.toInt ≤ 19) → (1 ≤ v70_5.toInt ∧ v70_5.toInt ≤ 4) → (0 ≤ v70_6.toInt ∧ v70_6.toInt ≤ 64) → (0 ≤ (pI P70 a0 0).toInt ∧ (pI P70 a0 0).toInt ≤ 0) → (∀ b, pR P70 a0 10 = some b → 1 ≤ (pI P70 b (a2.toInt.toNat)).toInt ∧ (pI P70 b (a2.toInt.toNat)).toInt ≤ 16) → G E ({ frames := 5, cells := 0, slots := 0, locals := 320 } : Room) D cy 9 P70 0 0 70 [(0, .ref a0), (2, .int a2), (4, .int a4), (5, .int v70_5), (6, .int v70_6)] [] := by
    intro n70
    induction n70 with
    | zero => intro P70 v70_5 v70_6 hm70 I70 X70 W70 hv70_2 hv70_4 hv70_5 hv70_6 hq70_0 hq70_1; omega
    | succ n70 ih70 =>
      intro P70 v70_5 v70_6 hm70 I70 X70 W70 hv70_2 hv70_4 hv70_5 hv70_6 hq70_0 hq70_1
      have h91613 := X70.at ha0
      obtain ⟨b91614, e91615, h91616⟩ := I70.fld (h91613) 10 13 2 rfl
      have hq70_1 := hq70_1 b91614 e91615
      have J106 : ∀ (P106 : PP) (v106_s0 : Int32), (IM P106 a0) → (EM [0, 28, 29, 30, 31, 32, 35, 36, 37, 38, 41, 42] a0 P P106) → (MW P106 a0) → (0 ≤ a2.toInt ∧ a2.toInt ≤ 1) → (0 ≤ a4.toInt ∧ a4.toInt ≤ 19) → (0 ≤ v70_6.toInt ∧ v70_6.toInt ≤ 63) → (1 ≤ v106_s0.toInt ∧ v106_s0.toInt ≤ 4) → (0 ≤ (pI P106 a0 0).toInt ∧ (pI P106 a0 0).toInt ≤ 0) → (∀ b, pR P106 a0 10 = some b → 1 ≤ (pI P106 b (a2.toInt.toNat)).toInt ∧ (pI P106 b (a2.toInt.toNat)).toInt ≤ 16) → G E ({ frames := 5, cells := 0, slots := 0, locals := 320 } : Room) D cy 9 P106 0 0 106 [(0, .ref a0), (2, .int a2), (4, .int a4), (6, .int v70_6)] [.int v106_s0] := by
        intro P106 v106_s0 I106 X106 W106 hv106_2 hv106_4 hv106_6 hv106_s0 hq106_0 hq106_1
        have h91617 := X106.at ha0
        obtain ⟨b91618, e91619, h91620⟩ := I106.fld (h91617) 10 13 2 rfl
        have hq106_1 := hq106_1 b91618 e91619
        refine g_istore (lv' := [(5, .int v106_s0), (0, .ref a0), (2, .int a2), (4, .int a4), (6, .int v70_6)]) C dX12_guard_106 (by decide) rfl ?_
        refine s_iinc (lv0 := [(5, .int v106_s0), (0, .ref a0), (2, .int a2), (4, .int a4)]) (m := 1) C dX12_guard_108 4 rfl (by decide) rfl (by decide) (by omega) (fun z91621 h91622 => ?_)
        have h91622 : z91621.toInt = v70_6.toInt + 1 := h91622
        refine g_goto C 70 dX12_guard_111 (by decide) ?_
        refine g_lv (lv' := [(0, .ref a0), (2, .int a2), (4, .int a4), (5, .int v106_s0), (6, .int z91621)]) [2, 3, 4, 1, 0] rfl ?_
        exact ih70 P106 v106_s0 z91621 (by omega) I106 X106 W106 (by omega) (by omega) (by omega) (by omega) (by omega) (fun b9 e9 => by rw [e91619] at e9; cases e9; omega)
      refine g_iload C dX12_guard_70 4 rfl ?_
      refine g_aload_n C dX12_guard_72 rfl 0 rfl ?_
      refine g_getI C fi_X12_305 (by decide) (h91613).1 (h91613).2 dX12_guard_73 ?_
      have h91623 := I70.rg (h91613) 28 rfl
      refine b_icmp_ge C 114 dX12_guard_76 (by decide) (fun h91624 => ?_) (fun h91624 => ?_)
      · have h91624 : (pI P70 a0 28).toInt ≤ v70_6.toInt := h91624
        refine g_lv (lv' := [(0, .ref a0), (2, .int a2), (4, .int a4), (5, .int v70_5)]) [0, 1, 2, 3] rfl ?_
        exact J114 P70 v70_5 I70 X70 W70 (by omega) (by omega) (by omega) (by omega) (fun b9 e9 => by rw [e91615] at e9; cases e9; omega)
      · have h91624 : v70_6.toInt < (pI P70 a0 28).toInt := h91624
        refine g_iload C dX12_guard_79 3 rfl ?_
        refine g_iconst (v := 1) C dX12_guard_81 (by decide) ?_
        refine b_icmp_le C 114 dX12_guard_82 (by decide) (fun h91625 => ?_) (fun h91625 => ?_)
        · have h91625 : v70_5.toInt ≤ 1 := h91625
          refine g_lv (lv' := [(0, .ref a0), (2, .int a2), (4, .int a4), (5, .int v70_5)]) [0, 1, 2, 3] rfl ?_
          exact J114 P70 v70_5 I70 X70 W70 (by omega) (by omega) (by omega) (by omega) (fun b9 e9 => by rw [e91615] at e9; cases e9; omega)
        · have h91625 : 1 < v70_5.toInt := h91625
          refine g_aload_n C dX12_guard_85 rfl 0 rfl ?_
          refine g_iload C dX12_guard_86 2 rfl ?_
          refine g_iload C dX12_guard_88 4 rfl ?_
          refine g_iload C dX12_guard_90 4 rfl ?_
          refine g_iload C dX12_guard_92 4 rfl ?_
          refine g_callVI (rest := []) C mv_X12_367 [.int a4, .int v70_6, .int v70_6, .int v70_6] (s_X12_isFixedWithout I70 (by omega) W70) (h91613).1 (h91613).2 rfl rfl (by decide) (Nat.le_of_ble_eq_true rfl) (by decide) dX12_guard_94 (fun r91626 Y91627 h91628 => ?_)
          obtain ⟨Iy91629, Xy91630, W91631, h91628⟩ := h91628
          have q91632 := Xy91630.keepF 0 (by decide)
          have q91633 := Xy91630.keepA e91615 (by decide) rfl (a2.toInt.toNat)
          have Xz91634 : EM [0, 28, 29, 30, 31, 32, 35, 36, 37, 38, 41, 42] a0 P Y91627 := EM.tr ha0 X70 (Xy91630.mono (by decide))
          have e91635 := Xy91630.ref h91613 (by decide) e91615
          have h91636 := Xy91630.at h91613
          have h91637 := Xy91630.ar h91616
          have h91628 : 0 ≤ r91626.toInt ∧ r91626.toInt ≤ 1 := h91628
          refine b_if_eq C 105 dX12_guard_97 (by decide) (fun h91638 => ?_) (fun h91638 => ?_)
          · have h91638 : r91626.toInt = 0 := congrArg Int32.toInt h91638
            refine g_iconst (v := 1) C dX12_guard_105 (by decide) ?_
            refine g_lv (lv' := [(0, .ref a0), (2, .int a2), (4, .int a4), (6, .int v70_6)]) [0, 1, 2, 4] rfl ?_
            exact J106 Y91627 1 Iy91629 Xz91634 W91631 (by omega) (by omega) (by omega) (by decide) (by omega) (fun b9 e9 => by rw [e91635] at e9; cases e9; omega)
          · have h91638 : r91626.toInt ≠ 0 := ti_ne h91638
            refine g_iload C dX12_guard_100 3 rfl ?_
            refine g_goto C 106 dX12_guard_102 (by decide) ?_
            refine g_lv (lv' := [(0, .ref a0), (2, .int a2), (4, .int a4), (6, .int v70_6)]) [0, 1, 2, 4] rfl ?_
            exact J106 Y91627 v70_5 Iy91629 Xz91634 W91631 (by omega) (by omega) (by omega) (by omega) (by omega) (fun b9 e9 => by rw [e91635] at e9; cases e9; omega)
  have J25 : ∀ (P25 : PP), (IM P25 a0) → (EM [0, 28, 29, 30, 31, 32, 35, 36, 37, 38, 41, 42] a0 P P25) → (MW P25 a0) → (0 ≤ (pI P25 a0 0).toInt ∧ (pI P25 a0 0).toInt ≤ 0) → G E ({ frames := 5, cells := 0, slots := 0, locals := 320 } : Room) D cy 9 P25 0 0 25 [] [] := by
    intro P25 I25 X25 W25 hq25_0
    have h91639 := X25.at ha0
    refine g_iconst (v := (-1)) C dX12_guard_25 (by decide) ?_
    exact ret _ _ _ _ _ _ dX12_guard_26 rfl (by decide) (by decide) ⟨I25, X25, W25, (by decide)⟩
  refine g_aload_n C dX12_guard_0 rfl 0 rfl ?_
  refine g_iconst (v := 0) C dX12_guard_1 (by decide) ?_
  refine g_putI C fi_X12_1 rfl (ha0).1 (ha0).2 dX12_guard_2 ?_
  refine gqW (ks := [0]) (I.setI (rgOk.of rfl (by decide))) (EM.setI I (by decide)) (fun Y91640 Iy91641 Xy91642 w91643  => ?_)
  have w91643 : (pI Y91640 a0 0).toInt = 0 := w91643
  have W91644 := hW.keep I Xy91642 (by decide) (by decide) (by decide) (by decide)
  have Xz91645 : EM [0, 28, 29, 30, 31, 32, 35, 36, 37, 38, 41, 42] a0 P Y91640 := Xy91642.mono (by decide)
  have h91646 := Xy91642.at ha0
  refine g_aload_n C dX12_guard_5 rfl 0 rfl ?_
  refine g_iload_n C dX12_guard_6 rfl 1 rfl ?_
  refine g_iload_n C dX12_guard_7 rfl 2 rfl ?_
  refine g_iload_n C dX12_guard_8 rfl 3 rfl ?_
  refine g_callVI (rest := []) C mv_X12_333 [.int a1, .int a2, .int a3] (s_X12_isAsked Iy91641 W91644) (h91646).1 (h91646).2 rfl rfl (by decide) (Nat.le_of_ble_eq_true rfl) (by decide) dX12_guard_9 (fun r91647 Y91648 h91649 => ?_)
  obtain ⟨rfl, h91649⟩ := h91649
  obtain ⟨h91649, hi91650, hi91651⟩ := h91649
  have hi91650 : r91647.toInt = 0 ∨ (((0 : Int) ≤ a1.toInt ∧ a1.toInt ≤ (3 : Int)) ∧ ((0 : Int) ≤ a2.toInt ∧ a2.toInt ≤ (1 : Int)) ∧ ((0 : Int) ≤ a3.toInt ∧ a3.toInt ≤ (1 : Int))) := hi91650
  have h91649 : 0 ≤ r91647.toInt ∧ r91647.toInt ≤ 1 := h91649
  refine b_if_eq C 25 dX12_guard_12 (by decide) (fun h91652 => ?_) (fun h91652 => ?_)
  · have h91652 : r91647.toInt = 0 := congrArg Int32.toInt h91652
    clear hi91650
    refine g_lv (lv' := []) [] rfl ?_
    exact J25 Y91640 Iy91641 Xz91645 W91644 (by omega)
  · have h91652 : r91647.toInt ≠ 0 := ti_ne h91652
    replace hi91650 := hi91650.resolve_left (by omega)
    obtain ⟨b91653, e91654, h91655⟩ := Iy91641.fld (h91646) 10 13 2 rfl
    have hi91651 := (hi91651.resolve_left (by omega)) b91653 e91654
    have hi91651 : 0 < (pI Y91640 b91653 (a2.toInt.toNat)).toInt := hi91651
    have h91656 := Iy91641.arr e91654 rfl (a2.toInt.toNat)
    refine g_aload_n C dX12_guard_15 rfl 0 rfl ?_
    refine g_iload_n C dX12_guard_16 rfl 2 rfl ?_
    refine g_iload C dX12_guard_17 4 rfl ?_
    refine g_callVI (rest := []) C mv_X12_352 [.int a2, .int a4] (s_X12_isPage Iy91641 (by omega) W91644) (h91646).1 (h91646).2 rfl rfl (by decide) (Nat.le_of_ble_eq_true rfl) (by decide) dX12_guard_19 (fun r91657 Y91658 h91659 => ?_)
    obtain ⟨rfl, h91659⟩ := h91659
    obtain ⟨h91659, hi91660⟩ := h91659
    have hi91660 : r91657.toInt = 0 ∨ (((0 : Int) ≤ a4.toInt ∧ a4.toInt ≤ (19 : Int))) := hi91660
    have h91659 : 0 ≤ r91657.toInt ∧ r91657.toInt ≤ 1 := h91659
    refine b_if_ne C 27 dX12_guard_22 (by decide) (fun h91661 => ?_) (fun h91661 => ?_)
    · have h91661 : r91657.toInt ≠ 0 := ti_ne h91661
      replace hi91660 := hi91660.resolve_left (by omega)
      refine g_aload_n C dX12_guard_27 rfl 0 rfl ?_
      refine g_callVV (rest := []) C mv_X12_336 [] (s_X12_leavesNone Iy91641 W91644) (h91646).1 (h91646).2 rfl rfl (by decide) (Nat.le_of_ble_eq_true rfl) (by decide) dX12_guard_28 (fun Y91663 h91664 => ?_)
      obtain ⟨Iy91665, Xy91666, W91667⟩ := h91664
      have q91668 := Xy91666.keepF 0 (by decide)
      have q91669 := Xy91666.keepA e91654 (by decide) rfl (a2.toInt.toNat)
      have Xz91670 : EM [0, 28, 29, 30, 31, 32, 35, 36, 37, 38, 41, 42] a0 P Y91663 := EM.tr ha0 Xz91645 (Xy91666.mono (by decide))
      have e91671 := Xy91666.ref h91646 (by decide) e91654
      have h91672 := Xy91666.at h91646
      have h91673 := Xy91666.ar h91655
      refine g_aload_n C dX12_guard_31 rfl 0 rfl ?_
      refine g_iload_n C dX12_guard_32 rfl 1 rfl ?_
      refine g_iload_n C dX12_guard_33 rfl 2 rfl ?_
      refine g_iload_n C dX12_guard_34 rfl 3 rfl ?_
      refine g_aload_n C dX12_guard_35 rfl 0 rfl ?_
      obtain ⟨b91674, e91675, h91676⟩ := Iy91665.fld (h91672) 20 13 20 rfl
      refine g_getR C fi_X12_69 rfl e91675 (h91672).1 (h91672).2 dX12_guard_36 ?_
      refine g_iload_n C dX12_guard_39 rfl 1 rfl ?_
      refine g_iald (j := (a1.toInt.toNat)) C h91676.1 h91676.2.1 (ix_in h91676.2.2 (by omega)) dX12_guard_40 ?_
      have h91677 := Iy91665.arr e91675 rfl (a1.toInt.toNat)
      refine g_callVV (rest := []) C mv_X12_339 [.int a1, .int a2, .int a3, .int (pI Y91663 b91674 (a1.toInt.toNat))] (s_X12_gathers Iy91665 (by omega) (by omega) (by omega) (fun b9 e9 => by rw [e91671] at e9; cases e9; show 1 ≤ (pI Y91663 b91653 (a2.toInt.toNat)).toInt ∧ (pI Y91663 b91653 (a2.toInt.toNat)).toInt ≤ 16; omega) W91667) (h91672).1 (h91672).2 rfl rfl (by decide) (Nat.le_of_ble_eq_true rfl) (by decide) dX12_guard_41 (fun Y91679 h91680 => ?_)
      obtain ⟨Iy91681, Xy91682, W91683, p91684, p91685⟩ := h91680
      have p91684 : (pI Y91679 a0 28).toInt ≤ 4 + (pI Y91663 b91674 (a1.toInt.toNat)).toInt := p91684
      have q91686 := Xy91682.keepF 0 (by decide)
      have q91687 := Xy91682.keepA e91671 (by decide) rfl (a2.toInt.toNat)
      have q91688 := Xy91682.keepA e91675 (by decide) rfl (a1.toInt.toNat)
      have Xz91689 : EM [0, 28, 29, 30, 31, 32, 35, 36, 37, 38, 41, 42] a0 P Y91679 := EM.tr ha0 Xz91670 (Xy91682.mono (by decide))
      have e91690 := Xy91682.ref h91672 (by decide) e91671
      have e91691 := Xy91682.ref h91672 (by decide) e91675
      have h91692 := Xy91682.at h91672
      have h91693 := Xy91682.ar h91673
      have h91694 := Xy91682.ar h91676
      obtain ⟨b91695, e91696, h91697⟩ := Iy91681.fld (h91692) 22 13 800 rfl
      have p91685 := p91685 b91695 e91696
      rw [Xz91689.2.2.2 22 (by decide) rfl b91695 (EM.refB Xz91689 ha0 e91696)] at p91685
      have p91685 : (pI Y91679 a0 28).toInt ≤ 4 + kC (pI P b91695) (40 * a1.toInt).toNat a2.toInt ((pI Y91663 b91674 (a1.toInt.toNat)).toInt : Int).toNat := p91685
      have h91698 := Iy91681.rg h91692 28 rfl
      refine g_aload_n C dX12_guard_44 rfl 0 rfl ?_
      refine g_callVV (rest := []) C mv_X12_346 [] (s_X12_findSolved Iy91681 W91683) (h91692).1 (h91692).2 rfl rfl (by decide) (Nat.le_of_ble_eq_true rfl) (by decide) dX12_guard_45 (fun Y91700 h91701 => ?_)
      obtain ⟨Iy91702, Xy91703, W91704⟩ := h91701
      have q91705 := Xy91703.keepF 0 (by decide)
      have q91706 := Xy91703.keepA e91690 (by decide) rfl (a2.toInt.toNat)
      have q91707 := Xy91703.keepA e91691 (by decide) rfl (a1.toInt.toNat)
      have q91708 := Xy91703.keepF 28 (by decide)
      have Xz91709 : EM [0, 28, 29, 30, 31, 32, 35, 36, 37, 38, 41, 42] a0 P Y91700 := EM.tr ha0 Xz91689 (Xy91703.mono (by decide))
      have e91710 := Xy91703.ref h91692 (by decide) e91690
      have e91711 := Xy91703.ref h91692 (by decide) e91691
      have h91712 := Xy91703.at h91692
      have h91713 := Xy91703.ar h91693
      have h91714 := Xy91703.ar h91694
      refine g_aload_n C dX12_guard_48 rfl 0 rfl ?_
      refine g_iload C dX12_guard_49 4 rfl ?_
      refine g_callVI (rest := []) C mv_X12_330 [.int a4] (s_X12_isFixed Iy91702 (by omega) W91704) (h91712).1 (h91712).2 rfl rfl (by decide) (Nat.le_of_ble_eq_true rfl) (by decide) dX12_guard_51 (fun r91715 Y91716 h91717 => ?_)
      obtain ⟨rfl, h91717⟩ := h91717
      have h91717 : 0 ≤ r91715.toInt ∧ r91715.toInt ≤ 1 := h91717
      refine b_if_ne C 59 dX12_guard_54 (by decide) (fun h91718 => ?_) (fun h91718 => ?_)
      · have h91718 : r91715.toInt ≠ 0 := ti_ne h91718
        refine g_iconst (v := 4) C dX12_guard_59 (by decide) ?_
        refine g_istore (lv' := [(5, .int 4), (0, .ref a0), (1, .int a1), (2, .int a2), (3, .int a3), (4, .int a4)]) C dX12_guard_60 (by decide) rfl ?_
        refine g_aload_n C dX12_guard_62 rfl 1 rfl ?_
        obtain ⟨b91719, e91720, h91721⟩ := Iy91702.fld (h91712) 15 13 3 rfl
        refine g_getR C fi_X12_60 rfl e91720 (h91712).1 (h91712).2 dX12_guard_63 ?_
        refine g_iload_n C dX12_guard_66 rfl 3 rfl ?_
        refine g_iald (j := (a2.toInt.toNat)) C h91721.1 h91721.2.1 (ix_in h91721.2.2 (by omega)) dX12_guard_67 ?_
        have h91722 := Iy91702.arr e91720 rfl (a2.toInt.toNat)
        refine g_topi (fun z91723 h91724 => ?_)
        have h91724 : z91723.toInt = (pI Y91700 b91719 (a2.toInt.toNat)).toInt := congrArg Int32.toInt h91724
        refine g_istore (lv' := [(6, .int z91723), (5, .int 4), (0, .ref a0), (1, .int a1), (2, .int a2), (3, .int a3), (4, .int a4)]) C dX12_guard_68 (by decide) rfl ?_
        refine g_lv (lv' := [(0, .ref a0), (2, .int a2), (4, .int a4), (5, .int 4), (6, .int z91723)]) [2, 4, 6, 1, 0] rfl ?_
        exact J70 _ Y91700 4 z91723 (Nat.lt_succ_self _) Iy91702 Xz91709 W91704 (by omega) (by omega) (by decide) (by omega) (by omega) (fun b9 e9 => by rw [e91710] at e9; cases e9; omega)
      · have h91718 : r91715.toInt = 0 := congrArg Int32.toInt h91718
        refine g_iconst (v := (-1)) C dX12_guard_57 (by decide) ?_
        exact ret _ _ _ _ _ _ dX12_guard_58 rfl (by decide) (by decide) ⟨Iy91702, Xz91709, W91704, (by decide)⟩
    · have h91661 : r91657.toInt = 0 := congrArg Int32.toInt h91661
      clear hi91660
      refine g_lv (lv' := []) [] rfl ?_
      exact J25 Y91640 Iy91641 Xz91645 W91644 (by omega)
theorem dX12_hasAlike_0 : decode cX12_hasAlike 0 = .ok (.iconst 0, 1) := by decide +kernel
theorem dX12_hasAlike_1 : decode cX12_hasAlike 1 = .ok (.istore_n 3, 1) := by decide +kernel
theorem dX12_hasAlike_2 : decode cX12_hasAlike 2 = .ok (.iconst 0, 1) := by decide +kernel
theorem dX12_hasAlike_3 : decode cX12_hasAlike 3 = .ok (.istore 4, 2) := by decide +kernel
theorem dX12_hasAlike_5 : decode cX12_hasAlike 5 = .ok (.iload 4, 2) := by decide +kernel
theorem dX12_hasAlike_7 : decode cX12_hasAlike 7 = .ok (.aload_n 0, 1) := by decide +kernel
theorem dX12_hasAlike_8 : decode cX12_hasAlike 8 = .ok (.getfield 69, 3) := by decide +kernel
theorem dX12_hasAlike_11 : decode cX12_hasAlike 11 = .ok (.iload_n 1, 1) := by decide +kernel
theorem dX12_hasAlike_12 : decode cX12_hasAlike 12 = .ok (.iaload, 1) := by decide +kernel
theorem dX12_hasAlike_13 : decode cX12_hasAlike 13 = .ok (.if_icmp .ge 45, 3) := by decide +kernel
theorem dX12_hasAlike_16 : decode cX12_hasAlike 16 = .ok (.iload_n 3, 1) := by decide +kernel
theorem dX12_hasAlike_17 : decode cX12_hasAlike 17 = .ok (.ifCond .ne 29, 3) := by decide +kernel
theorem dX12_hasAlike_20 : decode cX12_hasAlike 20 = .ok (.bipush 40, 2) := by decide +kernel
theorem dX12_hasAlike_22 : decode cX12_hasAlike 22 = .ok (.iload_n 1, 1) := by decide +kernel
theorem dX12_hasAlike_23 : decode cX12_hasAlike 23 = .ok (.imul, 1) := by decide +kernel
theorem dX12_hasAlike_24 : decode cX12_hasAlike 24 = .ok (.iload 4, 2) := by decide +kernel
theorem dX12_hasAlike_26 : decode cX12_hasAlike 26 = .ok (.iadd, 1) := by decide +kernel
theorem dX12_hasAlike_27 : decode cX12_hasAlike 27 = .ok (.iload_n 2, 1) := by decide +kernel
theorem dX12_hasAlike_28 : decode cX12_hasAlike 28 = .ok (.if_icmp .eq 22, 3) := by decide +kernel
theorem dX12_hasAlike_31 : decode cX12_hasAlike 31 = .ok (.aload_n 0, 1) := by decide +kernel
theorem dX12_hasAlike_32 : decode cX12_hasAlike 32 = .ok (.bipush 40, 2) := by decide +kernel
theorem dX12_hasAlike_34 : decode cX12_hasAlike 34 = .ok (.iload_n 1, 1) := by decide +kernel
theorem dX12_hasAlike_35 : decode cX12_hasAlike 35 = .ok (.imul, 1) := by decide +kernel
theorem dX12_hasAlike_36 : decode cX12_hasAlike 36 = .ok (.iload 4, 2) := by decide +kernel
theorem dX12_hasAlike_38 : decode cX12_hasAlike 38 = .ok (.iadd, 1) := by decide +kernel
theorem dX12_hasAlike_39 : decode cX12_hasAlike 39 = .ok (.iload_n 2, 1) := by decide +kernel
theorem dX12_hasAlike_40 : decode cX12_hasAlike 40 = .ok (.invokevirtual 399, 3) := by decide +kernel
theorem dX12_hasAlike_58 : decode cX12_hasAlike 58 = .ok (.iload_n 3, 1) := by decide +kernel
theorem dX12_hasAlike_59 : decode cX12_hasAlike 59 = .ok (.ireturn, 1) := by decide +kernel
theorem dX12_isAlike_0 : decode cX12_isAlike 0 = .ok (.aload_n 0, 1) := by decide +kernel
theorem dX12_isAlike_1 : decode cX12_isAlike 1 = .ok (.getfield 72, 3) := by decide +kernel
theorem dX12_isAlike_4 : decode cX12_isAlike 4 = .ok (.iload_n 1, 1) := by decide +kernel
theorem dX12_isAlike_5 : decode cX12_isAlike 5 = .ok (.iaload, 1) := by decide +kernel
theorem dX12_isAlike_6 : decode cX12_isAlike 6 = .ok (.aload_n 0, 1) := by decide +kernel
theorem dX12_isAlike_7 : decode cX12_isAlike 7 = .ok (.getfield 72, 3) := by decide +kernel
theorem dX12_isAlike_10 : decode cX12_isAlike 10 = .ok (.iload_n 2, 1) := by decide +kernel
theorem dX12_isAlike_11 : decode cX12_isAlike 11 = .ok (.iaload, 1) := by decide +kernel
theorem dX12_isAlike_12 : decode cX12_isAlike 12 = .ok (.if_icmp .ne 67, 3) := by decide +kernel
theorem dX12_isAlike_15 : decode cX12_isAlike 15 = .ok (.aload_n 0, 1) := by decide +kernel
theorem dX12_isAlike_16 : decode cX12_isAlike 16 = .ok (.getfield 75, 3) := by decide +kernel
theorem dX12_isAlike_19 : decode cX12_isAlike 19 = .ok (.iload_n 1, 1) := by decide +kernel
theorem dX12_isAlike_20 : decode cX12_isAlike 20 = .ok (.iaload, 1) := by decide +kernel
theorem dX12_isAlike_21 : decode cX12_isAlike 21 = .ok (.aload_n 0, 1) := by decide +kernel
theorem dX12_isAlike_22 : decode cX12_isAlike 22 = .ok (.getfield 75, 3) := by decide +kernel
theorem dX12_isAlike_25 : decode cX12_isAlike 25 = .ok (.iload_n 2, 1) := by decide +kernel
theorem dX12_isAlike_26 : decode cX12_isAlike 26 = .ok (.iaload, 1) := by decide +kernel
theorem dX12_isAlike_27 : decode cX12_isAlike 27 = .ok (.if_icmp .ne 52, 3) := by decide +kernel
theorem dX12_isAlike_30 : decode cX12_isAlike 30 = .ok (.aload_n 0, 1) := by decide +kernel
theorem dX12_isAlike_31 : decode cX12_isAlike 31 = .ok (.getfield 78, 3) := by decide +kernel
theorem dX12_isAlike_34 : decode cX12_isAlike 34 = .ok (.iload_n 1, 1) := by decide +kernel
theorem dX12_isAlike_35 : decode cX12_isAlike 35 = .ok (.iaload, 1) := by decide +kernel
theorem dX12_isAlike_36 : decode cX12_isAlike 36 = .ok (.aload_n 0, 1) := by decide +kernel
theorem dX12_isAlike_37 : decode cX12_isAlike 37 = .ok (.getfield 78, 3) := by decide +kernel
theorem dX12_isAlike_40 : decode cX12_isAlike 40 = .ok (.iload_n 2, 1) := by decide +kernel
theorem dX12_isAlike_41 : decode cX12_isAlike 41 = .ok (.iaload, 1) := by decide +kernel
theorem dX12_isAlike_42 : decode cX12_isAlike 42 = .ok (.if_icmp .ne 37, 3) := by decide +kernel
theorem dX12_isAlike_45 : decode cX12_isAlike 45 = .ok (.aload_n 0, 1) := by decide +kernel
theorem dX12_isAlike_46 : decode cX12_isAlike 46 = .ok (.getfield 81, 3) := by decide +kernel
theorem dX12_isAlike_49 : decode cX12_isAlike 49 = .ok (.iload_n 1, 1) := by decide +kernel
theorem dX12_isAlike_50 : decode cX12_isAlike 50 = .ok (.iaload, 1) := by decide +kernel
theorem dX12_isAlike_51 : decode cX12_isAlike 51 = .ok (.aload_n 0, 1) := by decide +kernel
theorem dX12_isAlike_52 : decode cX12_isAlike 52 = .ok (.getfield 81, 3) := by decide +kernel
theorem dX12_isAlike_55 : decode cX12_isAlike 55 = .ok (.iload_n 2, 1) := by decide +kernel
theorem dX12_isAlike_56 : decode cX12_isAlike 56 = .ok (.iaload, 1) := by decide +kernel
theorem dX12_isAlike_57 : decode cX12_isAlike 57 = .ok (.if_icmp .ne 22, 3) := by decide +kernel
theorem dX12_isAlike_60 : decode cX12_isAlike 60 = .ok (.aload_n 0, 1) := by decide +kernel
theorem dX12_isAlike_61 : decode cX12_isAlike 61 = .ok (.getfield 84, 3) := by decide +kernel
theorem dX12_isAlike_64 : decode cX12_isAlike 64 = .ok (.iload_n 1, 1) := by decide +kernel
theorem dX12_isAlike_65 : decode cX12_isAlike 65 = .ok (.iaload, 1) := by decide +kernel
theorem dX12_isAlike_66 : decode cX12_isAlike 66 = .ok (.aload_n 0, 1) := by decide +kernel
theorem dX12_isAlike_67 : decode cX12_isAlike 67 = .ok (.getfield 84, 3) := by decide +kernel
theorem dX12_isAlike_70 : decode cX12_isAlike 70 = .ok (.iload_n 2, 1) := by decide +kernel
theorem dX12_isAlike_71 : decode cX12_isAlike 71 = .ok (.iaload, 1) := by decide +kernel
theorem dX12_isAlike_72 : decode cX12_isAlike 72 = .ok (.if_icmp .ne 7, 3) := by decide +kernel
theorem dX12_isAlike_75 : decode cX12_isAlike 75 = .ok (.iconst 1, 1) := by decide +kernel
theorem dX12_isAlike_76 : decode cX12_isAlike 76 = .ok (.goto 4, 3) := by decide +kernel
theorem dX12_isAlike_79 : decode cX12_isAlike 79 = .ok (.iconst 0, 1) := by decide +kernel
theorem dX12_isAlike_80 : decode cX12_isAlike 80 = .ok (.ireturn, 1) := by decide +kernel
set_option maxHeartbeats 4000000 in
set_option maxRecDepth 100000 in
theorem s_X12_isAlike {P : PP} {a0 : Nat} {a1 : Int32} {a2 : Int32} (I : IM P a0) (ha1 : 0 ≤ a1.toInt ∧ a1.toInt ≤ 799) (ha2 : 0 ≤ a2.toInt ∧ a2.toInt ≤ 799) (hW : MW P a0) : CtrI yX12_isAlike cX12_isAlike 3 (some Jvm.ClassFile.FieldType.boolean) ({ frames := 1, cells := 0, slots := 0, locals := 64 } : Room) 0 0 P [.ref a0, .int a1, .int a2] (fun r P2 => P = P2 ∧ (0 ≤ r.toInt ∧ r.toInt ≤ 1)) := by
  refine enI (lv := [(0, .ref a0), (1, .int a1), (2, .int a2)]) (by decide) (Nat.le_of_ble_eq_true rfl) rfl (fun E D cy C Ci0 ret => ?_)
  have ha0 := I.2.1
  have J79 : G E ({ frames := 1, cells := 0, slots := 0, locals := 64 } : Room) D cy 3 P 0 0 79 [] [] := by
    refine g_iconst (v := 0) C dX12_isAlike_79 (by decide) ?_
    exact ret _ _ _ _ _ _ dX12_isAlike_80 rfl (by decide) (by decide) ⟨rfl, (by decide)⟩
  refine g_aload_n C dX12_isAlike_0 rfl 0 rfl ?_
  obtain ⟨b91770, e91771, h91772⟩ := I.fld (ha0) 21 13 800 rfl
  refine g_getR C fi_X12_72 rfl e91771 (ha0).1 (ha0).2 dX12_isAlike_1 ?_
  refine g_iload_n C dX12_isAlike_4 rfl 1 rfl ?_
  refine g_iald (j := (a1.toInt.toNat)) C h91772.1 h91772.2.1 (ix_in h91772.2.2 (by omega)) dX12_isAlike_5 ?_
  refine g_aload_n C dX12_isAlike_6 rfl 0 rfl ?_
  refine g_getR C fi_X12_72 rfl e91771 (ha0).1 (ha0).2 dX12_isAlike_7 ?_
  refine g_iload_n C dX12_isAlike_10 rfl 2 rfl ?_
  refine g_iald (j := (a2.toInt.toNat)) C h91772.1 h91772.2.1 (ix_in h91772.2.2 (by omega)) dX12_isAlike_11 ?_
  have u91774 := ti_rng (pI P b91770 (a1.toInt.toNat))
  have u91775 := ti_rng (pI P b91770 (a2.toInt.toNat))
  refine b_icmp_ne C 79 dX12_isAlike_12 (by decide) (fun h91773 => ?_) (fun h91773 => ?_)
  · have h91773 : (pI P b91770 (a1.toInt.toNat)).toInt ≠ (pI P b91770 (a2.toInt.toNat)).toInt := ti_ne h91773
    refine g_lv (lv' := []) [] rfl ?_
    exact J79 
  · have h91773 : (pI P b91770 (a1.toInt.toNat)).toInt = (pI P b91770 (a2.toInt.toNat)).toInt := congrArg Int32.toInt h91773
    refine g_aload_n C dX12_isAlike_15 rfl 0 rfl ?_
    obtain ⟨b91776, e91777, h91778⟩ := I.fld (ha0) 22 13 800 rfl
    refine g_getR C fi_X12_75 rfl e91777 (ha0).1 (ha0).2 dX12_isAlike_16 ?_
    refine g_iload_n C dX12_isAlike_19 rfl 1 rfl ?_
    refine g_iald (j := (a1.toInt.toNat)) C h91778.1 h91778.2.1 (ix_in h91778.2.2 (by omega)) dX12_isAlike_20 ?_
    have h91779 := I.arr e91777 rfl (a1.toInt.toNat)
    refine g_aload_n C dX12_isAlike_21 rfl 0 rfl ?_
    refine g_getR C fi_X12_75 rfl e91777 (ha0).1 (ha0).2 dX12_isAlike_22 ?_
    refine g_iload_n C dX12_isAlike_25 rfl 2 rfl ?_
    refine g_iald (j := (a2.toInt.toNat)) C h91778.1 h91778.2.1 (ix_in h91778.2.2 (by omega)) dX12_isAlike_26 ?_
    have h91780 := I.arr e91777 rfl (a2.toInt.toNat)
    refine b_icmp_ne C 79 dX12_isAlike_27 (by decide) (fun h91781 => ?_) (fun h91781 => ?_)
    · have h91781 : (pI P b91776 (a1.toInt.toNat)).toInt ≠ (pI P b91776 (a2.toInt.toNat)).toInt := ti_ne h91781
      refine g_lv (lv' := []) [] rfl ?_
      exact J79 
    · have h91781 : (pI P b91776 (a1.toInt.toNat)).toInt = (pI P b91776 (a2.toInt.toNat)).toInt := congrArg Int32.toInt h91781
      refine g_aload_n C dX12_isAlike_30 rfl 0 rfl ?_
      obtain ⟨b91782, e91783, h91784⟩ := I.fld (ha0) 23 13 800 rfl
      refine g_getR C fi_X12_78 rfl e91783 (ha0).1 (ha0).2 dX12_isAlike_31 ?_
      refine g_iload_n C dX12_isAlike_34 rfl 1 rfl ?_
      refine g_iald (j := (a1.toInt.toNat)) C h91784.1 h91784.2.1 (ix_in h91784.2.2 (by omega)) dX12_isAlike_35 ?_
      refine g_aload_n C dX12_isAlike_36 rfl 0 rfl ?_
      refine g_getR C fi_X12_78 rfl e91783 (ha0).1 (ha0).2 dX12_isAlike_37 ?_
      refine g_iload_n C dX12_isAlike_40 rfl 2 rfl ?_
      refine g_iald (j := (a2.toInt.toNat)) C h91784.1 h91784.2.1 (ix_in h91784.2.2 (by omega)) dX12_isAlike_41 ?_
      have u91786 := ti_rng (pI P b91782 (a1.toInt.toNat))
      have u91787 := ti_rng (pI P b91782 (a2.toInt.toNat))
      refine b_icmp_ne C 79 dX12_isAlike_42 (by decide) (fun h91785 => ?_) (fun h91785 => ?_)
      · have h91785 : (pI P b91782 (a1.toInt.toNat)).toInt ≠ (pI P b91782 (a2.toInt.toNat)).toInt := ti_ne h91785
        refine g_lv (lv' := []) [] rfl ?_
        exact J79 
      · have h91785 : (pI P b91782 (a1.toInt.toNat)).toInt = (pI P b91782 (a2.toInt.toNat)).toInt := congrArg Int32.toInt h91785
        refine g_aload_n C dX12_isAlike_45 rfl 0 rfl ?_
        obtain ⟨b91788, e91789, h91790⟩ := I.fld (ha0) 24 13 800 rfl
        refine g_getR C fi_X12_81 rfl e91789 (ha0).1 (ha0).2 dX12_isAlike_46 ?_
        refine g_iload_n C dX12_isAlike_49 rfl 1 rfl ?_
        refine g_iald (j := (a1.toInt.toNat)) C h91790.1 h91790.2.1 (ix_in h91790.2.2 (by omega)) dX12_isAlike_50 ?_
        refine g_aload_n C dX12_isAlike_51 rfl 0 rfl ?_
        refine g_getR C fi_X12_81 rfl e91789 (ha0).1 (ha0).2 dX12_isAlike_52 ?_
        refine g_iload_n C dX12_isAlike_55 rfl 2 rfl ?_
        refine g_iald (j := (a2.toInt.toNat)) C h91790.1 h91790.2.1 (ix_in h91790.2.2 (by omega)) dX12_isAlike_56 ?_
        have u91792 := ti_rng (pI P b91788 (a1.toInt.toNat))
        have u91793 := ti_rng (pI P b91788 (a2.toInt.toNat))
        refine b_icmp_ne C 79 dX12_isAlike_57 (by decide) (fun h91791 => ?_) (fun h91791 => ?_)
        · have h91791 : (pI P b91788 (a1.toInt.toNat)).toInt ≠ (pI P b91788 (a2.toInt.toNat)).toInt := ti_ne h91791
          refine g_lv (lv' := []) [] rfl ?_
          exact J79 
        · have h91791 : (pI P b91788 (a1.toInt.toNat)).toInt = (pI P b91788 (a2.toInt.toNat)).toInt := congrArg Int32.toInt h91791
          refine g_aload_n C dX12_isAlike_60 rfl 0 rfl ?_
          obtain ⟨b91794, e91795, h91796⟩ := I.fld (ha0) 25 13 800 rfl
          refine g_getR C fi_X12_84 rfl e91795 (ha0).1 (ha0).2 dX12_isAlike_61 ?_
          refine g_iload_n C dX12_isAlike_64 rfl 1 rfl ?_
          refine g_iald (j := (a1.toInt.toNat)) C h91796.1 h91796.2.1 (ix_in h91796.2.2 (by omega)) dX12_isAlike_65 ?_
          refine g_aload_n C dX12_isAlike_66 rfl 0 rfl ?_
          refine g_getR C fi_X12_84 rfl e91795 (ha0).1 (ha0).2 dX12_isAlike_67 ?_
          refine g_iload_n C dX12_isAlike_70 rfl 2 rfl ?_
          refine g_iald (j := (a2.toInt.toNat)) C h91796.1 h91796.2.1 (ix_in h91796.2.2 (by omega)) dX12_isAlike_71 ?_
          have u91798 := ti_rng (pI P b91794 (a1.toInt.toNat))
          have u91799 := ti_rng (pI P b91794 (a2.toInt.toNat))
          refine b_icmp_ne C 79 dX12_isAlike_72 (by decide) (fun h91797 => ?_) (fun h91797 => ?_)
          · have h91797 : (pI P b91794 (a1.toInt.toNat)).toInt ≠ (pI P b91794 (a2.toInt.toNat)).toInt := ti_ne h91797
            refine g_lv (lv' := []) [] rfl ?_
            exact J79 
          · have h91797 : (pI P b91794 (a1.toInt.toNat)).toInt = (pI P b91794 (a2.toInt.toNat)).toInt := congrArg Int32.toInt h91797
            refine g_iconst (v := 1) C dX12_isAlike_75 (by decide) ?_
            refine g_goto C 80 dX12_isAlike_76 (by decide) ?_
            exact ret _ _ _ _ _ _ dX12_isAlike_80 rfl (by decide) (by decide) ⟨rfl, (by decide)⟩
theorem dX12_hasAlike_43 : decode cX12_hasAlike 43 = .ok (.ifCond .eq 7, 3) := by decide +kernel
theorem dX12_hasAlike_46 : decode cX12_hasAlike 46 = .ok (.iconst 1, 1) := by decide +kernel
theorem dX12_hasAlike_47 : decode cX12_hasAlike 47 = .ok (.goto 4, 3) := by decide +kernel
theorem dX12_hasAlike_50 : decode cX12_hasAlike 50 = .ok (.iconst 0, 1) := by decide +kernel
theorem dX12_hasAlike_51 : decode cX12_hasAlike 51 = .ok (.istore_n 3, 1) := by decide +kernel
theorem dX12_hasAlike_52 : decode cX12_hasAlike 52 = .ok (.iinc 4 1, 3) := by decide +kernel
theorem dX12_hasAlike_55 : decode cX12_hasAlike 55 = .ok (.goto (-50), 3) := by decide +kernel
set_option maxHeartbeats 4000000 in
set_option maxRecDepth 100000 in
theorem s_X12_hasAlike {P : PP} {a0 : Nat} {a1 : Int32} {a2 : Int32} (I : IM P a0) (ha1 : 0 ≤ a1.toInt ∧ a1.toInt ≤ 3) (ha2 : 0 ≤ a2.toInt ∧ a2.toInt ≤ 799) (hW : MW P a0) : CtrI yX12_hasAlike cX12_hasAlike 5 (some Jvm.ClassFile.FieldType.boolean) ({ frames := 2, cells := 0, slots := 0, locals := 128 } : Room) 0 0 P [.ref a0, .int a1, .int a2] (fun r P2 => P = P2 ∧ (0 ≤ r.toInt ∧ r.toInt ≤ 1)) := by
  refine enI (lv := [(0, .ref a0), (1, .int a1), (2, .int a2)]) (by decide) (Nat.le_of_ble_eq_true rfl) rfl (fun E D cy C Ci0 ret => ?_)
  have ha0 := I.2.1
  have J5 : ∀ (n5 : Nat) (v5_3 : Int32) (v5_4 : Int32), (40 - v5_4.toInt).toNat < n5 → (0 ≤ v5_3.toInt ∧ v5_3.toInt ≤ 1) → (0 ≤ v5_4.toInt ∧ v5_4.toInt ≤ 40) → G E ({ frames := 2, cells := 0, slots := 0, locals := 128 } : Room) D cy 5 P 0 0 5 [(0, .ref a0), (1, .int a1), (2, .int a2), (3, .int v5_3), (4, .int v5_4)] [] := by
    intro n5
    induction n5 with
    | zero => intro v5_3 v5_4 hm5 hv5_3 hv5_4; omega
    | succ n5 ih5 =>
      intro v5_3 v5_4 hm5 hv5_3 hv5_4
      have J51 : ∀ (v51_s0 : Int32), (0 ≤ v5_4.toInt ∧ v5_4.toInt ≤ 39) → (0 ≤ v51_s0.toInt ∧ v51_s0.toInt ≤ 1) → (∀ b, pR P a0 20 = some b → 1 ≤ (pI P b (a1.toInt.toNat)).toInt ∧ (pI P b (a1.toInt.toNat)).toInt ≤ 40) → G E ({ frames := 2, cells := 0, slots := 0, locals := 128 } : Room) D cy 5 P 0 0 51 [(0, .ref a0), (1, .int a1), (2, .int a2), (4, .int v5_4)] [.int v51_s0] := by
        intro v51_s0 hv51_4 hv51_s0 hq51_0
        obtain ⟨b92250, e92251, h92252⟩ := I.fld (ha0) 20 13 20 rfl
        have hq51_0 := hq51_0 b92250 e92251
        refine g_istore_n (lv' := [(3, .int v51_s0), (0, .ref a0), (1, .int a1), (2, .int a2), (4, .int v5_4)]) C dX12_hasAlike_51 rfl (by decide) rfl ?_
        refine s_iinc (lv0 := [(3, .int v51_s0), (0, .ref a0), (1, .int a1), (2, .int a2)]) (m := 1) C dX12_hasAlike_52 4 rfl (by decide) rfl (by decide) (by omega) (fun z92253 h92254 => ?_)
        have h92254 : z92253.toInt = v5_4.toInt + 1 := h92254
        refine g_goto C 5 dX12_hasAlike_55 (by decide) ?_
        refine g_lv (lv' := [(0, .ref a0), (1, .int a1), (2, .int a2), (3, .int v51_s0), (4, .int z92253)]) [2, 3, 4, 1, 0] rfl ?_
        exact ih5 v51_s0 z92253 (by omega) (by omega) (by omega)
      have J50 : (0 ≤ v5_4.toInt ∧ v5_4.toInt ≤ 39) → (∀ b, pR P a0 20 = some b → 1 ≤ (pI P b (a1.toInt.toNat)).toInt ∧ (pI P b (a1.toInt.toNat)).toInt ≤ 40) → G E ({ frames := 2, cells := 0, slots := 0, locals := 128 } : Room) D cy 5 P 0 0 50 [(0, .ref a0), (1, .int a1), (2, .int a2), (4, .int v5_4)] [] := by
        intro hv50_4 hq50_0
        obtain ⟨b92255, e92256, h92257⟩ := I.fld (ha0) 20 13 20 rfl
        have hq50_0 := hq50_0 b92255 e92256
        refine g_iconst (v := 0) C dX12_hasAlike_50 (by decide) ?_
        exact J51 0 (by omega) (by decide) (fun b9 e9 => by rw [e92256] at e9; cases e9; omega)
      have J46 : (0 ≤ v5_4.toInt ∧ v5_4.toInt ≤ 39) → (∀ b, pR P a0 20 = some b → 1 ≤ (pI P b (a1.toInt.toNat)).toInt ∧ (pI P b (a1.toInt.toNat)).toInt ≤ 40) → G E ({ frames := 2, cells := 0, slots := 0, locals := 128 } : Room) D cy 5 P 0 0 46 [(0, .ref a0), (1, .int a1), (2, .int a2), (4, .int v5_4)] [] := by
        intro hv46_4 hq46_0
        obtain ⟨b92258, e92259, h92260⟩ := I.fld (ha0) 20 13 20 rfl
        have hq46_0 := hq46_0 b92258 e92259
        refine g_iconst (v := 1) C dX12_hasAlike_46 (by decide) ?_
        refine g_goto C 51 dX12_hasAlike_47 (by decide) ?_
        exact J51 1 (by omega) (by decide) (fun b9 e9 => by rw [e92259] at e9; cases e9; omega)
      refine g_iload C dX12_hasAlike_5 4 rfl ?_
      refine g_aload_n C dX12_hasAlike_7 rfl 0 rfl ?_
      obtain ⟨b92261, e92262, h92263⟩ := I.fld (ha0) 20 13 20 rfl
      refine g_getR C fi_X12_69 rfl e92262 (ha0).1 (ha0).2 dX12_hasAlike_8 ?_
      refine g_iload_n C dX12_hasAlike_11 rfl 1 rfl ?_
      refine g_iald (j := (a1.toInt.toNat)) C h92263.1 h92263.2.1 (ix_in h92263.2.2 (by omega)) dX12_hasAlike_12 ?_
      have h92264 := I.arr e92262 rfl (a1.toInt.toNat)
      refine b_icmp_ge C 58 dX12_hasAlike_13 (by decide) (fun h92265 => ?_) (fun h92265 => ?_)
      · have h92265 : (pI P b92261 (a1.toInt.toNat)).toInt ≤ v5_4.toInt := h92265
        refine g_iload_n C dX12_hasAlike_58 rfl 3 rfl ?_
        exact ret _ _ _ _ _ _ dX12_hasAlike_59 (nar_b (b01 (by omega))) (by decide) (by decide) ⟨rfl, (by omega)⟩
      · have h92265 : v5_4.toInt < (pI P b92261 (a1.toInt.toNat)).toInt := h92265
        refine g_iload_n C dX12_hasAlike_16 rfl 3 rfl ?_
        refine b_if_ne C 46 dX12_hasAlike_17 (by decide) (fun h92266 => ?_) (fun h92266 => ?_)
        · have h92266 : v5_3.toInt ≠ 0 := ti_ne h92266
          refine g_lv (lv' := [(0, .ref a0), (1, .int a1), (2, .int a2), (4, .int v5_4)]) [0, 1, 2, 4] rfl ?_
          exact J46 (by omega) (fun b9 e9 => by rw [e92262] at e9; cases e9; omega)
        · have h92266 : v5_3.toInt = 0 := congrArg Int32.toInt h92266
          refine g_bipush (v := 40) C dX12_hasAlike_20 (by decide) ?_
          refine g_iload_n C dX12_hasAlike_22 rfl 1 rfl ?_
          refine s_imul C dX12_hasAlike_23 (by show -2147483648 ≤ 40 * a1.toInt ∧ 40 * a1.toInt ≤ 2147483647; omega) (fun z92267 h92268 => ?_)
          have h92268 : z92267.toInt = 40 * a1.toInt := h92268
          refine g_iload C dX12_hasAlike_24 4 rfl ?_
          refine s_iadd C dX12_hasAlike_26 (by show -2147483648 ≤ z92267.toInt + v5_4.toInt ∧ z92267.toInt + v5_4.toInt ≤ 2147483647; omega) (fun z92269 h92270 => ?_)
          have h92270 : z92269.toInt = z92267.toInt + v5_4.toInt := h92270
          refine g_iload_n C dX12_hasAlike_27 rfl 2 rfl ?_
          refine b_icmp_eq C 50 dX12_hasAlike_28 (by decide) (fun h92271 => ?_) (fun h92271 => ?_)
          · have h92271 : z92269.toInt = a2.toInt := congrArg Int32.toInt h92271
            refine g_lv (lv' := [(0, .ref a0), (1, .int a1), (2, .int a2), (4, .int v5_4)]) [0, 1, 2, 4] rfl ?_
            exact J50 (by omega) (fun b9 e9 => by rw [e92262] at e9; cases e9; omega)
          · have h92271 : z92269.toInt ≠ a2.toInt := ti_ne h92271
            refine g_aload_n C dX12_hasAlike_31 rfl 0 rfl ?_
            refine g_bipush (v := 40) C dX12_hasAlike_32 (by decide) ?_
            refine g_iload_n C dX12_hasAlike_34 rfl 1 rfl ?_
            refine s_imul C dX12_hasAlike_35 (by show -2147483648 ≤ 40 * a1.toInt ∧ 40 * a1.toInt ≤ 2147483647; omega) (fun z92272 h92273 => ?_)
            have h92273 : z92272.toInt = 40 * a1.toInt := h92273
            refine g_iload C dX12_hasAlike_36 4 rfl ?_
            refine s_iadd C dX12_hasAlike_38 (by show -2147483648 ≤ z92272.toInt + v5_4.toInt ∧ z92272.toInt + v5_4.toInt ≤ 2147483647; omega) (fun z92274 h92275 => ?_)
            have h92275 : z92274.toInt = z92272.toInt + v5_4.toInt := h92275
            refine g_iload_n C dX12_hasAlike_39 rfl 2 rfl ?_
            refine g_callVI (rest := []) C mv_X12_399 [.int z92274, .int a2] (s_X12_isAlike I (by omega) (by omega) hW) (ha0).1 (ha0).2 rfl rfl (by decide) (Nat.le_of_ble_eq_true rfl) (by decide) dX12_hasAlike_40 (fun r92276 Y92277 h92278 => ?_)
            obtain ⟨rfl, h92278⟩ := h92278
            have h92278 : 0 ≤ r92276.toInt ∧ r92276.toInt ≤ 1 := h92278
            refine b_if_eq C 50 dX12_hasAlike_43 (by decide) (fun h92279 => ?_) (fun h92279 => ?_)
            · have h92279 : r92276.toInt = 0 := congrArg Int32.toInt h92279
              refine g_lv (lv' := [(0, .ref a0), (1, .int a1), (2, .int a2), (4, .int v5_4)]) [0, 1, 2, 4] rfl ?_
              exact J50 (by omega) (fun b9 e9 => by rw [e92262] at e9; cases e9; omega)
            · have h92279 : r92276.toInt ≠ 0 := ti_ne h92279
              refine g_lv (lv' := [(0, .ref a0), (1, .int a1), (2, .int a2), (4, .int v5_4)]) [0, 1, 2, 4] rfl ?_
              exact J46 (by omega) (fun b9 e9 => by rw [e92262] at e9; cases e9; omega)
  refine g_iconst (v := 0) C dX12_hasAlike_0 (by decide) ?_
  refine g_istore_n (lv' := [(3, .int 0), (0, .ref a0), (1, .int a1), (2, .int a2)]) C dX12_hasAlike_1 rfl (by decide) rfl ?_
  refine g_iconst (v := 0) C dX12_hasAlike_2 (by decide) ?_
  refine g_istore (lv' := [(4, .int 0), (3, .int 0), (0, .ref a0), (1, .int a1), (2, .int a2)]) C dX12_hasAlike_3 (by decide) rfl ?_
  refine g_lv (lv' := [(0, .ref a0), (1, .int a1), (2, .int a2), (3, .int 0), (4, .int 0)]) [2, 3, 4, 1, 0] rfl ?_
  exact J5 _ 0 0 (Nat.lt_succ_self _) (by decide) (by decide)
theorem dX12_init_0 : decode cX12_init 0 = .ok (.aload_n 0, 1) := by decide +kernel
theorem dX12_init_1 : decode cX12_init 1 = .ok (.invokespecial 18, 3) := by decide +kernel
theorem dX12_init_4 : decode cX12_init 4 = .ok (.aload_n 0, 1) := by decide +kernel
theorem dX12_init_5 : decode cX12_init 5 = .ok (.sipush 1000, 3) := by decide +kernel
theorem dX12_init_8 : decode cX12_init 8 = .ok (.newarray .int, 2) := by decide +kernel
theorem dX12_isAllWith_0 : decode cX12_isAllWith 0 = .ok (.iconst 0, 1) := by decide +kernel
theorem dX12_isAllWith_1 : decode cX12_isAllWith 1 = .ok (.istore 4, 2) := by decide +kernel
theorem dX12_isAllWith_3 : decode cX12_isAllWith 3 = .ok (.iload 4, 2) := by decide +kernel
theorem dX12_isAllWith_5 : decode cX12_isAllWith 5 = .ok (.iconst 2, 1) := by decide +kernel
theorem dX12_isAllWith_6 : decode cX12_isAllWith 6 = .ok (.if_icmp .ge 95, 3) := by decide +kernel
theorem dX12_isAllWith_9 : decode cX12_isAllWith 9 = .ok (.aload_n 0, 1) := by decide +kernel
theorem dX12_isAllWith_10 : decode cX12_isAllWith 10 = .ok (.iload_n 1, 1) := by decide +kernel
theorem dX12_isAllWith_11 : decode cX12_isAllWith 11 = .ok (.iload_n 2, 1) := by decide +kernel
theorem dX12_isAllWith_12 : decode cX12_isAllWith 12 = .ok (.iload 4, 2) := by decide +kernel
theorem dX12_isAllWith_14 : decode cX12_isAllWith 14 = .ok (.aload_n 0, 1) := by decide +kernel
theorem dX12_isAllWith_15 : decode cX12_isAllWith 15 = .ok (.getfield 69, 3) := by decide +kernel
theorem dX12_isAllWith_18 : decode cX12_isAllWith 18 = .ok (.iload_n 1, 1) := by decide +kernel
theorem dX12_isAllWith_19 : decode cX12_isAllWith 19 = .ok (.iaload, 1) := by decide +kernel
theorem dX12_isAllWith_20 : decode cX12_isAllWith 20 = .ok (.invokevirtual 339, 3) := by decide +kernel
theorem dX12_isAllWith_23 : decode cX12_isAllWith 23 = .ok (.iconst 0, 1) := by decide +kernel
theorem dX12_isAllWith_24 : decode cX12_isAllWith 24 = .ok (.istore 5, 2) := by decide +kernel
theorem dX12_isAllWith_26 : decode cX12_isAllWith 26 = .ok (.iload 5, 2) := by decide +kernel
theorem dX12_isAllWith_28 : decode cX12_isAllWith 28 = .ok (.bipush 11, 2) := by decide +kernel
theorem dX12_isAllWith_30 : decode cX12_isAllWith 30 = .ok (.if_icmp .ge 47, 3) := by decide +kernel
theorem dX12_isAllWith_33 : decode cX12_isAllWith 33 = .ok (.iload_n 3, 1) := by decide +kernel
theorem dX12_isAllWith_34 : decode cX12_isAllWith 34 = .ok (.iload 5, 2) := by decide +kernel
theorem dX12_isAllWith_36 : decode cX12_isAllWith 36 = .ok (.ishr, 1) := by decide +kernel
theorem dX12_isAllWith_37 : decode cX12_isAllWith 37 = .ok (.iconst 1, 1) := by decide +kernel
theorem dX12_isAllWith_38 : decode cX12_isAllWith 38 = .ok (.iand, 1) := by decide +kernel
theorem dX12_isAllWith_39 : decode cX12_isAllWith 39 = .ok (.iconst 1, 1) := by decide +kernel
theorem dX12_isAllWith_40 : decode cX12_isAllWith 40 = .ok (.if_icmp .ne 31, 3) := by decide +kernel
theorem dX12_isAllWith_43 : decode cX12_isAllWith 43 = .ok (.aload_n 0, 1) := by decide +kernel
theorem dX12_isAllWith_44 : decode cX12_isAllWith 44 = .ok (.iload_n 2, 1) := by decide +kernel
theorem dX12_isAllWith_45 : decode cX12_isAllWith 45 = .ok (.iload 5, 2) := by decide +kernel
theorem dX12_isAllWith_47 : decode cX12_isAllWith 47 = .ok (.invokevirtual 261, 3) := by decide +kernel
theorem dX12_isAllWith_50 : decode cX12_isAllWith 50 = .ok (.istore 6, 2) := by decide +kernel
theorem dX12_isAllWith_52 : decode cX12_isAllWith 52 = .ok (.aload_n 0, 1) := by decide +kernel
theorem dX12_isAllWith_53 : decode cX12_isAllWith 53 = .ok (.iload 6, 2) := by decide +kernel
theorem dX12_isAllWith_55 : decode cX12_isAllWith 55 = .ok (.aload_n 0, 1) := by decide +kernel
theorem dX12_isAllWith_56 : decode cX12_isAllWith 56 = .ok (.iload_n 2, 1) := by decide +kernel
theorem dX12_isAllWith_57 : decode cX12_isAllWith 57 = .ok (.iload 6, 2) := by decide +kernel
theorem dX12_isAllWith_59 : decode cX12_isAllWith 59 = .ok (.invokevirtual 223, 3) := by decide +kernel
theorem dX12_isAllWith_62 : decode cX12_isAllWith 62 = .ok (.iload 4, 2) := by decide +kernel
theorem dX12_isAllWith_64 : decode cX12_isAllWith 64 = .ok (.invokestatic 315, 3) := by decide +kernel
theorem dX12_isAllWith_67 : decode cX12_isAllWith 67 = .ok (.iconst (-1), 1) := by decide +kernel
theorem dX12_isAllWith_68 : decode cX12_isAllWith 68 = .ok (.invokevirtual 308, 3) := by decide +kernel
theorem dX12_isAllWith_71 : decode cX12_isAllWith 71 = .ok (.iinc 5 1, 3) := by decide +kernel
theorem dX12_isAllWith_74 : decode cX12_isAllWith 74 = .ok (.goto (-48), 3) := by decide +kernel
theorem dX12_isAllWith_77 : decode cX12_isAllWith 77 = .ok (.aload_n 0, 1) := by decide +kernel
theorem dX12_isAllWith_78 : decode cX12_isAllWith 78 = .ok (.invokevirtual 346, 3) := by decide +kernel
theorem dX12_isAllWith_81 : decode cX12_isAllWith 81 = .ok (.aload_n 0, 1) := by decide +kernel
theorem dX12_isAllWith_82 : decode cX12_isAllWith 82 = .ok (.iload_n 2, 1) := by decide +kernel
theorem dX12_isAllWith_83 : decode cX12_isAllWith 83 = .ok (.aload_n 0, 1) := by decide +kernel
theorem dX12_isAllWith_84 : decode cX12_isAllWith 84 = .ok (.invokevirtual 349, 3) := by decide +kernel
theorem dX12_isAllWith_87 : decode cX12_isAllWith 87 = .ok (.invokevirtual 371, 3) := by decide +kernel
theorem dX12_isAllWith_90 : decode cX12_isAllWith 90 = .ok (.ifCond .ne 5, 3) := by decide +kernel
theorem dX12_isAllWith_93 : decode cX12_isAllWith 93 = .ok (.iconst 0, 1) := by decide +kernel
theorem dX12_isAllWith_94 : decode cX12_isAllWith 94 = .ok (.ireturn, 1) := by decide +kernel
theorem dX12_isAllWith_95 : decode cX12_isAllWith 95 = .ok (.iinc 4 1, 3) := by decide +kernel
theorem dX12_isAllWith_98 : decode cX12_isAllWith 98 = .ok (.goto (-95), 3) := by decide +kernel
theorem dX12_isAllWith_101 : decode cX12_isAllWith 101 = .ok (.iconst 1, 1) := by decide +kernel
theorem dX12_isAllWith_102 : decode cX12_isAllWith 102 = .ok (.ireturn, 1) := by decide +kernel
set_option maxHeartbeats 4000000 in
set_option maxRecDepth 100000 in
theorem s_X12_isAllWith {P : PP} {a0 : Nat} {a1 : Int32} {a2 : Int32} {a3 : Int32} (I : IM P a0) (ha1 : 0 ≤ a1.toInt ∧ a1.toInt ≤ 3) (ha2 : 0 ≤ a2.toInt ∧ a2.toInt ≤ 1) (hf0 : ∀ b, pR P a0 10 = some b → 1 ≤ (pI P b (a2.toInt.toNat)).toInt ∧ (pI P b (a2.toInt.toNat)).toInt ≤ 16) (hW : MW P a0) : CtrI yX12_isAllWith cX12_isAllWith 7 (some Jvm.ClassFile.FieldType.boolean) ({ frames := 5, cells := 0, slots := 0, locals := 320 } : Room) 0 0 P [.ref a0, .int a1, .int a2, .int a3] (fun r P2 => IM P2 a0 ∧ EM [28, 29, 30, 31, 35, 36, 37, 38] a0 P P2 ∧ MW P2 a0 ∧ (0 ≤ r.toInt ∧ r.toInt ≤ 1)) := by
  refine enI (lv := [(0, .ref a0), (1, .int a1), (2, .int a2), (3, .int a3)]) (by decide) (Nat.le_of_ble_eq_true rfl) rfl (fun E D cy C Ci0 ret => ?_)
  have ha0 := I.2.1
  have J3 : ∀ (n3 : Nat) (P3 : PP) (v3_4 : Int32), (2 - v3_4.toInt).toNat < n3 → (IM P3 a0) → (EM [28, 29, 30, 31, 35, 36, 37, 38] a0 P P3) → (MW P3 a0) → (0 ≤ v3_4.toInt ∧ v3_4.toInt ≤ 2) → (∀ b, pR P3 a0 10 = some b → 1 ≤ (pI P3 b (a2.toInt.toNat)).toInt ∧ (pI P3 b (a2.toInt.toNat)).toInt ≤ 16) → G E ({ frames := 5, cells := 0, slots := 0, locals := 320 } : Room) D cy 7 P3 0 0 3 [(0, .ref a0), (1, .int a1), (2, .int a2), (3, .int a3), (4, .int v3_4)] [] := by
    intro n3
    induction n3 with
    | zero => intro P3 v3_4 hm3 I3 X3 W3 hv3_4 hq3_0; omega
    | succ n3 ih3 =>
      intro P3 v3_4 hm3 I3 X3 W3 hv3_4 hq3_0
      have h92888 := X3.at ha0
      obtain ⟨b92889, e92890, h92891⟩ := I3.fld (h92888) 10 13 2 rfl
      have hq3_0 := hq3_0 b92889 e92890
      have J26 : ∀ (n26 : Nat) (P26 : PP) (v26_5 : Int32), (11 - v26_5.toInt).toNat < n26 → (IM P26 a0) → (EM [28, 29, 30, 31, 35, 36, 37, 38] a0 P P26) → (MW P26 a0) → (0 ≤ v3_4.toInt ∧ v3_4.toInt ≤ 1) → (0 ≤ v26_5.toInt ∧ v26_5.toInt ≤ 11) → (∀ b, pR P26 a0 10 = some b → 1 ≤ (pI P26 b (a2.toInt.toNat)).toInt ∧ (pI P26 b (a2.toInt.toNat)).toInt ≤ 16) → ((pI P26 a0 28).toInt ≤ 44 + v26_5.toInt) → G E ({ frames := 5, cells := 0, slots := 0, locals := 320 } : Room) D cy 7 P26 0 0 26 [(0, .ref a0), (1, .int a1), (2, .int a2), (3, .int a3), (4, .int v3_4), (5, .int v26_5)] [] := by
        intro n26
        induction n26 with
        | zero => intro P26 v26_5 hm26 I26 X26 W26 hv26_4 hv26_5 hq26_0 rel26_0; omega
        | succ n26 ih26 =>
          intro P26 v26_5 hm26 I26 X26 W26 hv26_4 hv26_5 hq26_0 rel26_0
          have h92892 := X26.at ha0
          obtain ⟨b92893, e92894, h92895⟩ := I26.fld (h92892) 10 13 2 rfl
          have hq26_0 := hq26_0 b92893 e92894
          have h92896 := I26.rg h92892 28 rfl
          have J71 : ∀ (P71 : PP), (IM P71 a0) → (EM [28, 29, 30, 31, 35, 36, 37, 38] a0 P P71) → (MW P71 a0) → (0 ≤ v3_4.toInt ∧ v3_4.toInt ≤ 1) → (0 ≤ v26_5.toInt ∧ v26_5.toInt ≤ 10) → (∀ b, pR P71 a0 10 = some b → 1 ≤ (pI P71 b (a2.toInt.toNat)).toInt ∧ (pI P71 b (a2.toInt.toNat)).toInt ≤ 16) → ((pI P71 a0 28).toInt ≤ 45 + v26_5.toInt) → G E ({ frames := 5, cells := 0, slots := 0, locals := 320 } : Room) D cy 7 P71 0 0 71 [(0, .ref a0), (1, .int a1), (2, .int a2), (3, .int a3), (4, .int v3_4), (5, .int v26_5)] [] := by
            intro P71 I71 X71 W71 hv71_4 hv71_5 hq71_0 rel71_0
            have h92897 := X71.at ha0
            obtain ⟨b92898, e92899, h92900⟩ := I71.fld (h92897) 10 13 2 rfl
            have hq71_0 := hq71_0 b92898 e92899
            have h92901 := I71.rg h92897 28 rfl
            refine s_iinc (lv0 := [(0, .ref a0), (1, .int a1), (2, .int a2), (3, .int a3), (4, .int v3_4)]) (m := 1) C dX12_isAllWith_71 5 rfl (by decide) rfl (by decide) (by omega) (fun z92902 h92903 => ?_)
            have h92903 : z92902.toInt = v26_5.toInt + 1 := h92903
            refine g_goto C 26 dX12_isAllWith_74 (by decide) ?_
            refine g_lv (lv' := [(0, .ref a0), (1, .int a1), (2, .int a2), (3, .int a3), (4, .int v3_4), (5, .int z92902)]) [1, 2, 3, 4, 5, 0] rfl ?_
            exact ih26 P71 z92902 (by omega) I71 X71 W71 (by omega) (by omega) (fun b9 e9 => by rw [e92899] at e9; cases e9; omega) (by show (pI P71 a0 28).toInt ≤ 44 + z92902.toInt; omega)
          refine g_iload C dX12_isAllWith_26 5 rfl ?_
          refine g_bipush (v := 11) C dX12_isAllWith_28 (by decide) ?_
          refine b_icmp_ge C 77 dX12_isAllWith_30 (by decide) (fun h92904 => ?_) (fun h92904 => ?_)
          · have h92904 : 11 ≤ v26_5.toInt := h92904
            refine g_aload_n C dX12_isAllWith_77 rfl 0 rfl ?_
            refine g_callVV (rest := []) C mv_X12_346 [] (s_X12_findSolved I26 W26) (h92892).1 (h92892).2 rfl rfl (by decide) (Nat.le_of_ble_eq_true rfl) (by decide) dX12_isAllWith_78 (fun Y92906 h92907 => ?_)
            obtain ⟨Iy92908, Xy92909, W92910⟩ := h92907
            have q92911 := Xy92909.keepA e92894 (by decide) rfl (a2.toInt.toNat)
            have q92912 := Xy92909.keepF 28 (by decide)
            have Xz92913 : EM [28, 29, 30, 31, 35, 36, 37, 38] a0 P Y92906 := EM.tr ha0 X26 (Xy92909.mono (by decide))
            have e92914 := Xy92909.ref h92892 (by decide) e92894
            have h92915 := Xy92909.at h92892
            have h92916 := Xy92909.ar h92895
            refine g_aload_n C dX12_isAllWith_81 rfl 0 rfl ?_
            refine g_iload_n C dX12_isAllWith_82 rfl 2 rfl ?_
            refine g_aload_n C dX12_isAllWith_83 rfl 0 rfl ?_
            refine g_callVI (rest := [.int a2, .ref a0]) C mv_X12_349 [] (s_X12_fixedSet Iy92908 W92910) (h92915).1 (h92915).2 rfl rfl (by decide) (Nat.le_of_ble_eq_true rfl) (by decide) dX12_isAllWith_84 (fun r92917 Y92918 h92919 => ?_)
            obtain ⟨rfl, h92919⟩ := h92919
            have h92919 : True := h92919
            refine g_callVI (rest := []) C mv_X12_371 [.int a2, .int r92917] (s_X12_givesAll Iy92908 (by omega) W92910) (h92915).1 (h92915).2 rfl rfl (by decide) (Nat.le_of_ble_eq_true rfl) (by decide) dX12_isAllWith_87 (fun r92920 Y92921 h92922 => ?_)
            obtain ⟨rfl, h92922⟩ := h92922
            have h92922 : 0 ≤ r92920.toInt ∧ r92920.toInt ≤ 1 := h92922
            refine b_if_ne C 95 dX12_isAllWith_90 (by decide) (fun h92923 => ?_) (fun h92923 => ?_)
            · have h92923 : r92920.toInt ≠ 0 := ti_ne h92923
              refine s_iinc (lv0 := [(0, .ref a0), (1, .int a1), (2, .int a2), (3, .int a3), (5, .int v26_5)]) (m := 1) C dX12_isAllWith_95 4 rfl (by decide) rfl (by decide) (by omega) (fun z92924 h92925 => ?_)
              have h92925 : z92924.toInt = v3_4.toInt + 1 := h92925
              refine g_goto C 3 dX12_isAllWith_98 (by decide) ?_
              refine g_lv (lv' := [(0, .ref a0), (1, .int a1), (2, .int a2), (3, .int a3), (4, .int z92924)]) [1, 2, 3, 4, 0] rfl ?_
              exact ih3 Y92906 z92924 (by omega) Iy92908 Xz92913 W92910 (by omega) (fun b9 e9 => by rw [e92914] at e9; cases e9; omega)
            · have h92923 : r92920.toInt = 0 := congrArg Int32.toInt h92923
              refine g_iconst (v := 0) C dX12_isAllWith_93 (by decide) ?_
              exact ret _ _ _ _ _ _ dX12_isAllWith_94 rfl (by decide) (by decide) ⟨Iy92908, Xz92913, W92910, (by decide)⟩
          · have h92904 : v26_5.toInt < 11 := h92904
            refine g_iload_n C dX12_isAllWith_33 rfl 3 rfl ?_
            refine g_iload C dX12_isAllWith_34 5 rfl ?_
            refine a_ishr C dX12_isAllWith_36 (fun z92926 => ?_)
            refine g_iconst (v := 1) C dX12_isAllWith_37 (by decide) ?_
            refine s_iand C dX12_isAllWith_38 (by show 0 ≤ 1; omega) (fun z92928 h92929 => ?_)
            have h92929 : 0 ≤ z92928.toInt ∧ z92928.toInt ≤ 1 := h92929
            refine g_iconst (v := 1) C dX12_isAllWith_39 (by decide) ?_
            refine b_icmp_ne C 71 dX12_isAllWith_40 (by decide) (fun h92930 => ?_) (fun h92930 => ?_)
            · have h92930 : z92928.toInt ≠ 1 := ti_ne h92930
              exact J71 P26 I26 X26 W26 (by omega) (by omega) (fun b9 e9 => by rw [e92894] at e9; cases e9; omega) (by show (pI P26 a0 28).toInt ≤ 45 + v26_5.toInt; omega)
            · have h92930 : z92928.toInt = 1 := congrArg Int32.toInt h92930
              refine g_aload_n C dX12_isAllWith_43 rfl 0 rfl ?_
              refine g_iload_n C dX12_isAllWith_44 rfl 2 rfl ?_
              refine g_iload C dX12_isAllWith_45 5 rfl ?_
              refine g_callVI (rest := []) C mv_X12_261 [.int a2, .int v26_5] (s_X12_setOf I26 (by omega) (fun b9 e9 => by rw [e92894] at e9; cases e9; show 1 ≤ (pI P26 b92893 (a2.toInt.toNat)).toInt ∧ (pI P26 b92893 (a2.toInt.toNat)).toInt ≤ 16; omega) W26) (h92892).1 (h92892).2 rfl rfl (by decide) (Nat.le_of_ble_eq_true rfl) (by decide) dX12_isAllWith_47 (fun r92931 Y92932 h92933 => ?_)
              obtain ⟨Iy92934, Xy92935, W92936, h92933⟩ := h92933
              have q92937 := Xy92935.keepA e92894 (by decide) rfl (a2.toInt.toNat)
              have q92938 := Xy92935.keepF 28 (by decide)
              have Xz92939 : EM [28, 29, 30, 31, 35, 36, 37, 38] a0 P Y92932 := EM.tr ha0 X26 (Xy92935.mono (by decide))
              have e92940 := Xy92935.ref h92892 (by decide) e92894
              have h92941 := Xy92935.at h92892
              have h92942 := Xy92935.ar h92895
              have h92933 : True := h92933
              refine g_istore (lv' := [(6, .int r92931), (0, .ref a0), (1, .int a1), (2, .int a2), (3, .int a3), (4, .int v3_4), (5, .int v26_5)]) C dX12_isAllWith_50 (by decide) rfl ?_
              refine g_aload_n C dX12_isAllWith_52 rfl 1 rfl ?_
              refine g_iload C dX12_isAllWith_53 0 rfl ?_
              refine g_aload_n C dX12_isAllWith_55 rfl 1 rfl ?_
              refine g_iload_n C dX12_isAllWith_56 rfl 3 rfl ?_
              refine g_iload C dX12_isAllWith_57 0 rfl ?_
              refine g_callVI (rest := [.int r92931, .ref a0]) C mv_X12_223 [.int a2, .int r92931] (s_X12_sumOf Iy92934 (by omega) W92936) (h92941).1 (h92941).2 rfl rfl (by decide) (Nat.le_of_ble_eq_true rfl) (by decide) dX12_isAllWith_59 (fun r92943 Y92944 h92945 => ?_)
              obtain ⟨rfl, h92945⟩ := h92945
              have h92945 : True := h92945
              refine g_iload C dX12_isAllWith_62 5 rfl ?_
              refine g_callSI (b := 0) (ci := 0) (rest := [.int r92931, .ref a0]) C ms_X12_315 [.int r92943, .int v3_4] (s_X12_byteOf Iy92934.1) rfl rfl (by decide) (Nat.le_of_ble_eq_true rfl) (by decide) dX12_isAllWith_64 (fun r92946 Y92947 h92948 => ?_)
              obtain ⟨rfl, h92948⟩ := h92948
              have h92948 : 0 ≤ r92946.toInt ∧ r92946.toInt ≤ 255 := h92948
              refine g_iconst (v := (-1)) C dX12_isAllWith_67 (by decide) ?_
              refine g_callVV (rest := []) C mv_X12_308 [.int r92931, .int r92946, .int (-1)] (s_X12_adds Iy92934 (by omega) W92936) (h92941).1 (h92941).2 rfl rfl (by decide) (Nat.le_of_ble_eq_true rfl) (by decide) dX12_isAllWith_68 (fun Y92950 h92951 => ?_)
              obtain ⟨Iy92952, Xy92953, W92954, p92955⟩ := h92951
              have p92955 : (pI Y92950 a0 28).toInt = (pI Y92932 a0 28).toInt + 1 := p92955
              have q92956 := Xy92953.keepA e92940 (by decide) rfl (a2.toInt.toNat)
              have Xz92957 : EM [28, 29, 30, 31, 35, 36, 37, 38] a0 P Y92950 := EM.tr ha0 Xz92939 (Xy92953.mono (by decide))
              have e92958 := Xy92953.ref h92941 (by decide) e92940
              have h92959 := Xy92953.at h92941
              have h92960 := Xy92953.ar h92942
              have h92961 := Iy92952.rg h92959 28 rfl
              refine g_lv (lv' := [(0, .ref a0), (1, .int a1), (2, .int a2), (3, .int a3), (4, .int v3_4), (5, .int v26_5)]) [1, 2, 3, 4, 5, 6] rfl ?_
              exact J71 Y92950 Iy92952 Xz92957 W92954 (by omega) (by omega) (fun b9 e9 => by rw [e92958] at e9; cases e9; omega) (by show (pI Y92950 a0 28).toInt ≤ 45 + v26_5.toInt; omega)
      refine g_iload C dX12_isAllWith_3 4 rfl ?_
      refine g_iconst (v := 2) C dX12_isAllWith_5 (by decide) ?_
      refine b_icmp_ge C 101 dX12_isAllWith_6 (by decide) (fun h92962 => ?_) (fun h92962 => ?_)
      · have h92962 : 2 ≤ v3_4.toInt := h92962
        refine g_iconst (v := 1) C dX12_isAllWith_101 (by decide) ?_
        exact ret _ _ _ _ _ _ dX12_isAllWith_102 rfl (by decide) (by decide) ⟨I3, X3, W3, (by decide)⟩
      · have h92962 : v3_4.toInt < 2 := h92962
        refine g_aload_n C dX12_isAllWith_9 rfl 0 rfl ?_
        refine g_iload_n C dX12_isAllWith_10 rfl 1 rfl ?_
        refine g_iload_n C dX12_isAllWith_11 rfl 2 rfl ?_
        refine g_iload C dX12_isAllWith_12 4 rfl ?_
        refine g_aload_n C dX12_isAllWith_14 rfl 0 rfl ?_
        obtain ⟨b92963, e92964, h92965⟩ := I3.fld (h92888) 20 13 20 rfl
        refine g_getR C fi_X12_69 rfl e92964 (h92888).1 (h92888).2 dX12_isAllWith_15 ?_
        refine g_iload_n C dX12_isAllWith_18 rfl 1 rfl ?_
        refine g_iald (j := (a1.toInt.toNat)) C h92965.1 h92965.2.1 (ix_in h92965.2.2 (by omega)) dX12_isAllWith_19 ?_
        have h92966 := I3.arr e92964 rfl (a1.toInt.toNat)
        refine g_callVV (rest := []) C mv_X12_339 [.int a1, .int a2, .int v3_4, .int (pI P3 b92963 (a1.toInt.toNat))] (s_X12_gathers I3 (by omega) (by omega) (by omega) (fun b9 e9 => by rw [e92890] at e9; cases e9; show 1 ≤ (pI P3 b92889 (a2.toInt.toNat)).toInt ∧ (pI P3 b92889 (a2.toInt.toNat)).toInt ≤ 16; omega) W3) (h92888).1 (h92888).2 rfl rfl (by decide) (Nat.le_of_ble_eq_true rfl) (by decide) dX12_isAllWith_20 (fun Y92968 h92969 => ?_)
        obtain ⟨Iy92970, Xy92971, W92972, p92973, p92974⟩ := h92969
        have p92973 : (pI Y92968 a0 28).toInt ≤ 4 + (pI P3 b92963 (a1.toInt.toNat)).toInt := p92973
        have q92975 := Xy92971.keepA e92890 (by decide) rfl (a2.toInt.toNat)
        have q92976 := Xy92971.keepA e92964 (by decide) rfl (a1.toInt.toNat)
        have Xz92977 : EM [28, 29, 30, 31, 35, 36, 37, 38] a0 P Y92968 := EM.tr ha0 X3 (Xy92971.mono (by decide))
        have e92978 := Xy92971.ref h92888 (by decide) e92890
        have e92979 := Xy92971.ref h92888 (by decide) e92964
        have h92980 := Xy92971.at h92888
        have h92981 := Xy92971.ar h92891
        have h92982 := Xy92971.ar h92965
        obtain ⟨b92983, e92984, h92985⟩ := Iy92970.fld (h92980) 22 13 800 rfl
        have p92974 := p92974 b92983 e92984
        rw [Xz92977.2.2.2 22 (by decide) rfl b92983 (EM.refB Xz92977 ha0 e92984)] at p92974
        have p92974 : (pI Y92968 a0 28).toInt ≤ 4 + kC (pI P b92983) (40 * a1.toInt).toNat a2.toInt ((pI P3 b92963 (a1.toInt.toNat)).toInt : Int).toNat := p92974
        have h92986 := Iy92970.rg h92980 28 rfl
        refine g_iconst (v := 0) C dX12_isAllWith_23 (by decide) ?_
        refine g_istore (lv' := [(5, .int 0), (0, .ref a0), (1, .int a1), (2, .int a2), (3, .int a3), (4, .int v3_4)]) C dX12_isAllWith_24 (by decide) rfl ?_
        refine g_lv (lv' := [(0, .ref a0), (1, .int a1), (2, .int a2), (3, .int a3), (4, .int v3_4), (5, .int 0)]) [1, 2, 3, 4, 5, 0] rfl ?_
        exact J26 _ Y92968 0 (Nat.lt_succ_self _) Iy92970 Xz92977 W92972 (by omega) (by decide) (fun b9 e9 => by rw [e92978] at e9; cases e9; omega) (by show (pI Y92968 a0 28).toInt ≤ 44 + 0; omega)
  obtain ⟨b92987, e92988, h92989⟩ := I.fld (ha0) 10 13 2 rfl
  have hf0 := hf0 b92987 e92988
  refine g_iconst (v := 0) C dX12_isAllWith_0 (by decide) ?_
  refine g_istore (lv' := [(4, .int 0), (0, .ref a0), (1, .int a1), (2, .int a2), (3, .int a3)]) C dX12_isAllWith_1 (by decide) rfl ?_
  refine g_lv (lv' := [(0, .ref a0), (1, .int a1), (2, .int a2), (3, .int a3), (4, .int 0)]) [1, 2, 3, 4, 0] rfl ?_
  exact J3 _ P 0 (Nat.lt_succ_self _) I EM.rf hW (by decide) (fun b9 e9 => by rw [e92988] at e9; cases e9; omega)
theorem dX12_leaflet_0 : decode cX12_leaflet 0 = .ok (.aload_n 0, 1) := by decide +kernel
theorem dX12_leaflet_1 : decode cX12_leaflet 1 = .ok (.iconst 0, 1) := by decide +kernel
theorem dX12_leaflet_2 : decode cX12_leaflet 2 = .ok (.putfield 1, 3) := by decide +kernel
theorem dX12_leaflet_5 : decode cX12_leaflet 5 = .ok (.aload_n 0, 1) := by decide +kernel
theorem dX12_leaflet_6 : decode cX12_leaflet 6 = .ok (.iload_n 1, 1) := by decide +kernel
theorem dX12_leaflet_7 : decode cX12_leaflet 7 = .ok (.invokevirtual 192, 3) := by decide +kernel
theorem dX12_leaflet_10 : decode cX12_leaflet 10 = .ok (.ifCond .eq 19, 3) := by decide +kernel
theorem dX12_leaflet_13 : decode cX12_leaflet 13 = .ok (.iload_n 2, 1) := by decide +kernel
theorem dX12_leaflet_14 : decode cX12_leaflet 14 = .ok (.invokestatic 258, 3) := by decide +kernel
theorem dX12_leaflet_17 : decode cX12_leaflet 17 = .ok (.ifCond .eq 12, 3) := by decide +kernel
theorem dX12_leaflet_20 : decode cX12_leaflet 20 = .ok (.iload_n 3, 1) := by decide +kernel
theorem dX12_leaflet_21 : decode cX12_leaflet 21 = .ok (.iconst 0, 1) := by decide +kernel
theorem dX12_leaflet_22 : decode cX12_leaflet 22 = .ok (.iconst 3, 1) := by decide +kernel
theorem dX12_leaflet_23 : decode cX12_leaflet 23 = .ok (.invokestatic 178, 3) := by decide +kernel
theorem dX12_leaflet_26 : decode cX12_leaflet 26 = .ok (.ifCond .ne 5, 3) := by decide +kernel
theorem dX12_leaflet_29 : decode cX12_leaflet 29 = .ok (.iconst (-1), 1) := by decide +kernel
theorem dX12_leaflet_30 : decode cX12_leaflet 30 = .ok (.ireturn, 1) := by decide +kernel
theorem dX12_leaflet_31 : decode cX12_leaflet 31 = .ok (.aload_n 0, 1) := by decide +kernel
theorem dX12_leaflet_32 : decode cX12_leaflet 32 = .ok (.iload_n 1, 1) := by decide +kernel
theorem dX12_leaflet_33 : decode cX12_leaflet 33 = .ok (.iload_n 2, 1) := by decide +kernel
theorem dX12_leaflet_34 : decode cX12_leaflet 34 = .ok (.invokevirtual 261, 3) := by decide +kernel
theorem dX12_leaflet_37 : decode cX12_leaflet 37 = .ok (.istore 4, 2) := by decide +kernel
theorem dX12_leaflet_39 : decode cX12_leaflet 39 = .ok (.iload_n 3, 1) := by decide +kernel
theorem dX12_leaflet_40 : decode cX12_leaflet 40 = .ok (.ifCond .ne 8, 3) := by decide +kernel
theorem dX12_leaflet_43 : decode cX12_leaflet 43 = .ok (.iload 4, 2) := by decide +kernel
theorem dX12_leaflet_45 : decode cX12_leaflet 45 = .ok (.goto 44, 3) := by decide +kernel
theorem dX12_leaflet_48 : decode cX12_leaflet 48 = .ok (.iload_n 3, 1) := by decide +kernel
theorem dX12_leaflet_49 : decode cX12_leaflet 49 = .ok (.iconst 3, 1) := by decide +kernel
theorem dX12_leaflet_50 : decode cX12_leaflet 50 = .ok (.if_icmp .ne 11, 3) := by decide +kernel
theorem dX12_leaflet_53 : decode cX12_leaflet 53 = .ok (.iload 4, 2) := by decide +kernel
theorem dX12_leaflet_55 : decode cX12_leaflet 55 = .ok (.invokestatic 264, 3) := by decide +kernel
theorem dX12_leaflet_58 : decode cX12_leaflet 58 = .ok (.goto 31, 3) := by decide +kernel
theorem dX12_leaflet_61 : decode cX12_leaflet 61 = .ok (.iload_n 3, 1) := by decide +kernel
theorem dX12_leaflet_62 : decode cX12_leaflet 62 = .ok (.iconst 1, 1) := by decide +kernel
theorem dX12_leaflet_63 : decode cX12_leaflet 63 = .ok (.if_icmp .ne 13, 3) := by decide +kernel
theorem dX12_leaflet_66 : decode cX12_leaflet 66 = .ok (.aload_n 0, 1) := by decide +kernel
theorem dX12_leaflet_67 : decode cX12_leaflet 67 = .ok (.iload_n 1, 1) := by decide +kernel
theorem dX12_leaflet_68 : decode cX12_leaflet 68 = .ok (.iload 4, 2) := by decide +kernel
theorem dX12_leaflet_70 : decode cX12_leaflet 70 = .ok (.invokevirtual 223, 3) := by decide +kernel
theorem dX12_leaflet_73 : decode cX12_leaflet 73 = .ok (.goto 16, 3) := by decide +kernel
theorem dX12_leaflet_76 : decode cX12_leaflet 76 = .ok (.aload_n 0, 1) := by decide +kernel
theorem dX12_leaflet_77 : decode cX12_leaflet 77 = .ok (.iload_n 1, 1) := by decide +kernel
theorem dX12_leaflet_78 : decode cX12_leaflet 78 = .ok (.iload_n 2, 1) := by decide +kernel
theorem dX12_leaflet_79 : decode cX12_leaflet 79 = .ok (.aload_n 0, 1) := by decide +kernel
theorem dX12_leaflet_80 : decode cX12_leaflet 80 = .ok (.iload_n 1, 1) := by decide +kernel
theorem dX12_leaflet_81 : decode cX12_leaflet 81 = .ok (.iload 4, 2) := by decide +kernel
theorem dX12_leaflet_83 : decode cX12_leaflet 83 = .ok (.invokevirtual 223, 3) := by decide +kernel
theorem dX12_leaflet_86 : decode cX12_leaflet 86 = .ok (.invokevirtual 267, 3) := by decide +kernel
theorem dX12_leaflet_89 : decode cX12_leaflet 89 = .ok (.ireturn, 1) := by decide +kernel
set_option maxHeartbeats 4000000 in
set_option maxRecDepth 100000 in
theorem s_X12_leaflet {P : PP} {a0 : Nat} {a1 : Int32} {a2 : Int32} {a3 : Int32} (I : IM P a0) (hW : MW P a0) : CtrI yX12_leaflet cX12_leaflet 5 (some Jvm.ClassFile.FieldType.int) ({ frames := 4, cells := 0, slots := 0, locals := 256 } : Room) 0 0 P [.ref a0, .int a1, .int a2, .int a3] (fun r P2 => IM P2 a0 ∧ EM [0] a0 P P2 ∧ MW P2 a0 ∧ (True)) := by
  refine enI (lv := [(0, .ref a0), (1, .int a1), (2, .int a2), (3, .int a3)]) (by decide) (Nat.le_of_ble_eq_true rfl) rfl (fun E D cy C Ci0 ret => ?_)
  have ha0 := I.2.1
  have J29 : ∀ (P29 : PP), (IM P29 a0) → (EM [0] a0 P P29) → (MW P29 a0) → (0 ≤ (pI P29 a0 0).toInt ∧ (pI P29 a0 0).toInt ≤ 0) → G E ({ frames := 4, cells := 0, slots := 0, locals := 256 } : Room) D cy 5 P29 0 0 29 [] [] := by
    intro P29 I29 X29 W29 hq29_0
    have h93046 := X29.at ha0
    refine g_iconst (v := (-1)) C dX12_leaflet_29 (by decide) ?_
    exact ret _ _ _ _ _ _ dX12_leaflet_30 rfl (by decide) (by decide) ⟨I29, X29, W29, trivial⟩
  refine g_aload_n C dX12_leaflet_0 rfl 0 rfl ?_
  refine g_iconst (v := 0) C dX12_leaflet_1 (by decide) ?_
  refine g_putI C fi_X12_1 rfl (ha0).1 (ha0).2 dX12_leaflet_2 ?_
  refine gqW (ks := [0]) (I.setI (rgOk.of rfl (by decide))) (EM.setI I (by decide)) (fun Y93047 Iy93048 Xy93049 w93050  => ?_)
  have w93050 : (pI Y93047 a0 0).toInt = 0 := w93050
  have W93051 := hW.keep I Xy93049 (by decide) (by decide) (by decide) (by decide)
  have Xz93052 : EM [0] a0 P Y93047 := Xy93049.mono (by decide)
  have h93053 := Xy93049.at ha0
  refine g_aload_n C dX12_leaflet_5 rfl 0 rfl ?_
  refine g_iload_n C dX12_leaflet_6 rfl 1 rfl ?_
  refine g_callVI (rest := []) C mv_X12_192 [.int a1] (s_X12_isBook Iy93048 W93051) (h93053).1 (h93053).2 rfl rfl (by decide) (Nat.le_of_ble_eq_true rfl) (by decide) dX12_leaflet_7 (fun r93054 Y93055 h93056 => ?_)
  obtain ⟨rfl, h93056⟩ := h93056
  obtain ⟨h93056, hi93057, hi93058⟩ := h93056
  have hi93057 : r93054.toInt = 0 ∨ (((0 : Int) ≤ a1.toInt ∧ a1.toInt ≤ (1 : Int))) := hi93057
  have h93056 : 0 ≤ r93054.toInt ∧ r93054.toInt ≤ 1 := h93056
  refine b_if_eq C 29 dX12_leaflet_10 (by decide) (fun h93059 => ?_) (fun h93059 => ?_)
  · have h93059 : r93054.toInt = 0 := congrArg Int32.toInt h93059
    clear hi93057
    refine g_lv (lv' := []) [] rfl ?_
    exact J29 Y93047 Iy93048 Xz93052 W93051 (by omega)
  · have h93059 : r93054.toInt ≠ 0 := ti_ne h93059
    replace hi93057 := hi93057.resolve_left (by omega)
    obtain ⟨b93060, e93061, h93062⟩ := Iy93048.fld (h93053) 10 13 2 rfl
    have hi93058 := (hi93058.resolve_left (by omega)) b93060 e93061
    have hi93058 : 0 < (pI Y93047 b93060 (a1.toInt.toNat)).toInt := hi93058
    have h93063 := Iy93048.arr e93061 rfl (a1.toInt.toNat)
    refine g_iload_n C dX12_leaflet_13 rfl 2 rfl ?_
    refine g_callSI (b := 0) (ci := 0) (rest := []) C ms_X12_258 [.int a2] (s_X12_isNumber Iy93048.1) rfl rfl (by decide) (Nat.le_of_ble_eq_true rfl) (by decide) dX12_leaflet_14 (fun r93064 Y93065 h93066 => ?_)
    obtain ⟨rfl, h93066⟩ := h93066
    obtain ⟨h93066, hi93067⟩ := h93066
    have hi93067 : r93064.toInt = 0 ∨ (((0 : Int) ≤ a2.toInt ∧ a2.toInt ≤ (9999 : Int))) := hi93067
    have h93066 : 0 ≤ r93064.toInt ∧ r93064.toInt ≤ 1 := h93066
    refine b_if_eq C 29 dX12_leaflet_17 (by decide) (fun h93068 => ?_) (fun h93068 => ?_)
    · have h93068 : r93064.toInt = 0 := congrArg Int32.toInt h93068
      clear hi93067
      refine g_lv (lv' := []) [] rfl ?_
      exact J29 Y93047 Iy93048 Xz93052 W93051 (by omega)
    · have h93068 : r93064.toInt ≠ 0 := ti_ne h93068
      replace hi93067 := hi93067.resolve_left (by omega)
      refine g_iload_n C dX12_leaflet_20 rfl 3 rfl ?_
      refine g_iconst (v := 0) C dX12_leaflet_21 (by decide) ?_
      refine g_iconst (v := 3) C dX12_leaflet_22 (by decide) ?_
      refine g_callSI (b := 0) (ci := 0) (rest := []) C ms_X12_178 [.int a3, .int 0, .int 3] (s_X12_within Iy93048.1) rfl rfl (by decide) (Nat.le_of_ble_eq_true rfl) (by decide) dX12_leaflet_23 (fun r93069 Y93070 h93071 => ?_)
      obtain ⟨rfl, h93071⟩ := h93071
      obtain ⟨h93071, hi93072⟩ := h93071
      have hi93072 : r93069.toInt = 0 ∨ (0 ≤ a3.toInt ∧ a3.toInt ≤ 3) := hi93072
      have h93071 : 0 ≤ r93069.toInt ∧ r93069.toInt ≤ 1 := h93071
      refine b_if_ne C 31 dX12_leaflet_26 (by decide) (fun h93073 => ?_) (fun h93073 => ?_)
      · have h93073 : r93069.toInt ≠ 0 := ti_ne h93073
        replace hi93072 := hi93072.resolve_left (by omega)
        refine g_aload_n C dX12_leaflet_31 rfl 0 rfl ?_
        refine g_iload_n C dX12_leaflet_32 rfl 1 rfl ?_
        refine g_iload_n C dX12_leaflet_33 rfl 2 rfl ?_
        refine g_callVI (rest := []) C mv_X12_261 [.int a1, .int a2] (s_X12_setOf Iy93048 (by omega) (fun b9 e9 => by rw [e93061] at e9; cases e9; show 1 ≤ (pI Y93047 b93060 (a1.toInt.toNat)).toInt ∧ (pI Y93047 b93060 (a1.toInt.toNat)).toInt ≤ 16; omega) W93051) (h93053).1 (h93053).2 rfl rfl (by decide) (Nat.le_of_ble_eq_true rfl) (by decide) dX12_leaflet_34 (fun r93074 Y93075 h93076 => ?_)
        obtain ⟨Iy93077, Xy93078, W93079, h93076⟩ := h93076
        have q93080 := Xy93078.keepF 0 (by decide)
        have q93081 := Xy93078.keepA e93061 (by decide) rfl (a1.toInt.toNat)
        have Xz93082 : EM [0] a0 P Y93075 := EM.tr ha0 Xz93052 (Xy93078.mono (by decide))
        have e93083 := Xy93078.ref h93053 (by decide) e93061
        have h93084 := Xy93078.at h93053
        have h93085 := Xy93078.ar h93062
        have h93076 : True := h93076
        refine g_istore (lv' := [(4, .int r93074), (0, .ref a0), (1, .int a1), (2, .int a2), (3, .int a3)]) C dX12_leaflet_37 (by decide) rfl ?_
        refine g_iload_n C dX12_leaflet_39 rfl 4 rfl ?_
        refine b_if_ne C 48 dX12_leaflet_40 (by decide) (fun h93086 => ?_) (fun h93086 => ?_)
        · have h93086 : a3.toInt ≠ 0 := ti_ne h93086
          refine g_iload_n C dX12_leaflet_48 rfl 4 rfl ?_
          refine g_iconst (v := 3) C dX12_leaflet_49 (by decide) ?_
          refine b_icmp_ne C 61 dX12_leaflet_50 (by decide) (fun h93087 => ?_) (fun h93087 => ?_)
          · have h93087 : a3.toInt ≠ 3 := ti_ne h93087
            refine g_iload_n C dX12_leaflet_61 rfl 4 rfl ?_
            refine g_iconst (v := 1) C dX12_leaflet_62 (by decide) ?_
            refine b_icmp_ne C 76 dX12_leaflet_63 (by decide) (fun h93088 => ?_) (fun h93088 => ?_)
            · have h93088 : a3.toInt ≠ 1 := ti_ne h93088
              refine g_aload_n C dX12_leaflet_76 rfl 1 rfl ?_
              refine g_iload_n C dX12_leaflet_77 rfl 2 rfl ?_
              refine g_iload_n C dX12_leaflet_78 rfl 3 rfl ?_
              refine g_aload_n C dX12_leaflet_79 rfl 1 rfl ?_
              refine g_iload_n C dX12_leaflet_80 rfl 2 rfl ?_
              refine g_iload C dX12_leaflet_81 0 rfl ?_
              refine g_callVI (rest := [.int a2, .int a1, .ref a0]) C mv_X12_223 [.int a1, .int r93074] (s_X12_sumOf Iy93077 (by omega) W93079) (h93084).1 (h93084).2 rfl rfl (by decide) (Nat.le_of_ble_eq_true rfl) (by decide) dX12_leaflet_83 (fun r93089 Y93090 h93091 => ?_)
              obtain ⟨rfl, h93091⟩ := h93091
              have h93091 : True := h93091
              refine g_callVI (rest := []) C mv_X12_267 [.int a1, .int a2, .int r93089] (s_X12_sealOf Iy93077 (by omega) W93079) (h93084).1 (h93084).2 rfl rfl (by decide) (Nat.le_of_ble_eq_true rfl) (by decide) dX12_leaflet_86 (fun r93092 Y93093 h93094 => ?_)
              obtain ⟨rfl, h93094⟩ := h93094
              have h93094 : -996 ≤ r93092.toInt ∧ r93092.toInt ≤ 996 := h93094
              exact ret _ _ _ _ _ _ dX12_leaflet_89 rfl (by decide) (by decide) ⟨Iy93077, Xz93082, W93079, trivial⟩
            · have h93088 : a3.toInt = 1 := congrArg Int32.toInt h93088
              refine g_aload_n C dX12_leaflet_66 rfl 1 rfl ?_
              refine g_iload_n C dX12_leaflet_67 rfl 2 rfl ?_
              refine g_iload C dX12_leaflet_68 0 rfl ?_
              refine g_callVI (rest := []) C mv_X12_223 [.int a1, .int r93074] (s_X12_sumOf Iy93077 (by omega) W93079) (h93084).1 (h93084).2 rfl rfl (by decide) (Nat.le_of_ble_eq_true rfl) (by decide) dX12_leaflet_70 (fun r93095 Y93096 h93097 => ?_)
              obtain ⟨rfl, h93097⟩ := h93097
              have h93097 : True := h93097
              refine g_goto C 89 dX12_leaflet_73 (by decide) ?_
              exact ret _ _ _ _ _ _ dX12_leaflet_89 rfl (by decide) (by decide) ⟨Iy93077, Xz93082, W93079, trivial⟩
          · have h93087 : a3.toInt = 3 := congrArg Int32.toInt h93087
            refine g_iload C dX12_leaflet_53 0 rfl ?_
            refine g_callSI (b := 0) (ci := 0) (rest := []) C ms_X12_264 [.int r93074] (s_X12_bits Iy93077.1) rfl rfl (by decide) (Nat.le_of_ble_eq_true rfl) (by decide) dX12_leaflet_55 (fun r93098 Y93099 h93100 => ?_)
            obtain ⟨rfl, h93100⟩ := h93100
            obtain ⟨h93100, hi93101⟩ := h93100
            have hi93101 : r93098.toInt = 0 ∨ r93074.toInt ≠ 0 := hi93101
            have h93100 : 0 ≤ r93098.toInt ∧ r93098.toInt ≤ 20 := h93100
            refine g_goto C 89 dX12_leaflet_58 (by decide) ?_
            exact ret _ _ _ _ _ _ dX12_leaflet_89 rfl (by decide) (by decide) ⟨Iy93077, Xz93082, W93079, trivial⟩
        · have h93086 : a3.toInt = 0 := congrArg Int32.toInt h93086
          refine g_iload C dX12_leaflet_43 0 rfl ?_
          refine g_goto C 89 dX12_leaflet_45 (by decide) ?_
          exact ret _ _ _ _ _ _ dX12_leaflet_89 rfl (by decide) (by decide) ⟨Iy93077, Xz93082, W93079, trivial⟩
      · have h93073 : r93069.toInt = 0 := congrArg Int32.toInt h93073
        clear hi93072
        refine g_lv (lv' := []) [] rfl ?_
        exact J29 Y93047 Iy93048 Xz93052 W93051 (by omega)
