theorem dX12_scatter_0 : decode cX12_scatter 0 = .ok (.aload_n 0, 1) := by decide +kernel
theorem dX12_scatter_1 : decode cX12_scatter 1 = .ok (.iconst 0, 1) := by decide +kernel
theorem dX12_scatter_2 : decode cX12_scatter 2 = .ok (.putfield 1, 3) := by decide +kernel
theorem dX12_scatter_5 : decode cX12_scatter 5 = .ok (.aload_n 0, 1) := by decide +kernel
theorem dX12_scatter_6 : decode cX12_scatter 6 = .ok (.iload_n 1, 1) := by decide +kernel
theorem dX12_scatter_7 : decode cX12_scatter 7 = .ok (.invokevirtual 192, 3) := by decide +kernel
theorem dX12_scatter_10 : decode cX12_scatter 10 = .ok (.ifCond .eq 30, 3) := by decide +kernel
theorem dX12_scatter_13 : decode cX12_scatter 13 = .ok (.iload_n 2, 1) := by decide +kernel
theorem dX12_scatter_14 : decode cX12_scatter 14 = .ok (.invokestatic 258, 3) := by decide +kernel
theorem dX12_scatter_17 : decode cX12_scatter 17 = .ok (.ifCond .eq 23, 3) := by decide +kernel
theorem dX12_scatter_20 : decode cX12_scatter 20 = .ok (.iload_n 3, 1) := by decide +kernel
theorem dX12_scatter_21 : decode cX12_scatter 21 = .ok (.invokestatic 258, 3) := by decide +kernel
theorem dX12_scatter_24 : decode cX12_scatter 24 = .ok (.ifCond .eq 16, 3) := by decide +kernel
theorem dX12_scatter_27 : decode cX12_scatter 27 = .ok (.iload_n 3, 1) := by decide +kernel
theorem dX12_scatter_28 : decode cX12_scatter 28 = .ok (.iload_n 2, 1) := by decide +kernel
theorem dX12_scatter_29 : decode cX12_scatter 29 = .ok (.if_icmp .lt 11, 3) := by decide +kernel
theorem dX12_scatter_32 : decode cX12_scatter 32 = .ok (.iload_n 3, 1) := by decide +kernel
theorem dX12_scatter_33 : decode cX12_scatter 33 = .ok (.iload_n 2, 1) := by decide +kernel
theorem dX12_scatter_34 : decode cX12_scatter 34 = .ok (.isub, 1) := by decide +kernel
theorem dX12_scatter_35 : decode cX12_scatter 35 = .ok (.bipush 99, 2) := by decide +kernel
theorem dX12_scatter_37 : decode cX12_scatter 37 = .ok (.if_icmp .le 5, 3) := by decide +kernel
theorem dX12_scatter_40 : decode cX12_scatter 40 = .ok (.iconst (-1), 1) := by decide +kernel
theorem dX12_scatter_41 : decode cX12_scatter 41 = .ok (.ireturn, 1) := by decide +kernel
theorem dX12_scatter_42 : decode cX12_scatter 42 = .ok (.iconst 0, 1) := by decide +kernel
theorem dX12_scatter_43 : decode cX12_scatter 43 = .ok (.istore 4, 2) := by decide +kernel
theorem dX12_scatter_45 : decode cX12_scatter 45 = .ok (.iload_n 2, 1) := by decide +kernel
theorem dX12_scatter_46 : decode cX12_scatter 46 = .ok (.istore 5, 2) := by decide +kernel
theorem dX12_scatter_48 : decode cX12_scatter 48 = .ok (.iload 5, 2) := by decide +kernel
theorem dX12_scatter_50 : decode cX12_scatter 50 = .ok (.iload_n 3, 1) := by decide +kernel
theorem dX12_scatter_51 : decode cX12_scatter 51 = .ok (.if_icmp .gt 119, 3) := by decide +kernel
theorem dX12_scatter_54 : decode cX12_scatter 54 = .ok (.aload_n 0, 1) := by decide +kernel
theorem dX12_scatter_55 : decode cX12_scatter 55 = .ok (.iload_n 1, 1) := by decide +kernel
theorem dX12_scatter_56 : decode cX12_scatter 56 = .ok (.aload_n 0, 1) := by decide +kernel
theorem dX12_scatter_57 : decode cX12_scatter 57 = .ok (.iload_n 1, 1) := by decide +kernel
theorem dX12_scatter_58 : decode cX12_scatter 58 = .ok (.iload 5, 2) := by decide +kernel
theorem dX12_scatter_60 : decode cX12_scatter 60 = .ok (.invokevirtual 261, 3) := by decide +kernel
theorem dX12_scatter_63 : decode cX12_scatter 63 = .ok (.invokevirtual 223, 3) := by decide +kernel
theorem dX12_scatter_66 : decode cX12_scatter 66 = .ok (.istore 6, 2) := by decide +kernel
theorem dX12_scatter_68 : decode cX12_scatter 68 = .ok (.iconst 0, 1) := by decide +kernel
theorem dX12_scatter_69 : decode cX12_scatter 69 = .ok (.istore 7, 2) := by decide +kernel
theorem dX12_scatter_71 : decode cX12_scatter 71 = .ok (.iload 7, 2) := by decide +kernel
theorem dX12_scatter_73 : decode cX12_scatter 73 = .ok (.iconst 4, 1) := by decide +kernel
theorem dX12_scatter_74 : decode cX12_scatter 74 = .ok (.if_icmp .ge 90, 3) := by decide +kernel
theorem dX12_scatter_77 : decode cX12_scatter 77 = .ok (.aload_n 0, 1) := by decide +kernel
theorem dX12_scatter_78 : decode cX12_scatter 78 = .ok (.iload 7, 2) := by decide +kernel
theorem dX12_scatter_80 : decode cX12_scatter 80 = .ok (.iload_n 1, 1) := by decide +kernel
theorem dX12_scatter_81 : decode cX12_scatter 81 = .ok (.iload 5, 2) := by decide +kernel
theorem dX12_scatter_83 : decode cX12_scatter 83 = .ok (.invokevirtual 402, 3) := by decide +kernel
theorem dX12_scatter_86 : decode cX12_scatter 86 = .ok (.ifCond .eq 72, 3) := by decide +kernel
theorem dX12_scatter_89 : decode cX12_scatter 89 = .ok (.aload_n 0, 1) := by decide +kernel
theorem dX12_scatter_90 : decode cX12_scatter 90 = .ok (.getfield 69, 3) := by decide +kernel
theorem dX12_scatter_93 : decode cX12_scatter 93 = .ok (.iload 7, 2) := by decide +kernel
theorem dX12_scatter_95 : decode cX12_scatter 95 = .ok (.iaload, 1) := by decide +kernel
theorem dX12_scatter_96 : decode cX12_scatter 96 = .ok (.bipush 40, 2) := by decide +kernel
theorem dX12_scatter_98 : decode cX12_scatter 98 = .ok (.if_icmp .ge 60, 3) := by decide +kernel
theorem dX12_scatter_101 : decode cX12_scatter 101 = .ok (.aload_n 0, 1) := by decide +kernel
theorem dX12_scatter_102 : decode cX12_scatter 102 = .ok (.iload 7, 2) := by decide +kernel
theorem dX12_scatter_104 : decode cX12_scatter 104 = .ok (.iload_n 1, 1) := by decide +kernel
theorem dX12_scatter_105 : decode cX12_scatter 105 = .ok (.iload 5, 2) := by decide +kernel
theorem dX12_scatter_107 : decode cX12_scatter 107 = .ok (.iload 6, 2) := by decide +kernel
theorem dX12_scatter_109 : decode cX12_scatter 109 = .ok (.iconst 3, 1) := by decide +kernel
theorem dX12_scatter_110 : decode cX12_scatter 110 = .ok (.aload_n 0, 1) := by decide +kernel
theorem dX12_scatter_111 : decode cX12_scatter 111 = .ok (.iload_n 1, 1) := by decide +kernel
theorem dX12_scatter_112 : decode cX12_scatter 112 = .ok (.iload 5, 2) := by decide +kernel
theorem dX12_scatter_114 : decode cX12_scatter 114 = .ok (.iload 6, 2) := by decide +kernel
theorem dX12_scatter_116 : decode cX12_scatter 116 = .ok (.invokevirtual 267, 3) := by decide +kernel
theorem dX12_scatter_119 : decode cX12_scatter 119 = .ok (.invokevirtual 284, 3) := by decide +kernel
theorem dX12_scatter_122 : decode cX12_scatter 122 = .ok (.istore 8, 2) := by decide +kernel
theorem dX12_scatter_124 : decode cX12_scatter 124 = .ok (.aload_n 0, 1) := by decide +kernel
theorem dX12_scatter_125 : decode cX12_scatter 125 = .ok (.iload 7, 2) := by decide +kernel
theorem dX12_scatter_127 : decode cX12_scatter 127 = .ok (.bipush 40, 2) := by decide +kernel
theorem dX12_scatter_129 : decode cX12_scatter 129 = .ok (.iload 7, 2) := by decide +kernel
theorem dX12_scatter_131 : decode cX12_scatter 131 = .ok (.imul, 1) := by decide +kernel
theorem dX12_scatter_132 : decode cX12_scatter 132 = .ok (.iload 8, 2) := by decide +kernel
theorem dX12_scatter_134 : decode cX12_scatter 134 = .ok (.iadd, 1) := by decide +kernel
theorem dX12_scatter_135 : decode cX12_scatter 135 = .ok (.invokevirtual 405, 3) := by decide +kernel
theorem dX12_scatter_138 : decode cX12_scatter 138 = .ok (.ifCond .eq 17, 3) := by decide +kernel
theorem dX12_scatter_141 : decode cX12_scatter 141 = .ok (.aload_n 0, 1) := by decide +kernel
theorem dX12_scatter_142 : decode cX12_scatter 142 = .ok (.getfield 69, 3) := by decide +kernel
theorem dX12_scatter_145 : decode cX12_scatter 145 = .ok (.iload 7, 2) := by decide +kernel
theorem dX12_scatter_147 : decode cX12_scatter 147 = .ok (.dup2, 1) := by decide +kernel
theorem dX12_scatter_148 : decode cX12_scatter 148 = .ok (.iaload, 1) := by decide +kernel
theorem dX12_scatter_149 : decode cX12_scatter 149 = .ok (.iconst 1, 1) := by decide +kernel
theorem dX12_scatter_150 : decode cX12_scatter 150 = .ok (.isub, 1) := by decide +kernel
theorem dX12_scatter_151 : decode cX12_scatter 151 = .ok (.iastore, 1) := by decide +kernel
theorem dX12_scatter_152 : decode cX12_scatter 152 = .ok (.goto 6, 3) := by decide +kernel
theorem dX12_scatter_155 : decode cX12_scatter 155 = .ok (.iinc 4 1, 3) := by decide +kernel
theorem dX12_scatter_158 : decode cX12_scatter 158 = .ok (.iinc 7 1, 3) := by decide +kernel
theorem dX12_scatter_161 : decode cX12_scatter 161 = .ok (.goto (-90), 3) := by decide +kernel
theorem dX12_scatter_164 : decode cX12_scatter 164 = .ok (.iinc 5 1, 3) := by decide +kernel
theorem dX12_scatter_167 : decode cX12_scatter 167 = .ok (.goto (-119), 3) := by decide +kernel
theorem dX12_scatter_170 : decode cX12_scatter 170 = .ok (.iload 4, 2) := by decide +kernel
theorem dX12_scatter_172 : decode cX12_scatter 172 = .ok (.ireturn, 1) := by decide +kernel
set_option maxHeartbeats 4000000 in
set_option maxRecDepth 100000 in
theorem s_X12_scatter {P : PP} {a0 : Nat} {a1 : Int32} {a2 : Int32} {a3 : Int32} (I : IM P a0) (hW : MW P a0) : CtrI yX12_scatter cX12_scatter 9 (some Jvm.ClassFile.FieldType.int) ({ frames := 4, cells := 0, slots := 0, locals := 256 } : Room) 0 0 P [.ref a0, .int a1, .int a2, .int a3] (fun r P2 => IM P2 a0 ∧ EM [0, 20, 21, 22, 23, 24, 25] a0 P P2 ∧ MW P2 a0 ∧ (True)) := by
  refine enI (lv := [(0, .ref a0), (1, .int a1), (2, .int a2), (3, .int a3)]) (by decide) (Nat.le_of_ble_eq_true rfl) rfl (fun E D cy C Ci0 ret => ?_)
  have ha0 := I.2.1
  have J48 : ∀ (n48 : Nat) (P48 : PP) (v48_4 : Int32) (v48_5 : Int32), (10000 - v48_5.toInt).toNat < n48 → (IM P48 a0) → (EM [0, 20, 21, 22, 23, 24, 25] a0 P P48) → (MW P48 a0) → (0 ≤ a1.toInt ∧ a1.toInt ≤ 1) → (0 ≤ a3.toInt ∧ a3.toInt ≤ 9999) → (0 ≤ v48_5.toInt ∧ v48_5.toInt ≤ 10000) → (0 ≤ (pI P48 a0 0).toInt ∧ (pI P48 a0 0).toInt ≤ 0) → (∀ b, pR P48 a0 10 = some b → 1 ≤ (pI P48 b (a1.toInt.toNat)).toInt ∧ (pI P48 b (a1.toInt.toNat)).toInt ≤ 16) → G E ({ frames := 4, cells := 0, slots := 0, locals := 256 } : Room) D cy 9 P48 0 0 48 [(0, .ref a0), (1, .int a1), (3, .int a3), (4, .int v48_4), (5, .int v48_5)] [] := by
    intro n48
    induction n48 with
    | zero => intro P48 v48_4 v48_5 hm48 I48 X48 W48 hv48_1 hv48_3 hv48_5 hq48_0 hq48_1; omega
    | succ n48 ih48 =>
      intro P48 v48_4 v48_5 hm48 I48 X48 W48 hv48_1 hv48_3 hv48_5 hq48_0 hq48_1
      have h101805 := X48.at ha0
      obtain ⟨b101806, e101807, h101808⟩ := I48.fld (h101805) 10 13 2 rfl
      have hq48_1 := hq48_1 b101806 e101807
      have J71 : ∀ (n71 : Nat) (P71 : PP) (v71_4 : Int32) (v71_6 : Int32) (v71_7 : Int32), (4 - v71_7.toInt).toNat < n71 → (IM P71 a0) → (EM [0, 20, 21, 22, 23, 24, 25] a0 P P71) → (MW P71 a0) → (0 ≤ a1.toInt ∧ a1.toInt ≤ 1) → (0 ≤ a3.toInt ∧ a3.toInt ≤ 9999) → (0 ≤ v48_5.toInt ∧ v48_5.toInt ≤ 9999) → (0 ≤ v71_7.toInt ∧ v71_7.toInt ≤ 4) → (0 ≤ (pI P71 a0 0).toInt ∧ (pI P71 a0 0).toInt ≤ 0) → (∀ b, pR P71 a0 10 = some b → 1 ≤ (pI P71 b (a1.toInt.toNat)).toInt ∧ (pI P71 b (a1.toInt.toNat)).toInt ≤ 16) → G E ({ frames := 4, cells := 0, slots := 0, locals := 256 } : Room) D cy 9 P71 0 0 71 [(0, .ref a0), (1, .int a1), (3, .int a3), (4, .int v71_4), (5, .int v48_5), (6, .int v71_6), (7, .int v71_7)] [] := by
        intro n71
        induction n71 with
        | zero => intro P71 v71_4 v71_6 v71_7 hm71 I71 X71 W71 hv71_1 hv71_3 hv71_5 hv71_7 hq71_0 hq71_1; omega
        | succ n71 ih71 =>
          intro P71 v71_4 v71_6 v71_7 hm71 I71 X71 W71 hv71_1 hv71_3 hv71_5 hv71_7 hq71_0 hq71_1
          have h101809 := X71.at ha0
          obtain ⟨b101810, e101811, h101812⟩ := I71.fld (h101809) 10 13 2 rfl
          have hq71_1 := hq71_1 b101810 e101811
          have J158 : ∀ (P158 : PP) (v158_4 : Int32), (IM P158 a0) → (EM [0, 20, 21, 22, 23, 24, 25] a0 P P158) → (MW P158 a0) → (0 ≤ a1.toInt ∧ a1.toInt ≤ 1) → (0 ≤ a3.toInt ∧ a3.toInt ≤ 9999) → (0 ≤ v48_5.toInt ∧ v48_5.toInt ≤ 9999) → (0 ≤ v71_7.toInt ∧ v71_7.toInt ≤ 3) → (0 ≤ (pI P158 a0 0).toInt ∧ (pI P158 a0 0).toInt ≤ 0) → (∀ b, pR P158 a0 10 = some b → 1 ≤ (pI P158 b (a1.toInt.toNat)).toInt ∧ (pI P158 b (a1.toInt.toNat)).toInt ≤ 16) → G E ({ frames := 4, cells := 0, slots := 0, locals := 256 } : Room) D cy 9 P158 0 0 158 [(0, .ref a0), (1, .int a1), (3, .int a3), (4, .int v158_4), (5, .int v48_5), (6, .int v71_6), (7, .int v71_7)] [] := by
            intro P158 v158_4 I158 X158 W158 hv158_1 hv158_3 hv158_5 hv158_7 hq158_0 hq158_1
            have h101813 := X158.at ha0
            obtain ⟨b101814, e101815, h101816⟩ := I158.fld (h101813) 10 13 2 rfl
            have hq158_1 := hq158_1 b101814 e101815
            refine s_iinc (lv0 := [(0, .ref a0), (1, .int a1), (3, .int a3), (4, .int v158_4), (5, .int v48_5), (6, .int v71_6)]) (m := 1) C dX12_scatter_158 6 rfl (by decide) rfl (by decide) (by omega) (fun z101817 h101818 => ?_)
            have h101818 : z101817.toInt = v71_7.toInt + 1 := h101818
            refine g_goto C 71 dX12_scatter_161 (by decide) ?_
            refine g_lv (lv' := [(0, .ref a0), (1, .int a1), (3, .int a3), (4, .int v158_4), (5, .int v48_5), (6, .int v71_6), (7, .int z101817)]) [1, 2, 3, 4, 5, 6, 0] rfl ?_
            exact ih71 P158 v158_4 v71_6 z101817 (by omega) I158 X158 W158 (by omega) (by omega) (by omega) (by omega) (by omega) (fun b9 e9 => by rw [e101815] at e9; cases e9; omega)
          refine g_iload C dX12_scatter_71 6 rfl ?_
          refine g_iconst (v := 4) C dX12_scatter_73 (by decide) ?_
          refine b_icmp_ge C 164 dX12_scatter_74 (by decide) (fun h101819 => ?_) (fun h101819 => ?_)
          · have h101819 : 4 ≤ v71_7.toInt := h101819
            refine s_iinc (lv0 := [(0, .ref a0), (1, .int a1), (3, .int a3), (4, .int v71_4), (6, .int v71_6), (7, .int v71_7)]) (m := 1) C dX12_scatter_164 4 rfl (by decide) rfl (by decide) (by omega) (fun z101820 h101821 => ?_)
            have h101821 : z101820.toInt = v48_5.toInt + 1 := h101821
            refine g_goto C 48 dX12_scatter_167 (by decide) ?_
            refine g_lv (lv' := [(0, .ref a0), (1, .int a1), (3, .int a3), (4, .int v71_4), (5, .int z101820)]) [1, 2, 3, 4, 0] rfl ?_
            exact ih48 P71 v71_4 z101820 (by omega) I71 X71 W71 (by omega) (by omega) (by omega) (by omega) (fun b9 e9 => by rw [e101811] at e9; cases e9; omega)
          · have h101819 : v71_7.toInt < 4 := h101819
            refine g_aload_n C dX12_scatter_77 rfl 0 rfl ?_
            refine g_iload C dX12_scatter_78 6 rfl ?_
            refine g_iload_n C dX12_scatter_80 rfl 1 rfl ?_
            refine g_iload C dX12_scatter_81 4 rfl ?_
            refine g_callVI (rest := []) C mv_X12_402 [.int v71_7, .int a1, .int v48_5] (s_X12_falls I71 (by omega) W71) (h101809).1 (h101809).2 rfl rfl (by decide) (Nat.le_of_ble_eq_true rfl) (by decide) dX12_scatter_83 (fun r101822 Y101823 h101824 => ?_)
            obtain ⟨rfl, h101824⟩ := h101824
            have h101824 : 0 ≤ r101822.toInt ∧ r101822.toInt ≤ 1 := h101824
            refine b_if_eq C 158 dX12_scatter_86 (by decide) (fun h101825 => ?_) (fun h101825 => ?_)
            · have h101825 : r101822.toInt = 0 := congrArg Int32.toInt h101825
              exact J158 P71 v71_4 I71 X71 W71 (by omega) (by omega) (by omega) (by omega) (by omega) (fun b9 e9 => by rw [e101811] at e9; cases e9; omega)
            · have h101825 : r101822.toInt ≠ 0 := ti_ne h101825
              refine g_aload_n C dX12_scatter_89 rfl 0 rfl ?_
              obtain ⟨b101826, e101827, h101828⟩ := I71.fld (h101809) 20 13 20 rfl
              refine g_getR C fi_X12_69 rfl e101827 (h101809).1 (h101809).2 dX12_scatter_90 ?_
              refine g_iload C dX12_scatter_93 6 rfl ?_
              refine g_iald (j := (v71_7.toInt.toNat)) C h101828.1 h101828.2.1 (ix_in h101828.2.2 (by omega)) dX12_scatter_95 ?_
              have h101829 := I71.arr e101827 rfl (v71_7.toInt.toNat)
              refine g_bipush (v := 40) C dX12_scatter_96 (by decide) ?_
              refine b_icmp_ge C 158 dX12_scatter_98 (by decide) (fun h101830 => ?_) (fun h101830 => ?_)
              · have h101830 : 40 ≤ (pI P71 b101826 (v71_7.toInt.toNat)).toInt := h101830
                exact J158 P71 v71_4 I71 X71 W71 (by omega) (by omega) (by omega) (by omega) (by omega) (fun b9 e9 => by rw [e101811] at e9; cases e9; omega)
              · have h101830 : (pI P71 b101826 (v71_7.toInt.toNat)).toInt < 40 := h101830
                refine g_aload_n C dX12_scatter_101 rfl 0 rfl ?_
                refine g_iload C dX12_scatter_102 6 rfl ?_
                refine g_iload_n C dX12_scatter_104 rfl 1 rfl ?_
                refine g_iload C dX12_scatter_105 4 rfl ?_
                refine g_iload C dX12_scatter_107 5 rfl ?_
                refine g_iconst (v := 3) C dX12_scatter_109 (by decide) ?_
                refine g_aload_n C dX12_scatter_110 rfl 0 rfl ?_
                refine g_iload_n C dX12_scatter_111 rfl 1 rfl ?_
                refine g_iload C dX12_scatter_112 4 rfl ?_
                refine g_iload C dX12_scatter_114 5 rfl ?_
                refine g_callVI (rest := [.int 3, .int v71_6, .int v48_5, .int a1, .int v71_7, .ref a0]) C mv_X12_267 [.int a1, .int v48_5, .int v71_6] (s_X12_sealOf I71 (by omega) W71) (h101809).1 (h101809).2 rfl rfl (by decide) (Nat.le_of_ble_eq_true rfl) (by decide) dX12_scatter_116 (fun r101831 Y101832 h101833 => ?_)
                obtain ⟨rfl, h101833⟩ := h101833
                have h101833 : -996 ≤ r101831.toInt ∧ r101831.toInt ≤ 996 := h101833
                refine g_callVI (rest := []) C mv_X12_284 [.int v71_7, .int a1, .int v48_5, .int v71_6, .int 3, .int r101831] (s_X12_lays I71 (by omega) (by omega) (fun b9 e9 => by rw [e101827] at e9; cases e9; show 0 ≤ (pI P71 b101826 (v71_7.toInt.toNat)).toInt ∧ (pI P71 b101826 (v71_7.toInt.toNat)).toInt ≤ 39; omega) W71 (fun c9 f9 _ => by rw [e101811] at f9; cases f9; show 0 < (pI P71 b101810 (a1.toInt.toNat)).toInt; omega)) (h101809).1 (h101809).2 rfl rfl (by decide) (Nat.le_of_ble_eq_true rfl) (by decide) dX12_scatter_119 (fun r101834 Y101835 h101836 => ?_)
                obtain ⟨Iy101837, Xy101838, W101839, p101840, h101836⟩ := h101836
                have p101840 := p101840 b101826 e101827
                have p101840 : (pI Y101835 b101826 (v71_7.toInt.toNat)).toInt = (pI P71 b101826 (v71_7.toInt.toNat)).toInt + 1 := p101840
                have q101841 := Xy101838.keepF 0 (by decide)
                have q101842 := Xy101838.keepA e101811 (by decide) rfl (a1.toInt.toNat)
                have Xz101843 : EM [0, 20, 21, 22, 23, 24, 25] a0 P Y101835 := EM.tr ha0 X71 (Xy101838.mono (by decide))
                have e101844 := Xy101838.ref h101809 (by decide) e101811
                have e101845 := Xy101838.ref h101809 (by decide) e101827
                have h101846 := Xy101838.at h101809
                have h101847 := Xy101838.ar h101812
                have h101848 := Xy101838.ar h101828
                have h101836 : 0 ≤ r101834.toInt ∧ r101834.toInt ≤ 39 := h101836
                refine g_istore (lv' := [(8, .int r101834), (0, .ref a0), (1, .int a1), (3, .int a3), (4, .int v71_4), (5, .int v48_5), (6, .int v71_6), (7, .int v71_7)]) C dX12_scatter_122 (by decide) rfl ?_
                refine g_aload_n C dX12_scatter_124 rfl 1 rfl ?_
                refine g_iload C dX12_scatter_125 7 rfl ?_
                refine g_bipush (v := 40) C dX12_scatter_127 (by decide) ?_
                refine g_iload C dX12_scatter_129 7 rfl ?_
                refine s_imul C dX12_scatter_131 (by show -2147483648 ≤ 40 * v71_7.toInt ∧ 40 * v71_7.toInt ≤ 2147483647; omega) (fun z101849 h101850 => ?_)
                have h101850 : z101849.toInt = 40 * v71_7.toInt := h101850
                refine g_iload C dX12_scatter_132 0 rfl ?_
                refine s_iadd C dX12_scatter_134 (by show -2147483648 ≤ z101849.toInt + r101834.toInt ∧ z101849.toInt + r101834.toInt ≤ 2147483647; omega) (fun z101851 h101852 => ?_)
                have h101852 : z101851.toInt = z101849.toInt + r101834.toInt := h101852
                refine g_callVI (rest := []) C mv_X12_405 [.int v71_7, .int z101851] (s_X12_hasAlike Iy101837 (by omega) (by omega) W101839) (h101846).1 (h101846).2 rfl rfl (by decide) (Nat.le_of_ble_eq_true rfl) (by decide) dX12_scatter_135 (fun r101853 Y101854 h101855 => ?_)
                obtain ⟨rfl, h101855⟩ := h101855
                have h101855 : 0 ≤ r101853.toInt ∧ r101853.toInt ≤ 1 := h101855
                refine b_if_eq C 155 dX12_scatter_138 (by decide) (fun h101856 => ?_) (fun h101856 => ?_)
                · have h101856 : r101853.toInt = 0 := congrArg Int32.toInt h101856
                  refine a_iinc (lv0 := [(8, .int r101834), (0, .ref a0), (1, .int a1), (3, .int a3), (5, .int v48_5), (6, .int v71_6), (7, .int v71_7)]) C dX12_scatter_155 4 rfl (by decide) rfl (fun z101857 => ?_)
                  refine g_lv (lv' := [(0, .ref a0), (1, .int a1), (3, .int a3), (4, .int z101857), (5, .int v48_5), (6, .int v71_6), (7, .int v71_7)]) [2, 3, 4, 0, 5, 6, 7] rfl ?_
                  exact J158 Y101835 z101857 Iy101837 Xz101843 W101839 (by omega) (by omega) (by omega) (by omega) (by omega) (fun b9 e9 => by rw [e101844] at e9; cases e9; omega)
                · have h101856 : r101853.toInt ≠ 0 := ti_ne h101856
                  refine g_aload_n C dX12_scatter_141 rfl 1 rfl ?_
                  refine g_getR C fi_X12_69 rfl e101845 (h101846).1 (h101846).2 dX12_scatter_142 ?_
                  refine g_iload C dX12_scatter_145 7 rfl ?_
                  refine g_dup2_11 C dX12_scatter_147 rfl rfl ?_
                  refine g_iald (j := (v71_7.toInt.toNat)) C h101848.1 h101848.2.1 (ix_in h101848.2.2 (by omega)) dX12_scatter_148 ?_
                  refine g_iconst (v := 1) C dX12_scatter_149 (by decide) ?_
                  refine s_isub C dX12_scatter_150 (by show -2147483648 ≤ (pI Y101835 b101826 (v71_7.toInt.toNat)).toInt - 1 ∧ (pI Y101835 b101826 (v71_7.toInt.toNat)).toInt - 1 ≤ 2147483647; omega) (fun z101859 h101860 => ?_)
                  have h101860 : z101859.toInt = (pI Y101835 b101826 (v71_7.toInt.toNat)).toInt - 1 := h101860
                  refine g_iast (j := (v71_7.toInt.toNat)) C h101848.1 h101848.2.1 (ix_in h101848.2.2 (by omega)) dX12_scatter_151 ?_
                  refine gqW (ks := [20]) (Iy101837.setA e101845 h101848 (by decide) (arOk.of rfl (by omega))) (EM.setA Iy101837 e101845 rfl (by decide)) (fun Y101861 Iy101862 Xy101863 w101864  => ?_)
                  have w101864 : (pI Y101861 b101826 (v71_7.toInt.toNat)).toInt = z101859.toInt := w101864
                  have q101865 := Xy101863.keepF 0 (by decide)
                  have q101866 := Xy101863.keepA e101844 (by decide) rfl (a1.toInt.toNat)
                  have W101867 := W101839.keep Iy101837 Xy101863 (by decide) (by decide) (by decide)
                  have Xz101868 : EM [0, 20, 21, 22, 23, 24, 25] a0 P Y101861 := EM.tr ha0 Xz101843 (Xy101863.mono (by decide))
                  have e101869 := Xy101863.ref h101846 (by decide) e101844
                  have e101870 := Xy101863.ref h101846 (by decide) e101845
                  have h101871 := Xy101863.at h101846
                  have h101872 := Xy101863.ar h101847
                  have h101873 := Xy101863.ar h101848
                  refine g_goto C 158 dX12_scatter_152 (by decide) ?_
                  refine g_lv (lv' := [(0, .ref a0), (1, .int a1), (3, .int a3), (4, .int v71_4), (5, .int v48_5), (6, .int v71_6), (7, .int v71_7)]) [1, 2, 3, 4, 5, 6, 7] rfl ?_
                  exact J158 Y101861 v71_4 Iy101862 Xz101868 W101867 (by omega) (by omega) (by omega) (by omega) (by omega) (fun b9 e9 => by rw [e101869] at e9; cases e9; omega)
      refine g_iload C dX12_scatter_48 4 rfl ?_
      refine g_iload_n C dX12_scatter_50 rfl 2 rfl ?_
      refine b_icmp_gt C 170 dX12_scatter_51 (by decide) (fun h101874 => ?_) (fun h101874 => ?_)
      · have h101874 : a3.toInt < v48_5.toInt := h101874
        refine g_iload C dX12_scatter_170 3 rfl ?_
        exact ret _ _ _ _ _ _ dX12_scatter_172 rfl (by decide) (by decide) ⟨I48, X48, W48, trivial⟩
      · have h101874 : v48_5.toInt ≤ a3.toInt := h101874
        refine g_aload_n C dX12_scatter_54 rfl 0 rfl ?_
        refine g_iload_n C dX12_scatter_55 rfl 1 rfl ?_
        refine g_aload_n C dX12_scatter_56 rfl 0 rfl ?_
        refine g_iload_n C dX12_scatter_57 rfl 1 rfl ?_
        refine g_iload C dX12_scatter_58 4 rfl ?_
        refine g_callVI (rest := [.int a1, .ref a0]) C mv_X12_261 [.int a1, .int v48_5] (s_X12_setOf I48 (by omega) (fun b9 e9 => by rw [e101807] at e9; cases e9; show 1 ≤ (pI P48 b101806 (a1.toInt.toNat)).toInt ∧ (pI P48 b101806 (a1.toInt.toNat)).toInt ≤ 16; omega) W48) (h101805).1 (h101805).2 rfl rfl (by decide) (Nat.le_of_ble_eq_true rfl) (by decide) dX12_scatter_60 (fun r101875 Y101876 h101877 => ?_)
        obtain ⟨Iy101878, Xy101879, W101880, h101877⟩ := h101877
        have q101881 := Xy101879.keepF 0 (by decide)
        have q101882 := Xy101879.keepA e101807 (by decide) rfl (a1.toInt.toNat)
        have Xz101883 : EM [0, 20, 21, 22, 23, 24, 25] a0 P Y101876 := EM.tr ha0 X48 (Xy101879.mono (by decide))
        have e101884 := Xy101879.ref h101805 (by decide) e101807
        have h101885 := Xy101879.at h101805
        have h101886 := Xy101879.ar h101808
        have h101877 : True := h101877
        refine g_callVI (rest := []) C mv_X12_223 [.int a1, .int r101875] (s_X12_sumOf Iy101878 (by omega) W101880) (h101885).1 (h101885).2 rfl rfl (by decide) (Nat.le_of_ble_eq_true rfl) (by decide) dX12_scatter_63 (fun r101887 Y101888 h101889 => ?_)
        obtain ⟨rfl, h101889⟩ := h101889
        have h101889 : True := h101889
        refine g_istore (lv' := [(6, .int r101887), (0, .ref a0), (1, .int a1), (3, .int a3), (4, .int v48_4), (5, .int v48_5)]) C dX12_scatter_66 (by decide) rfl ?_
        refine g_iconst (v := 0) C dX12_scatter_68 (by decide) ?_
        refine g_istore (lv' := [(7, .int 0), (6, .int r101887), (0, .ref a0), (1, .int a1), (3, .int a3), (4, .int v48_4), (5, .int v48_5)]) C dX12_scatter_69 (by decide) rfl ?_
        refine g_lv (lv' := [(0, .ref a0), (1, .int a1), (3, .int a3), (4, .int v48_4), (5, .int v48_5), (6, .int r101887), (7, .int 0)]) [2, 3, 4, 5, 6, 1, 0] rfl ?_
        exact J71 _ Y101876 v48_4 r101887 0 (Nat.lt_succ_self _) Iy101878 Xz101883 W101880 (by omega) (by omega) (by omega) (by decide) (by omega) (fun b9 e9 => by rw [e101884] at e9; cases e9; omega)
  have J40 : ∀ (P40 : PP), (IM P40 a0) → (EM [0, 20, 21, 22, 23, 24, 25] a0 P P40) → (MW P40 a0) → (0 ≤ (pI P40 a0 0).toInt ∧ (pI P40 a0 0).toInt ≤ 0) → G E ({ frames := 4, cells := 0, slots := 0, locals := 256 } : Room) D cy 9 P40 0 0 40 [] [] := by
    intro P40 I40 X40 W40 hq40_0
    have h101890 := X40.at ha0
    refine g_iconst (v := (-1)) C dX12_scatter_40 (by decide) ?_
    exact ret _ _ _ _ _ _ dX12_scatter_41 rfl (by decide) (by decide) ⟨I40, X40, W40, trivial⟩
  refine g_aload_n C dX12_scatter_0 rfl 0 rfl ?_
  refine g_iconst (v := 0) C dX12_scatter_1 (by decide) ?_
  refine g_putI C fi_X12_1 rfl (ha0).1 (ha0).2 dX12_scatter_2 ?_
  refine gqW (ks := [0]) (I.setI (rgOk.of rfl (by decide))) (EM.setI I (by decide)) (fun Y101891 Iy101892 Xy101893 w101894  => ?_)
  have w101894 : (pI Y101891 a0 0).toInt = 0 := w101894
  have W101895 := hW.keep I Xy101893 (by decide) (by decide) (by decide)
  have Xz101896 : EM [0, 20, 21, 22, 23, 24, 25] a0 P Y101891 := Xy101893.mono (by decide)
  have h101897 := Xy101893.at ha0
  refine g_aload_n C dX12_scatter_5 rfl 0 rfl ?_
  refine g_iload_n C dX12_scatter_6 rfl 1 rfl ?_
  refine g_callVI (rest := []) C mv_X12_192 [.int a1] (s_X12_isBook Iy101892 W101895) (h101897).1 (h101897).2 rfl rfl (by decide) (Nat.le_of_ble_eq_true rfl) (by decide) dX12_scatter_7 (fun r101898 Y101899 h101900 => ?_)
  obtain ⟨rfl, h101900⟩ := h101900
  obtain ⟨h101900, hi101901, hi101902⟩ := h101900
  have hi101901 : r101898.toInt = 0 ∨ (((0 : Int) ≤ a1.toInt ∧ a1.toInt ≤ (1 : Int))) := hi101901
  have h101900 : 0 ≤ r101898.toInt ∧ r101898.toInt ≤ 1 := h101900
  refine b_if_eq C 40 dX12_scatter_10 (by decide) (fun h101903 => ?_) (fun h101903 => ?_)
  · have h101903 : r101898.toInt = 0 := congrArg Int32.toInt h101903
    clear hi101901
    refine g_lv (lv' := []) [] rfl ?_
    exact J40 Y101891 Iy101892 Xz101896 W101895 (by omega)
  · have h101903 : r101898.toInt ≠ 0 := ti_ne h101903
    replace hi101901 := hi101901.resolve_left (by omega)
    obtain ⟨b101904, e101905, h101906⟩ := Iy101892.fld (h101897) 10 13 2 rfl
    have hi101902 := (hi101902.resolve_left (by omega)) b101904 e101905
    have hi101902 : 0 < (pI Y101891 b101904 (a1.toInt.toNat)).toInt := hi101902
    have h101907 := Iy101892.arr e101905 rfl (a1.toInt.toNat)
    refine g_iload_n C dX12_scatter_13 rfl 2 rfl ?_
    refine g_callSI (b := 0) (ci := 0) (rest := []) C ms_X12_258 [.int a2] (s_X12_isNumber Iy101892.1) rfl rfl (by decide) (Nat.le_of_ble_eq_true rfl) (by decide) dX12_scatter_14 (fun r101908 Y101909 h101910 => ?_)
    obtain ⟨rfl, h101910⟩ := h101910
    obtain ⟨h101910, hi101911⟩ := h101910
    have hi101911 : r101908.toInt = 0 ∨ (((0 : Int) ≤ a2.toInt ∧ a2.toInt ≤ (9999 : Int))) := hi101911
    have h101910 : 0 ≤ r101908.toInt ∧ r101908.toInt ≤ 1 := h101910
    refine b_if_eq C 40 dX12_scatter_17 (by decide) (fun h101912 => ?_) (fun h101912 => ?_)
    · have h101912 : r101908.toInt = 0 := congrArg Int32.toInt h101912
      clear hi101911
      refine g_lv (lv' := []) [] rfl ?_
      exact J40 Y101891 Iy101892 Xz101896 W101895 (by omega)
    · have h101912 : r101908.toInt ≠ 0 := ti_ne h101912
      replace hi101911 := hi101911.resolve_left (by omega)
      refine g_iload_n C dX12_scatter_20 rfl 3 rfl ?_
      refine g_callSI (b := 0) (ci := 0) (rest := []) C ms_X12_258 [.int a3] (s_X12_isNumber Iy101892.1) rfl rfl (by decide) (Nat.le_of_ble_eq_true rfl) (by decide) dX12_scatter_21 (fun r101913 Y101914 h101915 => ?_)
      obtain ⟨rfl, h101915⟩ := h101915
      obtain ⟨h101915, hi101916⟩ := h101915
      have hi101916 : r101913.toInt = 0 ∨ (((0 : Int) ≤ a3.toInt ∧ a3.toInt ≤ (9999 : Int))) := hi101916
      have h101915 : 0 ≤ r101913.toInt ∧ r101913.toInt ≤ 1 := h101915
      refine b_if_eq C 40 dX12_scatter_24 (by decide) (fun h101917 => ?_) (fun h101917 => ?_)
      · have h101917 : r101913.toInt = 0 := congrArg Int32.toInt h101917
        clear hi101916
        refine g_lv (lv' := []) [] rfl ?_
        exact J40 Y101891 Iy101892 Xz101896 W101895 (by omega)
      · have h101917 : r101913.toInt ≠ 0 := ti_ne h101917
        replace hi101916 := hi101916.resolve_left (by omega)
        refine g_iload_n C dX12_scatter_27 rfl 3 rfl ?_
        refine g_iload_n C dX12_scatter_28 rfl 2 rfl ?_
        refine b_icmp_lt C 40 dX12_scatter_29 (by decide) (fun h101918 => ?_) (fun h101918 => ?_)
        · have h101918 : a3.toInt < a2.toInt := h101918
          refine g_lv (lv' := []) [] rfl ?_
          exact J40 Y101891 Iy101892 Xz101896 W101895 (by omega)
        · have h101918 : a2.toInt ≤ a3.toInt := h101918
          refine g_iload_n C dX12_scatter_32 rfl 3 rfl ?_
          refine g_iload_n C dX12_scatter_33 rfl 2 rfl ?_
          refine s_isub C dX12_scatter_34 (by show -2147483648 ≤ a3.toInt - a2.toInt ∧ a3.toInt - a2.toInt ≤ 2147483647; omega) (fun z101919 h101920 => ?_)
          have h101920 : z101919.toInt = a3.toInt - a2.toInt := h101920
          refine g_bipush (v := 99) C dX12_scatter_35 (by decide) ?_
          refine b_icmp_le C 42 dX12_scatter_37 (by decide) (fun h101921 => ?_) (fun h101921 => ?_)
          · have h101921 : z101919.toInt ≤ 99 := h101921
            refine g_iconst (v := 0) C dX12_scatter_42 (by decide) ?_
            refine g_istore (lv' := [(4, .int 0), (0, .ref a0), (1, .int a1), (2, .int a2), (3, .int a3)]) C dX12_scatter_43 (by decide) rfl ?_
            refine g_iload_n C dX12_scatter_45 rfl 3 rfl ?_
            refine g_istore (lv' := [(5, .int a2), (4, .int 0), (0, .ref a0), (1, .int a1), (2, .int a2), (3, .int a3)]) C dX12_scatter_46 (by decide) rfl ?_
            refine g_lv (lv' := [(0, .ref a0), (1, .int a1), (3, .int a3), (4, .int 0), (5, .int a2)]) [2, 3, 5, 1, 0] rfl ?_
            exact J48 _ Y101891 0 a2 (Nat.lt_succ_self _) Iy101892 Xz101896 W101895 (by omega) (by omega) (by omega) (by omega) (fun b9 e9 => by rw [e101905] at e9; cases e9; omega)
          · have h101921 : 99 < z101919.toInt := h101921
            refine g_lv (lv' := []) [] rfl ?_
            exact J40 Y101891 Iy101892 Xz101896 W101895 (by omega)
theorem dX12_slip_0 : decode cX12_slip 0 = .ok (.aload_n 0, 1) := by decide +kernel
theorem dX12_slip_1 : decode cX12_slip 1 = .ok (.iconst 0, 1) := by decide +kernel
theorem dX12_slip_2 : decode cX12_slip 2 = .ok (.putfield 1, 3) := by decide +kernel
theorem dX12_slip_5 : decode cX12_slip 5 = .ok (.iload_n 1, 1) := by decide +kernel
theorem dX12_slip_6 : decode cX12_slip 6 = .ok (.invokestatic 278, 3) := by decide +kernel
theorem dX12_slip_9 : decode cX12_slip 9 = .ok (.ifCond .eq 40, 3) := by decide +kernel
theorem dX12_slip_12 : decode cX12_slip 12 = .ok (.aload_n 0, 1) := by decide +kernel
theorem dX12_slip_13 : decode cX12_slip 13 = .ok (.iload_n 2, 1) := by decide +kernel
theorem dX12_slip_14 : decode cX12_slip 14 = .ok (.invokevirtual 192, 3) := by decide +kernel
theorem dX12_slip_17 : decode cX12_slip 17 = .ok (.ifCond .eq 32, 3) := by decide +kernel
theorem dX12_slip_20 : decode cX12_slip 20 = .ok (.iload_n 3, 1) := by decide +kernel
theorem dX12_slip_21 : decode cX12_slip 21 = .ok (.invokestatic 258, 3) := by decide +kernel
theorem dX12_slip_24 : decode cX12_slip 24 = .ok (.ifCond .eq 25, 3) := by decide +kernel
theorem dX12_slip_27 : decode cX12_slip 27 = .ok (.iload 4, 2) := by decide +kernel
theorem dX12_slip_29 : decode cX12_slip 29 = .ok (.iconst 1, 1) := by decide +kernel
theorem dX12_slip_30 : decode cX12_slip 30 = .ok (.ldc 195, 2) := by decide +kernel
theorem dX12_slip_32 : decode cX12_slip 32 = .ok (.invokestatic 178, 3) := by decide +kernel
theorem dX12_slip_35 : decode cX12_slip 35 = .ok (.ifCond .eq 14, 3) := by decide +kernel
theorem dX12_slip_38 : decode cX12_slip 38 = .ok (.aload_n 0, 1) := by decide +kernel
theorem dX12_slip_39 : decode cX12_slip 39 = .ok (.getfield 69, 3) := by decide +kernel
theorem dX12_slip_42 : decode cX12_slip 42 = .ok (.iload_n 1, 1) := by decide +kernel
theorem dX12_slip_43 : decode cX12_slip 43 = .ok (.iaload, 1) := by decide +kernel
theorem dX12_slip_44 : decode cX12_slip 44 = .ok (.bipush 40, 2) := by decide +kernel
theorem dX12_slip_46 : decode cX12_slip 46 = .ok (.if_icmp .ne 5, 3) := by decide +kernel
theorem dX12_slip_49 : decode cX12_slip 49 = .ok (.iconst (-1), 1) := by decide +kernel
theorem dX12_slip_50 : decode cX12_slip 50 = .ok (.ireturn, 1) := by decide +kernel
theorem dX12_slip_51 : decode cX12_slip 51 = .ok (.aload_n 0, 1) := by decide +kernel
theorem dX12_slip_52 : decode cX12_slip 52 = .ok (.iload_n 2, 1) := by decide +kernel
theorem dX12_slip_53 : decode cX12_slip 53 = .ok (.aload_n 0, 1) := by decide +kernel
theorem dX12_slip_54 : decode cX12_slip 54 = .ok (.iload_n 2, 1) := by decide +kernel
theorem dX12_slip_55 : decode cX12_slip 55 = .ok (.iload_n 3, 1) := by decide +kernel
theorem dX12_slip_56 : decode cX12_slip 56 = .ok (.invokevirtual 261, 3) := by decide +kernel
theorem dX12_slip_59 : decode cX12_slip 59 = .ok (.invokevirtual 223, 3) := by decide +kernel
theorem dX12_slip_62 : decode cX12_slip 62 = .ok (.istore 5, 2) := by decide +kernel
theorem dX12_slip_64 : decode cX12_slip 64 = .ok (.aload_n 0, 1) := by decide +kernel
theorem dX12_slip_65 : decode cX12_slip 65 = .ok (.iload_n 1, 1) := by decide +kernel
theorem dX12_slip_66 : decode cX12_slip 66 = .ok (.iload_n 2, 1) := by decide +kernel
theorem dX12_slip_67 : decode cX12_slip 67 = .ok (.iload_n 3, 1) := by decide +kernel
theorem dX12_slip_68 : decode cX12_slip 68 = .ok (.iload 5, 2) := by decide +kernel
theorem dX12_slip_70 : decode cX12_slip 70 = .ok (.iload 4, 2) := by decide +kernel
theorem dX12_slip_72 : decode cX12_slip 72 = .ok (.ixor, 1) := by decide +kernel
theorem dX12_slip_73 : decode cX12_slip 73 = .ok (.aload_n 0, 1) := by decide +kernel
theorem dX12_slip_74 : decode cX12_slip 74 = .ok (.iload_n 2, 1) := by decide +kernel
theorem dX12_slip_75 : decode cX12_slip 75 = .ok (.iload_n 3, 1) := by decide +kernel
theorem dX12_slip_76 : decode cX12_slip 76 = .ok (.iload 5, 2) := by decide +kernel
theorem dX12_slip_78 : decode cX12_slip 78 = .ok (.invokevirtual 267, 3) := by decide +kernel
theorem dX12_slip_81 : decode cX12_slip 81 = .ok (.invokevirtual 291, 3) := by decide +kernel
theorem dX12_slip_84 : decode cX12_slip 84 = .ok (.ireturn, 1) := by decide +kernel
set_option maxHeartbeats 4000000 in
set_option maxRecDepth 100000 in
theorem s_X12_slip {P : PP} {a0 : Nat} {a1 : Int32} {a2 : Int32} {a3 : Int32} {a4 : Int32} (I : IM P a0) (hW : MW P a0) : CtrI yX12_slip cX12_slip 6 (some Jvm.ClassFile.FieldType.int) ({ frames := 4, cells := 0, slots := 0, locals := 256 } : Room) 0 0 P [.ref a0, .int a1, .int a2, .int a3, .int a4] (fun r P2 => IM P2 a0 ∧ EM [0, 20, 21, 22, 23, 24, 25, 27] a0 P P2 ∧ MW P2 a0 ∧ (-1 ≤ r.toInt ∧ r.toInt ≤ 39)) := by
  refine enI (lv := [(0, .ref a0), (1, .int a1), (2, .int a2), (3, .int a3), (4, .int a4)]) (by decide) (Nat.le_of_ble_eq_true rfl) rfl (fun E D cy C Ci0 ret => ?_)
  have ha0 := I.2.1
  have J49 : ∀ (P49 : PP), (IM P49 a0) → (EM [0, 20, 21, 22, 23, 24, 25, 27] a0 P P49) → (MW P49 a0) → (0 ≤ (pI P49 a0 0).toInt ∧ (pI P49 a0 0).toInt ≤ 0) → G E ({ frames := 4, cells := 0, slots := 0, locals := 256 } : Room) D cy 6 P49 0 0 49 [] [] := by
    intro P49 I49 X49 W49 hq49_0
    have h101995 := X49.at ha0
    refine g_iconst (v := (-1)) C dX12_slip_49 (by decide) ?_
    exact ret _ _ _ _ _ _ dX12_slip_50 rfl (by decide) (by decide) ⟨I49, X49, W49, (by decide)⟩
  refine g_aload_n C dX12_slip_0 rfl 0 rfl ?_
  refine g_iconst (v := 0) C dX12_slip_1 (by decide) ?_
  refine g_putI C fi_X12_1 rfl (ha0).1 (ha0).2 dX12_slip_2 ?_
  refine gqW (ks := [0]) (I.setI (rgOk.of rfl (by decide))) (EM.setI I (by decide)) (fun Y101996 Iy101997 Xy101998 w101999  => ?_)
  have w101999 : (pI Y101996 a0 0).toInt = 0 := w101999
  have W102000 := hW.keep I Xy101998 (by decide) (by decide) (by decide)
  have Xz102001 : EM [0, 20, 21, 22, 23, 24, 25, 27] a0 P Y101996 := Xy101998.mono (by decide)
  have h102002 := Xy101998.at ha0
  refine g_iload_n C dX12_slip_5 rfl 1 rfl ?_
  refine g_callSI (b := 0) (ci := 0) (rest := []) C ms_X12_278 [.int a1] (s_X12_isQuarter Iy101997.1) rfl rfl (by decide) (Nat.le_of_ble_eq_true rfl) (by decide) dX12_slip_6 (fun r102003 Y102004 h102005 => ?_)
  obtain ⟨rfl, h102005⟩ := h102005
  obtain ⟨h102005, hi102006⟩ := h102005
  have hi102006 : r102003.toInt = 0 ∨ (((0 : Int) ≤ a1.toInt ∧ a1.toInt ≤ (3 : Int))) := hi102006
  have h102005 : 0 ≤ r102003.toInt ∧ r102003.toInt ≤ 1 := h102005
  refine b_if_eq C 49 dX12_slip_9 (by decide) (fun h102007 => ?_) (fun h102007 => ?_)
  · have h102007 : r102003.toInt = 0 := congrArg Int32.toInt h102007
    clear hi102006
    refine g_lv (lv' := []) [] rfl ?_
    exact J49 Y101996 Iy101997 Xz102001 W102000 (by omega)
  · have h102007 : r102003.toInt ≠ 0 := ti_ne h102007
    replace hi102006 := hi102006.resolve_left (by omega)
    refine g_aload_n C dX12_slip_12 rfl 0 rfl ?_
    refine g_iload_n C dX12_slip_13 rfl 2 rfl ?_
    refine g_callVI (rest := []) C mv_X12_192 [.int a2] (s_X12_isBook Iy101997 W102000) (h102002).1 (h102002).2 rfl rfl (by decide) (Nat.le_of_ble_eq_true rfl) (by decide) dX12_slip_14 (fun r102008 Y102009 h102010 => ?_)
    obtain ⟨rfl, h102010⟩ := h102010
    obtain ⟨h102010, hi102011, hi102012⟩ := h102010
    have hi102011 : r102008.toInt = 0 ∨ (((0 : Int) ≤ a2.toInt ∧ a2.toInt ≤ (1 : Int))) := hi102011
    have h102010 : 0 ≤ r102008.toInt ∧ r102008.toInt ≤ 1 := h102010
    refine b_if_eq C 49 dX12_slip_17 (by decide) (fun h102013 => ?_) (fun h102013 => ?_)
    · have h102013 : r102008.toInt = 0 := congrArg Int32.toInt h102013
      clear hi102011
      refine g_lv (lv' := []) [] rfl ?_
      exact J49 Y101996 Iy101997 Xz102001 W102000 (by omega)
    · have h102013 : r102008.toInt ≠ 0 := ti_ne h102013
      replace hi102011 := hi102011.resolve_left (by omega)
      obtain ⟨b102014, e102015, h102016⟩ := Iy101997.fld (h102002) 10 13 2 rfl
      have hi102012 := (hi102012.resolve_left (by omega)) b102014 e102015
      have hi102012 : 0 < (pI Y101996 b102014 (a2.toInt.toNat)).toInt := hi102012
      have h102017 := Iy101997.arr e102015 rfl (a2.toInt.toNat)
      refine g_iload_n C dX12_slip_20 rfl 3 rfl ?_
      refine g_callSI (b := 0) (ci := 0) (rest := []) C ms_X12_258 [.int a3] (s_X12_isNumber Iy101997.1) rfl rfl (by decide) (Nat.le_of_ble_eq_true rfl) (by decide) dX12_slip_21 (fun r102018 Y102019 h102020 => ?_)
      obtain ⟨rfl, h102020⟩ := h102020
      obtain ⟨h102020, hi102021⟩ := h102020
      have hi102021 : r102018.toInt = 0 ∨ (((0 : Int) ≤ a3.toInt ∧ a3.toInt ≤ (9999 : Int))) := hi102021
      have h102020 : 0 ≤ r102018.toInt ∧ r102018.toInt ≤ 1 := h102020
      refine b_if_eq C 49 dX12_slip_24 (by decide) (fun h102022 => ?_) (fun h102022 => ?_)
      · have h102022 : r102018.toInt = 0 := congrArg Int32.toInt h102022
        clear hi102021
        refine g_lv (lv' := []) [] rfl ?_
        exact J49 Y101996 Iy101997 Xz102001 W102000 (by omega)
      · have h102022 : r102018.toInt ≠ 0 := ti_ne h102022
        replace hi102021 := hi102021.resolve_left (by omega)
        refine g_iload C dX12_slip_27 4 rfl ?_
        refine g_iconst (v := 1) C dX12_slip_29 (by decide) ?_
        refine g_ldc (v := 65535) C kc_X12_195 dX12_slip_30 ?_
        refine g_callSI (b := 0) (ci := 0) (rest := []) C ms_X12_178 [.int a4, .int 1, .int 65535] (s_X12_within Iy101997.1) rfl rfl (by decide) (Nat.le_of_ble_eq_true rfl) (by decide) dX12_slip_32 (fun r102023 Y102024 h102025 => ?_)
        obtain ⟨rfl, h102025⟩ := h102025
        obtain ⟨h102025, hi102026⟩ := h102025
        have hi102026 : r102023.toInt = 0 ∨ (1 ≤ a4.toInt ∧ a4.toInt ≤ 65535) := hi102026
        have h102025 : 0 ≤ r102023.toInt ∧ r102023.toInt ≤ 1 := h102025
        refine b_if_eq C 49 dX12_slip_35 (by decide) (fun h102027 => ?_) (fun h102027 => ?_)
        · have h102027 : r102023.toInt = 0 := congrArg Int32.toInt h102027
          clear hi102026
          refine g_lv (lv' := []) [] rfl ?_
          exact J49 Y101996 Iy101997 Xz102001 W102000 (by omega)
        · have h102027 : r102023.toInt ≠ 0 := ti_ne h102027
          replace hi102026 := hi102026.resolve_left (by omega)
          refine g_aload_n C dX12_slip_38 rfl 0 rfl ?_
          obtain ⟨b102028, e102029, h102030⟩ := Iy101997.fld (h102002) 20 13 20 rfl
          refine g_getR C fi_X12_69 rfl e102029 (h102002).1 (h102002).2 dX12_slip_39 ?_
          refine g_iload_n C dX12_slip_42 rfl 1 rfl ?_
          refine g_iald (j := (a1.toInt.toNat)) C h102030.1 h102030.2.1 (ix_in h102030.2.2 (by omega)) dX12_slip_43 ?_
          have h102031 := Iy101997.arr e102029 rfl (a1.toInt.toNat)
          refine g_bipush (v := 40) C dX12_slip_44 (by decide) ?_
          refine b_icmp_ne C 51 dX12_slip_46 (by decide) (fun h102032 => ?_) (fun h102032 => ?_)
          · have h102032 : (pI Y101996 b102028 (a1.toInt.toNat)).toInt ≠ 40 := ti_ne h102032
            refine g_aload_n C dX12_slip_51 rfl 0 rfl ?_
            refine g_iload_n C dX12_slip_52 rfl 2 rfl ?_
            refine g_aload_n C dX12_slip_53 rfl 0 rfl ?_
            refine g_iload_n C dX12_slip_54 rfl 2 rfl ?_
            refine g_iload_n C dX12_slip_55 rfl 3 rfl ?_
            refine g_callVI (rest := [.int a2, .ref a0]) C mv_X12_261 [.int a2, .int a3] (s_X12_setOf Iy101997 (by omega) (fun b9 e9 => by rw [e102015] at e9; cases e9; show 1 ≤ (pI Y101996 b102014 (a2.toInt.toNat)).toInt ∧ (pI Y101996 b102014 (a2.toInt.toNat)).toInt ≤ 16; omega) W102000) (h102002).1 (h102002).2 rfl rfl (by decide) (Nat.le_of_ble_eq_true rfl) (by decide) dX12_slip_56 (fun r102033 Y102034 h102035 => ?_)
            obtain ⟨Iy102036, Xy102037, W102038, h102035⟩ := h102035
            have q102039 := Xy102037.keepF 0 (by decide)
            have q102040 := Xy102037.keepA e102015 (by decide) rfl (a2.toInt.toNat)
            have q102041 := Xy102037.keepA e102029 (by decide) rfl (a1.toInt.toNat)
            have Xz102042 : EM [0, 20, 21, 22, 23, 24, 25, 27] a0 P Y102034 := EM.tr ha0 Xz102001 (Xy102037.mono (by decide))
            have e102043 := Xy102037.ref h102002 (by decide) e102015
            have e102044 := Xy102037.ref h102002 (by decide) e102029
            have h102045 := Xy102037.at h102002
            have h102046 := Xy102037.ar h102016
            have h102047 := Xy102037.ar h102030
            have h102035 : True := h102035
            refine g_callVI (rest := []) C mv_X12_223 [.int a2, .int r102033] (s_X12_sumOf Iy102036 (by omega) W102038) (h102045).1 (h102045).2 rfl rfl (by decide) (Nat.le_of_ble_eq_true rfl) (by decide) dX12_slip_59 (fun r102048 Y102049 h102050 => ?_)
            obtain ⟨rfl, h102050⟩ := h102050
            have h102050 : True := h102050
            refine g_istore (lv' := [(5, .int r102048), (0, .ref a0), (1, .int a1), (2, .int a2), (3, .int a3), (4, .int a4)]) C dX12_slip_62 (by decide) rfl ?_
            refine g_aload_n C dX12_slip_64 rfl 1 rfl ?_
            refine g_iload_n C dX12_slip_65 rfl 2 rfl ?_
            refine g_iload_n C dX12_slip_66 rfl 3 rfl ?_
            refine g_iload_n C dX12_slip_67 rfl 4 rfl ?_
            refine g_iload C dX12_slip_68 0 rfl ?_
            refine g_iload C dX12_slip_70 5 rfl ?_
            refine a_ixor C dX12_slip_72 (fun z102051 => ?_)
            refine g_aload_n C dX12_slip_73 rfl 1 rfl ?_
            refine g_iload_n C dX12_slip_74 rfl 3 rfl ?_
            refine g_iload_n C dX12_slip_75 rfl 4 rfl ?_
            refine g_iload C dX12_slip_76 0 rfl ?_
            refine g_callVI (rest := [.int z102051, .int a3, .int a2, .int a1, .ref a0]) C mv_X12_267 [.int a2, .int a3, .int r102048] (s_X12_sealOf Iy102036 (by omega) W102038) (h102045).1 (h102045).2 rfl rfl (by decide) (Nat.le_of_ble_eq_true rfl) (by decide) dX12_slip_78 (fun r102053 Y102054 h102055 => ?_)
            obtain ⟨rfl, h102055⟩ := h102055
            have h102055 : -996 ≤ r102053.toInt ∧ r102053.toInt ≤ 996 := h102055
            refine g_callVI (rest := []) C mv_X12_291 [.int a1, .int a2, .int a3, .int z102051, .int r102053] (s_X12_laysIf Iy102036 (by omega) (by omega) (fun b9 e9 => by rw [e102043] at e9; cases e9; show 1 ≤ (pI Y102034 b102014 (a2.toInt.toNat)).toInt ∧ (pI Y102034 b102014 (a2.toInt.toNat)).toInt ≤ 16; omega) (fun b9 e9 => by rw [e102044] at e9; cases e9; show 0 ≤ (pI Y102034 b102028 (a1.toInt.toNat)).toInt ∧ (pI Y102034 b102028 (a1.toInt.toNat)).toInt ≤ 39; omega) W102038) (h102045).1 (h102045).2 rfl rfl (by decide) (Nat.le_of_ble_eq_true rfl) (by decide) dX12_slip_81 (fun r102056 Y102057 h102058 => ?_)
            obtain ⟨Iy102059, Xy102060, W102061, h102058⟩ := h102058
            have q102062 := Xy102060.keepF 0 (by decide)
            have q102063 := Xy102060.keepA e102043 (by decide) rfl (a2.toInt.toNat)
            have Xz102064 : EM [0, 20, 21, 22, 23, 24, 25, 27] a0 P Y102057 := EM.tr ha0 Xz102042 (Xy102060.mono (by decide))
            have e102065 := Xy102060.ref h102045 (by decide) e102043
            have h102066 := Xy102060.at h102045
            have h102067 := Xy102060.ar h102046
            have h102058 : -1 ≤ r102056.toInt ∧ r102056.toInt ≤ 39 := h102058
            exact ret _ _ _ _ _ _ dX12_slip_84 rfl (by decide) (by decide) ⟨Iy102059, Xz102064, W102061, (by omega)⟩
          · have h102032 : (pI Y101996 b102028 (a1.toInt.toNat)).toInt = 40 := congrArg Int32.toInt h102032
            refine g_lv (lv' := []) [] rfl ?_
            exact J49 Y101996 Iy101997 Xz102001 W102000 (by omega)
theorem dX12_slipped_0 : decode cX12_slipped 0 = .ok (.aload_n 0, 1) := by decide +kernel
theorem dX12_slipped_1 : decode cX12_slipped 1 = .ok (.iconst 0, 1) := by decide +kernel
theorem dX12_slipped_2 : decode cX12_slipped 2 = .ok (.putfield 1, 3) := by decide +kernel
theorem dX12_slipped_5 : decode cX12_slipped 5 = .ok (.aload_n 0, 1) := by decide +kernel
theorem dX12_slipped_6 : decode cX12_slipped 6 = .ok (.iload_n 1, 1) := by decide +kernel
theorem dX12_slipped_7 : decode cX12_slipped 7 = .ok (.iload_n 2, 1) := by decide +kernel
theorem dX12_slipped_8 : decode cX12_slipped 8 = .ok (.iload_n 3, 1) := by decide +kernel
theorem dX12_slipped_9 : decode cX12_slipped 9 = .ok (.invokevirtual 333, 3) := by decide +kernel
theorem dX12_slipped_12 : decode cX12_slipped 12 = .ok (.ifCond .eq 23, 3) := by decide +kernel
theorem dX12_slipped_15 : decode cX12_slipped 15 = .ok (.iload 4, 2) := by decide +kernel
theorem dX12_slipped_17 : decode cX12_slipped 17 = .ok (.iconst 0, 1) := by decide +kernel
theorem dX12_slipped_18 : decode cX12_slipped 18 = .ok (.iconst 2, 1) := by decide +kernel
theorem dX12_slipped_19 : decode cX12_slipped 19 = .ok (.invokestatic 178, 3) := by decide +kernel
theorem dX12_slipped_22 : decode cX12_slipped 22 = .ok (.ifCond .eq 13, 3) := by decide +kernel
theorem dX12_slipped_25 : decode cX12_slipped 25 = .ok (.aload_n 0, 1) := by decide +kernel
theorem dX12_slipped_26 : decode cX12_slipped 26 = .ok (.iload_n 1, 1) := by decide +kernel
theorem dX12_slipped_27 : decode cX12_slipped 27 = .ok (.iload_n 2, 1) := by decide +kernel
theorem dX12_slipped_28 : decode cX12_slipped 28 = .ok (.iload_n 3, 1) := by decide +kernel
theorem dX12_slipped_29 : decode cX12_slipped 29 = .ok (.invokevirtual 364, 3) := by decide +kernel
theorem dX12_slipped_32 : decode cX12_slipped 32 = .ok (.ifCond .ne 5, 3) := by decide +kernel
theorem dX12_slipped_35 : decode cX12_slipped 35 = .ok (.iconst (-1), 1) := by decide +kernel
theorem dX12_slipped_36 : decode cX12_slipped 36 = .ok (.ireturn, 1) := by decide +kernel
theorem dX12_slipped_37 : decode cX12_slipped 37 = .ok (.iload 4, 2) := by decide +kernel
theorem dX12_slipped_39 : decode cX12_slipped 39 = .ok (.ifCond .ne 10, 3) := by decide +kernel
theorem dX12_slipped_42 : decode cX12_slipped 42 = .ok (.aload_n 0, 1) := by decide +kernel
theorem dX12_slipped_43 : decode cX12_slipped 43 = .ok (.getfield 361, 3) := by decide +kernel
theorem dX12_slipped_46 : decode cX12_slipped 46 = .ok (.goto 42, 3) := by decide +kernel
theorem dX12_slipped_49 : decode cX12_slipped 49 = .ok (.iload 4, 2) := by decide +kernel
theorem dX12_slipped_51 : decode cX12_slipped 51 = .ok (.iconst 2, 1) := by decide +kernel
theorem dX12_slipped_52 : decode cX12_slipped 52 = .ok (.if_icmp .ne 19, 3) := by decide +kernel
theorem dX12_slipped_55 : decode cX12_slipped 55 = .ok (.aload_n 0, 1) := by decide +kernel
theorem dX12_slipped_56 : decode cX12_slipped 56 = .ok (.getfield 361, 3) := by decide +kernel
theorem dX12_slipped_59 : decode cX12_slipped 59 = .ok (.iconst 1, 1) := by decide +kernel
theorem dX12_slipped_60 : decode cX12_slipped 60 = .ok (.if_icmp .ne 7, 3) := by decide +kernel
theorem dX12_slipped_63 : decode cX12_slipped 63 = .ok (.iconst 1, 1) := by decide +kernel
theorem dX12_slipped_64 : decode cX12_slipped 64 = .ok (.goto 24, 3) := by decide +kernel
theorem dX12_slipped_67 : decode cX12_slipped 67 = .ok (.iconst 0, 1) := by decide +kernel
theorem dX12_slipped_68 : decode cX12_slipped 68 = .ok (.goto 20, 3) := by decide +kernel
theorem dX12_slipped_71 : decode cX12_slipped 71 = .ok (.aload_n 0, 1) := by decide +kernel
theorem dX12_slipped_72 : decode cX12_slipped 72 = .ok (.getfield 361, 3) := by decide +kernel
theorem dX12_slipped_75 : decode cX12_slipped 75 = .ok (.ifCond .ne 7, 3) := by decide +kernel
theorem dX12_slipped_78 : decode cX12_slipped 78 = .ok (.iconst (-1), 1) := by decide +kernel
theorem dX12_slipped_79 : decode cX12_slipped 79 = .ok (.goto 9, 3) := by decide +kernel
theorem dX12_slipped_82 : decode cX12_slipped 82 = .ok (.aload_n 0, 1) := by decide +kernel
theorem dX12_slipped_83 : decode cX12_slipped 83 = .ok (.getfield 112, 3) := by decide +kernel
theorem dX12_slipped_86 : decode cX12_slipped 86 = .ok (.iconst 0, 1) := by decide +kernel
theorem dX12_slipped_87 : decode cX12_slipped 87 = .ok (.iaload, 1) := by decide +kernel
theorem dX12_slipped_88 : decode cX12_slipped 88 = .ok (.ireturn, 1) := by decide +kernel
set_option maxHeartbeats 4000000 in
set_option maxRecDepth 100000 in
theorem s_X12_slipped {P : PP} {a0 : Nat} {a1 : Int32} {a2 : Int32} {a3 : Int32} {a4 : Int32} (I : IM P a0) (hW : MW P a0) : CtrI yX12_slipped cX12_slipped 5 (some Jvm.ClassFile.FieldType.int) ({ frames := 6, cells := 0, slots := 0, locals := 384 } : Room) 0 0 P [.ref a0, .int a1, .int a2, .int a3, .int a4] (fun r P2 => IM P2 a0 ∧ EM [0, 28, 29, 30, 31, 32, 35, 36, 37, 38, 39, 40] a0 P P2 ∧ MW P2 a0 ∧ (-1 ≤ r.toInt ∧ r.toInt ≤ 40)) := by
  refine enI (lv := [(0, .ref a0), (1, .int a1), (2, .int a2), (3, .int a3), (4, .int a4)]) (by decide) (Nat.le_of_ble_eq_true rfl) rfl (fun E D cy C Ci0 ret => ?_)
  have ha0 := I.2.1
  have J35 : ∀ (P35 : PP), (IM P35 a0) → (EM [0, 28, 29, 30, 31, 32, 35, 36, 37, 38, 39, 40] a0 P P35) → (MW P35 a0) → (0 ≤ (pI P35 a0 0).toInt ∧ (pI P35 a0 0).toInt ≤ 0) → G E ({ frames := 6, cells := 0, slots := 0, locals := 384 } : Room) D cy 5 P35 0 0 35 [] [] := by
    intro P35 I35 X35 W35 hq35_0
    have h102115 := X35.at ha0
    refine g_iconst (v := (-1)) C dX12_slipped_35 (by decide) ?_
    exact ret _ _ _ _ _ _ dX12_slipped_36 rfl (by decide) (by decide) ⟨I35, X35, W35, (by decide)⟩
  refine g_aload_n C dX12_slipped_0 rfl 0 rfl ?_
  refine g_iconst (v := 0) C dX12_slipped_1 (by decide) ?_
  refine g_putI C fi_X12_1 rfl (ha0).1 (ha0).2 dX12_slipped_2 ?_
  refine gqW (ks := [0]) (I.setI (rgOk.of rfl (by decide))) (EM.setI I (by decide)) (fun Y102116 Iy102117 Xy102118 w102119  => ?_)
  have w102119 : (pI Y102116 a0 0).toInt = 0 := w102119
  have W102120 := hW.keep I Xy102118 (by decide) (by decide) (by decide)
  have Xz102121 : EM [0, 28, 29, 30, 31, 32, 35, 36, 37, 38, 39, 40] a0 P Y102116 := Xy102118.mono (by decide)
  have h102122 := Xy102118.at ha0
  refine g_aload_n C dX12_slipped_5 rfl 0 rfl ?_
  refine g_iload_n C dX12_slipped_6 rfl 1 rfl ?_
  refine g_iload_n C dX12_slipped_7 rfl 2 rfl ?_
  refine g_iload_n C dX12_slipped_8 rfl 3 rfl ?_
  refine g_callVI (rest := []) C mv_X12_333 [.int a1, .int a2, .int a3] (s_X12_isAsked Iy102117 W102120) (h102122).1 (h102122).2 rfl rfl (by decide) (Nat.le_of_ble_eq_true rfl) (by decide) dX12_slipped_9 (fun r102123 Y102124 h102125 => ?_)
  obtain ⟨rfl, h102125⟩ := h102125
  obtain ⟨h102125, hi102126, hi102127⟩ := h102125
  have hi102126 : r102123.toInt = 0 ∨ (((0 : Int) ≤ a1.toInt ∧ a1.toInt ≤ (3 : Int)) ∧ ((0 : Int) ≤ a2.toInt ∧ a2.toInt ≤ (1 : Int)) ∧ ((0 : Int) ≤ a3.toInt ∧ a3.toInt ≤ (1 : Int))) := hi102126
  have h102125 : 0 ≤ r102123.toInt ∧ r102123.toInt ≤ 1 := h102125
  refine b_if_eq C 35 dX12_slipped_12 (by decide) (fun h102128 => ?_) (fun h102128 => ?_)
  · have h102128 : r102123.toInt = 0 := congrArg Int32.toInt h102128
    clear hi102126
    refine g_lv (lv' := []) [] rfl ?_
    exact J35 Y102116 Iy102117 Xz102121 W102120 (by omega)
  · have h102128 : r102123.toInt ≠ 0 := ti_ne h102128
    replace hi102126 := hi102126.resolve_left (by omega)
    obtain ⟨b102129, e102130, h102131⟩ := Iy102117.fld (h102122) 10 13 2 rfl
    have hi102127 := (hi102127.resolve_left (by omega)) b102129 e102130
    have hi102127 : 0 < (pI Y102116 b102129 (a2.toInt.toNat)).toInt := hi102127
    have h102132 := Iy102117.arr e102130 rfl (a2.toInt.toNat)
    refine g_iload C dX12_slipped_15 4 rfl ?_
    refine g_iconst (v := 0) C dX12_slipped_17 (by decide) ?_
    refine g_iconst (v := 2) C dX12_slipped_18 (by decide) ?_
    refine g_callSI (b := 0) (ci := 0) (rest := []) C ms_X12_178 [.int a4, .int 0, .int 2] (s_X12_within Iy102117.1) rfl rfl (by decide) (Nat.le_of_ble_eq_true rfl) (by decide) dX12_slipped_19 (fun r102133 Y102134 h102135 => ?_)
    obtain ⟨rfl, h102135⟩ := h102135
    obtain ⟨h102135, hi102136⟩ := h102135
    have hi102136 : r102133.toInt = 0 ∨ (0 ≤ a4.toInt ∧ a4.toInt ≤ 2) := hi102136
    have h102135 : 0 ≤ r102133.toInt ∧ r102133.toInt ≤ 1 := h102135
    refine b_if_eq C 35 dX12_slipped_22 (by decide) (fun h102137 => ?_) (fun h102137 => ?_)
    · have h102137 : r102133.toInt = 0 := congrArg Int32.toInt h102137
      clear hi102136
      refine g_lv (lv' := []) [] rfl ?_
      exact J35 Y102116 Iy102117 Xz102121 W102120 (by omega)
    · have h102137 : r102133.toInt ≠ 0 := ti_ne h102137
      replace hi102136 := hi102136.resolve_left (by omega)
      refine g_aload_n C dX12_slipped_25 rfl 0 rfl ?_
      refine g_iload_n C dX12_slipped_26 rfl 1 rfl ?_
      refine g_iload_n C dX12_slipped_27 rfl 2 rfl ?_
      refine g_iload_n C dX12_slipped_28 rfl 3 rfl ?_
      refine g_callVI (rest := []) C mv_X12_364 [.int a1, .int a2, .int a3] (s_X12_findSlipped Iy102117 (by omega) (by omega) (by omega) (fun b9 e9 => by rw [e102130] at e9; cases e9; show 1 ≤ (pI Y102116 b102129 (a2.toInt.toNat)).toInt ∧ (pI Y102116 b102129 (a2.toInt.toNat)).toInt ≤ 16; omega) W102120) (h102122).1 (h102122).2 rfl rfl (by decide) (Nat.le_of_ble_eq_true rfl) (by decide) dX12_slipped_29 (fun r102138 Y102139 h102140 => ?_)
      obtain ⟨Iy102141, Xy102142, W102143, h102140⟩ := h102140
      have q102144 := Xy102142.keepF 0 (by decide)
      have q102145 := Xy102142.keepA e102130 (by decide) rfl (a2.toInt.toNat)
      have Xz102146 : EM [0, 28, 29, 30, 31, 32, 35, 36, 37, 38, 39, 40] a0 P Y102139 := EM.tr ha0 Xz102121 (Xy102142.mono (by decide))
      have e102147 := Xy102142.ref h102122 (by decide) e102130
      have h102148 := Xy102142.at h102122
      have h102149 := Xy102142.ar h102131
      have h102140 : 0 ≤ r102138.toInt ∧ r102138.toInt ≤ 1 := h102140
      refine b_if_ne C 37 dX12_slipped_32 (by decide) (fun h102150 => ?_) (fun h102150 => ?_)
      · have h102150 : r102138.toInt ≠ 0 := ti_ne h102150
        refine g_iload C dX12_slipped_37 4 rfl ?_
        refine b_if_ne C 49 dX12_slipped_39 (by decide) (fun h102151 => ?_) (fun h102151 => ?_)
        · have h102151 : a4.toInt ≠ 0 := ti_ne h102151
          refine g_iload C dX12_slipped_49 4 rfl ?_
          refine g_iconst (v := 2) C dX12_slipped_51 (by decide) ?_
          refine b_icmp_ne C 71 dX12_slipped_52 (by decide) (fun h102152 => ?_) (fun h102152 => ?_)
          · have h102152 : a4.toInt ≠ 2 := ti_ne h102152
            refine g_aload_n C dX12_slipped_71 rfl 0 rfl ?_
            refine g_getI C fi_X12_361 (by decide) (h102148).1 (h102148).2 dX12_slipped_72 ?_
            have h102153 := Iy102141.rg (h102148) 39 rfl
            refine b_if_ne C 82 dX12_slipped_75 (by decide) (fun h102154 => ?_) (fun h102154 => ?_)
            · have h102154 : (pI Y102139 a0 39).toInt ≠ 0 := ti_ne h102154
              refine g_aload_n C dX12_slipped_82 rfl 0 rfl ?_
              obtain ⟨b102155, e102156, h102157⟩ := Iy102141.fld (h102148) 40 13 40 rfl
              refine g_getR C fi_X12_112 rfl e102156 (h102148).1 (h102148).2 dX12_slipped_83 ?_
              refine g_iconst (v := 0) C dX12_slipped_86 (by decide) ?_
              refine g_iald (j := 0) C h102157.1 h102157.2.1 (IX.litn (j := 0) h102157.2.2 rfl (by decide) (by decide)) dX12_slipped_87 ?_
              have h102158 := Iy102141.arr e102156 rfl 0
              exact ret _ _ _ _ _ _ dX12_slipped_88 rfl (by decide) (by decide) ⟨Iy102141, Xz102146, W102143, (by omega)⟩
            · have h102154 : (pI Y102139 a0 39).toInt = 0 := congrArg Int32.toInt h102154
              refine g_iconst (v := (-1)) C dX12_slipped_78 (by decide) ?_
              refine g_goto C 88 dX12_slipped_79 (by decide) ?_
              exact ret _ _ _ _ _ _ dX12_slipped_88 rfl (by decide) (by decide) ⟨Iy102141, Xz102146, W102143, (by decide)⟩
          · have h102152 : a4.toInt = 2 := congrArg Int32.toInt h102152
            refine g_aload_n C dX12_slipped_55 rfl 0 rfl ?_
            refine g_getI C fi_X12_361 (by decide) (h102148).1 (h102148).2 dX12_slipped_56 ?_
            have h102159 := Iy102141.rg (h102148) 39 rfl
            refine g_iconst (v := 1) C dX12_slipped_59 (by decide) ?_
            refine b_icmp_ne C 67 dX12_slipped_60 (by decide) (fun h102160 => ?_) (fun h102160 => ?_)
            · have h102160 : (pI Y102139 a0 39).toInt ≠ 1 := ti_ne h102160
              refine g_iconst (v := 0) C dX12_slipped_67 (by decide) ?_
              refine g_goto C 88 dX12_slipped_68 (by decide) ?_
              exact ret _ _ _ _ _ _ dX12_slipped_88 rfl (by decide) (by decide) ⟨Iy102141, Xz102146, W102143, (by decide)⟩
            · have h102160 : (pI Y102139 a0 39).toInt = 1 := congrArg Int32.toInt h102160
              refine g_iconst (v := 1) C dX12_slipped_63 (by decide) ?_
              refine g_goto C 88 dX12_slipped_64 (by decide) ?_
              exact ret _ _ _ _ _ _ dX12_slipped_88 rfl (by decide) (by decide) ⟨Iy102141, Xz102146, W102143, (by decide)⟩
        · have h102151 : a4.toInt = 0 := congrArg Int32.toInt h102151
          refine g_aload_n C dX12_slipped_42 rfl 0 rfl ?_
          refine g_getI C fi_X12_361 (by decide) (h102148).1 (h102148).2 dX12_slipped_43 ?_
          have h102161 := Iy102141.rg (h102148) 39 rfl
          refine g_goto C 88 dX12_slipped_46 (by decide) ?_
          exact ret _ _ _ _ _ _ dX12_slipped_88 rfl (by decide) (by decide) ⟨Iy102141, Xz102146, W102143, (by omega)⟩
      · have h102150 : r102138.toInt = 0 := congrArg Int32.toInt h102150
        refine g_lv (lv' := []) [] rfl ?_
        exact J35 Y102139 Iy102141 Xz102146 W102143 (by omega)
theorem dX12_solves_0 : decode cX12_solves 0 = .ok (.aload_n 0, 1) := by decide +kernel
theorem dX12_solves_1 : decode cX12_solves 1 = .ok (.iconst 0, 1) := by decide +kernel
theorem dX12_solves_2 : decode cX12_solves 2 = .ok (.putfield 1, 3) := by decide +kernel
theorem dX12_solves_5 : decode cX12_solves 5 = .ok (.aload_n 0, 1) := by decide +kernel
theorem dX12_solves_6 : decode cX12_solves 6 = .ok (.iload_n 1, 1) := by decide +kernel
theorem dX12_solves_7 : decode cX12_solves 7 = .ok (.iload_n 2, 1) := by decide +kernel
theorem dX12_solves_8 : decode cX12_solves 8 = .ok (.iload_n 3, 1) := by decide +kernel
theorem dX12_solves_9 : decode cX12_solves 9 = .ok (.invokevirtual 333, 3) := by decide +kernel
theorem dX12_solves_12 : decode cX12_solves 12 = .ok (.ifCond .eq 13, 3) := by decide +kernel
theorem dX12_solves_15 : decode cX12_solves 15 = .ok (.iload 4, 2) := by decide +kernel
theorem dX12_solves_17 : decode cX12_solves 17 = .ok (.iconst 0, 1) := by decide +kernel
theorem dX12_solves_18 : decode cX12_solves 18 = .ok (.iconst 3, 1) := by decide +kernel
theorem dX12_solves_19 : decode cX12_solves 19 = .ok (.invokestatic 178, 3) := by decide +kernel
theorem dX12_solves_22 : decode cX12_solves 22 = .ok (.ifCond .ne 5, 3) := by decide +kernel
theorem dX12_solves_25 : decode cX12_solves 25 = .ok (.iconst (-1), 1) := by decide +kernel
theorem dX12_solves_26 : decode cX12_solves 26 = .ok (.ireturn, 1) := by decide +kernel
theorem dX12_solves_27 : decode cX12_solves 27 = .ok (.aload_n 0, 1) := by decide +kernel
theorem dX12_solves_28 : decode cX12_solves 28 = .ok (.invokevirtual 336, 3) := by decide +kernel
theorem dX12_solves_31 : decode cX12_solves 31 = .ok (.aload_n 0, 1) := by decide +kernel
theorem dX12_solves_32 : decode cX12_solves 32 = .ok (.iload_n 1, 1) := by decide +kernel
theorem dX12_solves_33 : decode cX12_solves 33 = .ok (.iload_n 2, 1) := by decide +kernel
theorem dX12_solves_34 : decode cX12_solves 34 = .ok (.iload_n 3, 1) := by decide +kernel
theorem dX12_solves_35 : decode cX12_solves 35 = .ok (.aload_n 0, 1) := by decide +kernel
theorem dX12_solves_36 : decode cX12_solves 36 = .ok (.getfield 69, 3) := by decide +kernel
theorem dX12_solves_39 : decode cX12_solves 39 = .ok (.iload_n 1, 1) := by decide +kernel
theorem dX12_solves_40 : decode cX12_solves 40 = .ok (.iaload, 1) := by decide +kernel
theorem dX12_solves_41 : decode cX12_solves 41 = .ok (.invokevirtual 339, 3) := by decide +kernel
theorem dX12_solves_44 : decode cX12_solves 44 = .ok (.aload_n 0, 1) := by decide +kernel
theorem dX12_solves_45 : decode cX12_solves 45 = .ok (.invokevirtual 346, 3) := by decide +kernel
theorem dX12_solves_48 : decode cX12_solves 48 = .ok (.iload 4, 2) := by decide +kernel
theorem dX12_solves_50 : decode cX12_solves 50 = .ok (.ifCond .ne 10, 3) := by decide +kernel
theorem dX12_solves_53 : decode cX12_solves 53 = .ok (.aload_n 0, 1) := by decide +kernel
theorem dX12_solves_54 : decode cX12_solves 54 = .ok (.invokevirtual 349, 3) := by decide +kernel
theorem dX12_solves_57 : decode cX12_solves 57 = .ok (.goto 47, 3) := by decide +kernel
theorem dX12_solves_60 : decode cX12_solves 60 = .ok (.iload 4, 2) := by decide +kernel
theorem dX12_solves_62 : decode cX12_solves 62 = .ok (.iconst 1, 1) := by decide +kernel
theorem dX12_solves_63 : decode cX12_solves 63 = .ok (.if_icmp .ne 18, 3) := by decide +kernel
theorem dX12_solves_66 : decode cX12_solves 66 = .ok (.aload_n 0, 1) := by decide +kernel
theorem dX12_solves_67 : decode cX12_solves 67 = .ok (.getfield 326, 3) := by decide +kernel
theorem dX12_solves_70 : decode cX12_solves 70 = .ok (.ifCond .eq 7, 3) := by decide +kernel
theorem dX12_solves_73 : decode cX12_solves 73 = .ok (.iconst 1, 1) := by decide +kernel
theorem dX12_solves_74 : decode cX12_solves 74 = .ok (.goto 30, 3) := by decide +kernel
theorem dX12_solves_77 : decode cX12_solves 77 = .ok (.iconst 0, 1) := by decide +kernel
theorem dX12_solves_78 : decode cX12_solves 78 = .ok (.goto 26, 3) := by decide +kernel
theorem dX12_solves_81 : decode cX12_solves 81 = .ok (.iload 4, 2) := by decide +kernel
theorem dX12_solves_83 : decode cX12_solves 83 = .ok (.iconst 2, 1) := by decide +kernel
theorem dX12_solves_84 : decode cX12_solves 84 = .ok (.if_icmp .ne 10, 3) := by decide +kernel
theorem dX12_solves_87 : decode cX12_solves 87 = .ok (.aload_n 0, 1) := by decide +kernel
theorem dX12_solves_88 : decode cX12_solves 88 = .ok (.getfield 324, 3) := by decide +kernel
theorem dX12_solves_91 : decode cX12_solves 91 = .ok (.goto 13, 3) := by decide +kernel
theorem dX12_solves_94 : decode cX12_solves 94 = .ok (.aload_n 0, 1) := by decide +kernel
theorem dX12_solves_95 : decode cX12_solves 95 = .ok (.iload_n 2, 1) := by decide +kernel
theorem dX12_solves_96 : decode cX12_solves 96 = .ok (.invokevirtual 238, 3) := by decide +kernel
theorem dX12_solves_99 : decode cX12_solves 99 = .ok (.aload_n 0, 1) := by decide +kernel
theorem dX12_solves_100 : decode cX12_solves 100 = .ok (.getfield 324, 3) := by decide +kernel
theorem dX12_solves_103 : decode cX12_solves 103 = .ok (.isub, 1) := by decide +kernel
theorem dX12_solves_104 : decode cX12_solves 104 = .ok (.ireturn, 1) := by decide +kernel
set_option maxHeartbeats 4000000 in
set_option maxRecDepth 100000 in
theorem s_X12_solves {P : PP} {a0 : Nat} {a1 : Int32} {a2 : Int32} {a3 : Int32} {a4 : Int32} (I : IM P a0) (hW : MW P a0) : CtrI yX12_solves cX12_solves 5 (some Jvm.ClassFile.FieldType.int) ({ frames := 5, cells := 0, slots := 0, locals := 320 } : Room) 0 0 P [.ref a0, .int a1, .int a2, .int a3, .int a4] (fun r P2 => IM P2 a0 ∧ EM [0, 28, 29, 30, 31, 32, 35, 36, 37, 38] a0 P P2 ∧ MW P2 a0 ∧ (True)) := by
  refine enI (lv := [(0, .ref a0), (1, .int a1), (2, .int a2), (3, .int a3), (4, .int a4)]) (by decide) (Nat.le_of_ble_eq_true rfl) rfl (fun E D cy C Ci0 ret => ?_)
  have ha0 := I.2.1
  have J25 : ∀ (P25 : PP), (IM P25 a0) → (EM [0, 28, 29, 30, 31, 32, 35, 36, 37, 38] a0 P P25) → (MW P25 a0) → (0 ≤ (pI P25 a0 0).toInt ∧ (pI P25 a0 0).toInt ≤ 0) → G E ({ frames := 5, cells := 0, slots := 0, locals := 320 } : Room) D cy 5 P25 0 0 25 [] [] := by
    intro P25 I25 X25 W25 hq25_0
    have h102256 := X25.at ha0
    refine g_iconst (v := (-1)) C dX12_solves_25 (by decide) ?_
    exact ret _ _ _ _ _ _ dX12_solves_26 rfl (by decide) (by decide) ⟨I25, X25, W25, trivial⟩
  refine g_aload_n C dX12_solves_0 rfl 0 rfl ?_
  refine g_iconst (v := 0) C dX12_solves_1 (by decide) ?_
  refine g_putI C fi_X12_1 rfl (ha0).1 (ha0).2 dX12_solves_2 ?_
  refine gqW (ks := [0]) (I.setI (rgOk.of rfl (by decide))) (EM.setI I (by decide)) (fun Y102257 Iy102258 Xy102259 w102260  => ?_)
  have w102260 : (pI Y102257 a0 0).toInt = 0 := w102260
  have W102261 := hW.keep I Xy102259 (by decide) (by decide) (by decide)
  have Xz102262 : EM [0, 28, 29, 30, 31, 32, 35, 36, 37, 38] a0 P Y102257 := Xy102259.mono (by decide)
  have h102263 := Xy102259.at ha0
  refine g_aload_n C dX12_solves_5 rfl 0 rfl ?_
  refine g_iload_n C dX12_solves_6 rfl 1 rfl ?_
  refine g_iload_n C dX12_solves_7 rfl 2 rfl ?_
  refine g_iload_n C dX12_solves_8 rfl 3 rfl ?_
  refine g_callVI (rest := []) C mv_X12_333 [.int a1, .int a2, .int a3] (s_X12_isAsked Iy102258 W102261) (h102263).1 (h102263).2 rfl rfl (by decide) (Nat.le_of_ble_eq_true rfl) (by decide) dX12_solves_9 (fun r102264 Y102265 h102266 => ?_)
  obtain ⟨rfl, h102266⟩ := h102266
  obtain ⟨h102266, hi102267, hi102268⟩ := h102266
  have hi102267 : r102264.toInt = 0 ∨ (((0 : Int) ≤ a1.toInt ∧ a1.toInt ≤ (3 : Int)) ∧ ((0 : Int) ≤ a2.toInt ∧ a2.toInt ≤ (1 : Int)) ∧ ((0 : Int) ≤ a3.toInt ∧ a3.toInt ≤ (1 : Int))) := hi102267
  have h102266 : 0 ≤ r102264.toInt ∧ r102264.toInt ≤ 1 := h102266
  refine b_if_eq C 25 dX12_solves_12 (by decide) (fun h102269 => ?_) (fun h102269 => ?_)
  · have h102269 : r102264.toInt = 0 := congrArg Int32.toInt h102269
    clear hi102267
    refine g_lv (lv' := []) [] rfl ?_
    exact J25 Y102257 Iy102258 Xz102262 W102261 (by omega)
  · have h102269 : r102264.toInt ≠ 0 := ti_ne h102269
    replace hi102267 := hi102267.resolve_left (by omega)
    obtain ⟨b102270, e102271, h102272⟩ := Iy102258.fld (h102263) 10 13 2 rfl
    have hi102268 := (hi102268.resolve_left (by omega)) b102270 e102271
    have hi102268 : 0 < (pI Y102257 b102270 (a2.toInt.toNat)).toInt := hi102268
    have h102273 := Iy102258.arr e102271 rfl (a2.toInt.toNat)
    refine g_iload C dX12_solves_15 4 rfl ?_
    refine g_iconst (v := 0) C dX12_solves_17 (by decide) ?_
    refine g_iconst (v := 3) C dX12_solves_18 (by decide) ?_
    refine g_callSI (b := 0) (ci := 0) (rest := []) C ms_X12_178 [.int a4, .int 0, .int 3] (s_X12_within Iy102258.1) rfl rfl (by decide) (Nat.le_of_ble_eq_true rfl) (by decide) dX12_solves_19 (fun r102274 Y102275 h102276 => ?_)
    obtain ⟨rfl, h102276⟩ := h102276
    obtain ⟨h102276, hi102277⟩ := h102276
    have hi102277 : r102274.toInt = 0 ∨ (0 ≤ a4.toInt ∧ a4.toInt ≤ 3) := hi102277
    have h102276 : 0 ≤ r102274.toInt ∧ r102274.toInt ≤ 1 := h102276
    refine b_if_ne C 27 dX12_solves_22 (by decide) (fun h102278 => ?_) (fun h102278 => ?_)
    · have h102278 : r102274.toInt ≠ 0 := ti_ne h102278
      replace hi102277 := hi102277.resolve_left (by omega)
      refine g_aload_n C dX12_solves_27 rfl 0 rfl ?_
      refine g_callVV (rest := []) C mv_X12_336 [] (s_X12_leavesNone Iy102258 W102261) (h102263).1 (h102263).2 rfl rfl (by decide) (Nat.le_of_ble_eq_true rfl) (by decide) dX12_solves_28 (fun Y102280 h102281 => ?_)
      obtain ⟨Iy102282, Xy102283, W102284⟩ := h102281
      have q102285 := Xy102283.keepF 0 (by decide)
      have q102286 := Xy102283.keepA e102271 (by decide) rfl (a2.toInt.toNat)
      have Xz102287 : EM [0, 28, 29, 30, 31, 32, 35, 36, 37, 38] a0 P Y102280 := EM.tr ha0 Xz102262 (Xy102283.mono (by decide))
      have e102288 := Xy102283.ref h102263 (by decide) e102271
      have h102289 := Xy102283.at h102263
      have h102290 := Xy102283.ar h102272
      refine g_aload_n C dX12_solves_31 rfl 0 rfl ?_
      refine g_iload_n C dX12_solves_32 rfl 1 rfl ?_
      refine g_iload_n C dX12_solves_33 rfl 2 rfl ?_
      refine g_iload_n C dX12_solves_34 rfl 3 rfl ?_
      refine g_aload_n C dX12_solves_35 rfl 0 rfl ?_
      obtain ⟨b102291, e102292, h102293⟩ := Iy102282.fld (h102289) 20 13 20 rfl
      refine g_getR C fi_X12_69 rfl e102292 (h102289).1 (h102289).2 dX12_solves_36 ?_
      refine g_iload_n C dX12_solves_39 rfl 1 rfl ?_
      refine g_iald (j := (a1.toInt.toNat)) C h102293.1 h102293.2.1 (ix_in h102293.2.2 (by omega)) dX12_solves_40 ?_
      have h102294 := Iy102282.arr e102292 rfl (a1.toInt.toNat)
      refine g_callVV (rest := []) C mv_X12_339 [.int a1, .int a2, .int a3, .int (pI Y102280 b102291 (a1.toInt.toNat))] (s_X12_gathers Iy102282 (by omega) (by omega) (by omega) (fun b9 e9 => by rw [e102288] at e9; cases e9; show 1 ≤ (pI Y102280 b102270 (a2.toInt.toNat)).toInt ∧ (pI Y102280 b102270 (a2.toInt.toNat)).toInt ≤ 16; omega) W102284) (h102289).1 (h102289).2 rfl rfl (by decide) (Nat.le_of_ble_eq_true rfl) (by decide) dX12_solves_41 (fun Y102296 h102297 => ?_)
      obtain ⟨Iy102298, Xy102299, W102300, p102301, p102302⟩ := h102297
      have p102301 : (pI Y102296 a0 28).toInt ≤ 4 + (pI Y102280 b102291 (a1.toInt.toNat)).toInt := p102301
      have q102303 := Xy102299.keepF 0 (by decide)
      have q102304 := Xy102299.keepA e102288 (by decide) rfl (a2.toInt.toNat)
      have q102305 := Xy102299.keepA e102292 (by decide) rfl (a1.toInt.toNat)
      have Xz102306 : EM [0, 28, 29, 30, 31, 32, 35, 36, 37, 38] a0 P Y102296 := EM.tr ha0 Xz102287 (Xy102299.mono (by decide))
      have e102307 := Xy102299.ref h102289 (by decide) e102288
      have e102308 := Xy102299.ref h102289 (by decide) e102292
      have h102309 := Xy102299.at h102289
      have h102310 := Xy102299.ar h102290
      have h102311 := Xy102299.ar h102293
      obtain ⟨b102312, e102313, h102314⟩ := Iy102298.fld (h102309) 22 13 800 rfl
      have p102302 := p102302 b102312 e102313
      rw [Xz102306.2.2.2 22 (by decide) rfl b102312 (EM.refB Xz102306 ha0 e102313)] at p102302
      have p102302 : (pI Y102296 a0 28).toInt ≤ 4 + kC (pI P b102312) (40 * a1.toInt).toNat a2.toInt ((pI Y102280 b102291 (a1.toInt.toNat)).toInt : Int).toNat := p102302
      have h102315 := Iy102298.rg h102309 28 rfl
      refine g_aload_n C dX12_solves_44 rfl 0 rfl ?_
      refine g_callVV (rest := []) C mv_X12_346 [] (s_X12_findSolved Iy102298 W102300) (h102309).1 (h102309).2 rfl rfl (by decide) (Nat.le_of_ble_eq_true rfl) (by decide) dX12_solves_45 (fun Y102317 h102318 => ?_)
      obtain ⟨Iy102319, Xy102320, W102321⟩ := h102318
      have q102322 := Xy102320.keepF 0 (by decide)
      have q102323 := Xy102320.keepA e102307 (by decide) rfl (a2.toInt.toNat)
      have q102324 := Xy102320.keepA e102308 (by decide) rfl (a1.toInt.toNat)
      have q102325 := Xy102320.keepF 28 (by decide)
      have Xz102326 : EM [0, 28, 29, 30, 31, 32, 35, 36, 37, 38] a0 P Y102317 := EM.tr ha0 Xz102306 (Xy102320.mono (by decide))
      have e102327 := Xy102320.ref h102309 (by decide) e102307
      have e102328 := Xy102320.ref h102309 (by decide) e102308
      have h102329 := Xy102320.at h102309
      have h102330 := Xy102320.ar h102310
      have h102331 := Xy102320.ar h102311
      refine g_iload C dX12_solves_48 4 rfl ?_
      refine b_if_ne C 60 dX12_solves_50 (by decide) (fun h102332 => ?_) (fun h102332 => ?_)
      · have h102332 : a4.toInt ≠ 0 := ti_ne h102332
        refine g_iload C dX12_solves_60 4 rfl ?_
        refine g_iconst (v := 1) C dX12_solves_62 (by decide) ?_
        refine b_icmp_ne C 81 dX12_solves_63 (by decide) (fun h102333 => ?_) (fun h102333 => ?_)
        · have h102333 : a4.toInt ≠ 1 := ti_ne h102333
          refine g_iload C dX12_solves_81 4 rfl ?_
          refine g_iconst (v := 2) C dX12_solves_83 (by decide) ?_
          refine b_icmp_ne C 94 dX12_solves_84 (by decide) (fun h102334 => ?_) (fun h102334 => ?_)
          · have h102334 : a4.toInt ≠ 2 := ti_ne h102334
            refine g_aload_n C dX12_solves_94 rfl 0 rfl ?_
            refine g_iload_n C dX12_solves_95 rfl 2 rfl ?_
            refine g_callVI (rest := []) C mv_X12_238 [.int a2] (s_X12_allOf Iy102319 (by omega) W102321) (h102329).1 (h102329).2 rfl rfl (by decide) (Nat.le_of_ble_eq_true rfl) (by decide) dX12_solves_96 (fun r102335 Y102336 h102337 => ?_)
            obtain ⟨rfl, h102337⟩ := h102337
            obtain ⟨h102337, hi102338⟩ := h102337
            obtain ⟨b102339, e102340, h102341⟩ := Iy102319.fld (h102329) 15 13 3 rfl
            have hi102338 : (r102335.toInt = 0 ∧ (pI Y102317 b102270 (a2.toInt.toNat)).toInt = 0) ∨ r102335.toInt = (pI Y102317 b102270 (a2.toInt.toNat)).toInt + (pI Y102317 b102339 (a2.toInt.toNat)).toInt := hi102338 b102270 b102339 e102327 e102340
            have h102342 := Iy102319.arr e102340 rfl (a2.toInt.toNat)
            have h102337 : 0 ≤ r102335.toInt ∧ r102335.toInt ≤ 20 := h102337
            refine g_aload_n C dX12_solves_99 rfl 0 rfl ?_
            refine g_getI C fi_X12_324 (by decide) (h102329).1 (h102329).2 dX12_solves_100 ?_
            refine a_isub C dX12_solves_103 (fun z102343 => ?_)
            exact ret _ _ _ _ _ _ dX12_solves_104 rfl (by decide) (by decide) ⟨Iy102319, Xz102326, W102321, trivial⟩
          · have h102334 : a4.toInt = 2 := congrArg Int32.toInt h102334
            refine g_aload_n C dX12_solves_87 rfl 0 rfl ?_
            refine g_getI C fi_X12_324 (by decide) (h102329).1 (h102329).2 dX12_solves_88 ?_
            refine g_goto C 104 dX12_solves_91 (by decide) ?_
            exact ret _ _ _ _ _ _ dX12_solves_104 rfl (by decide) (by decide) ⟨Iy102319, Xz102326, W102321, trivial⟩
        · have h102333 : a4.toInt = 1 := congrArg Int32.toInt h102333
          refine g_aload_n C dX12_solves_66 rfl 0 rfl ?_
          refine g_getI C fi_X12_326 (by decide) (h102329).1 (h102329).2 dX12_solves_67 ?_
          have h102345 := Iy102319.rg (h102329) 36 rfl
          refine b_if_eq C 77 dX12_solves_70 (by decide) (fun h102346 => ?_) (fun h102346 => ?_)
          · have h102346 : (pI Y102317 a0 36).toInt = 0 := congrArg Int32.toInt h102346
            refine g_iconst (v := 0) C dX12_solves_77 (by decide) ?_
            refine g_goto C 104 dX12_solves_78 (by decide) ?_
            exact ret _ _ _ _ _ _ dX12_solves_104 rfl (by decide) (by decide) ⟨Iy102319, Xz102326, W102321, trivial⟩
          · have h102346 : (pI Y102317 a0 36).toInt ≠ 0 := ti_ne h102346
            refine g_iconst (v := 1) C dX12_solves_73 (by decide) ?_
            refine g_goto C 104 dX12_solves_74 (by decide) ?_
            exact ret _ _ _ _ _ _ dX12_solves_104 rfl (by decide) (by decide) ⟨Iy102319, Xz102326, W102321, trivial⟩
      · have h102332 : a4.toInt = 0 := congrArg Int32.toInt h102332
        refine g_aload_n C dX12_solves_53 rfl 0 rfl ?_
        refine g_callVI (rest := []) C mv_X12_349 [] (s_X12_fixedSet Iy102319 W102321) (h102329).1 (h102329).2 rfl rfl (by decide) (Nat.le_of_ble_eq_true rfl) (by decide) dX12_solves_54 (fun r102347 Y102348 h102349 => ?_)
        obtain ⟨rfl, h102349⟩ := h102349
        have h102349 : True := h102349
        refine g_goto C 104 dX12_solves_57 (by decide) ?_
        exact ret _ _ _ _ _ _ dX12_solves_104 rfl (by decide) (by decide) ⟨Iy102319, Xz102326, W102321, trivial⟩
    · have h102278 : r102274.toInt = 0 := congrArg Int32.toInt h102278
      clear hi102277
      refine g_lv (lv' := []) [] rfl ?_
      exact J25 Y102257 Iy102258 Xz102262 W102261 (by omega)
theorem dX12_soon_0 : decode cX12_soon 0 = .ok (.aload_n 0, 1) := by decide +kernel
theorem dX12_soon_1 : decode cX12_soon 1 = .ok (.iconst 0, 1) := by decide +kernel
theorem dX12_soon_2 : decode cX12_soon 2 = .ok (.putfield 1, 3) := by decide +kernel
theorem dX12_soon_5 : decode cX12_soon 5 = .ok (.iload_n 1, 1) := by decide +kernel
theorem dX12_soon_6 : decode cX12_soon 6 = .ok (.invokestatic 278, 3) := by decide +kernel
theorem dX12_soon_9 : decode cX12_soon 9 = .ok (.ifCond .eq 30, 3) := by decide +kernel
theorem dX12_soon_12 : decode cX12_soon 12 = .ok (.aload_n 0, 1) := by decide +kernel
theorem dX12_soon_13 : decode cX12_soon 13 = .ok (.iload_n 2, 1) := by decide +kernel
theorem dX12_soon_14 : decode cX12_soon 14 = .ok (.invokevirtual 192, 3) := by decide +kernel
theorem dX12_soon_17 : decode cX12_soon 17 = .ok (.ifCond .eq 22, 3) := by decide +kernel
theorem dX12_soon_20 : decode cX12_soon 20 = .ok (.aload_n 0, 1) := by decide +kernel
theorem dX12_soon_21 : decode cX12_soon 21 = .ok (.iload_n 2, 1) := by decide +kernel
theorem dX12_soon_22 : decode cX12_soon 22 = .ok (.iload_n 3, 1) := by decide +kernel
theorem dX12_soon_23 : decode cX12_soon 23 = .ok (.invokevirtual 352, 3) := by decide +kernel
theorem dX12_soon_26 : decode cX12_soon 26 = .ok (.ifCond .eq 13, 3) := by decide +kernel
theorem dX12_soon_29 : decode cX12_soon 29 = .ok (.iload 4, 2) := by decide +kernel
theorem dX12_soon_31 : decode cX12_soon 31 = .ok (.iconst 0, 1) := by decide +kernel
theorem dX12_soon_32 : decode cX12_soon 32 = .ok (.iconst 1, 1) := by decide +kernel
theorem dX12_soon_33 : decode cX12_soon 33 = .ok (.invokestatic 178, 3) := by decide +kernel
theorem dX12_soon_36 : decode cX12_soon 36 = .ok (.ifCond .ne 5, 3) := by decide +kernel
theorem dX12_soon_39 : decode cX12_soon 39 = .ok (.iconst (-1), 1) := by decide +kernel
theorem dX12_soon_40 : decode cX12_soon 40 = .ok (.ireturn, 1) := by decide +kernel
theorem dX12_soon_41 : decode cX12_soon 41 = .ok (.aload_n 0, 1) := by decide +kernel
theorem dX12_soon_42 : decode cX12_soon 42 = .ok (.invokevirtual 336, 3) := by decide +kernel
theorem dX12_soon_45 : decode cX12_soon 45 = .ok (.iconst 0, 1) := by decide +kernel
theorem dX12_soon_46 : decode cX12_soon 46 = .ok (.istore 5, 2) := by decide +kernel
theorem dX12_soon_48 : decode cX12_soon 48 = .ok (.iload 5, 2) := by decide +kernel
theorem dX12_soon_50 : decode cX12_soon 50 = .ok (.aload_n 0, 1) := by decide +kernel
theorem dX12_soon_51 : decode cX12_soon 51 = .ok (.getfield 69, 3) := by decide +kernel
theorem dX12_soon_54 : decode cX12_soon 54 = .ok (.iload_n 1, 1) := by decide +kernel
theorem dX12_soon_55 : decode cX12_soon 55 = .ok (.iaload, 1) := by decide +kernel
theorem dX12_soon_56 : decode cX12_soon 56 = .ok (.if_icmp .gt 26, 3) := by decide +kernel
theorem dX12_soon_59 : decode cX12_soon 59 = .ok (.aload_n 0, 1) := by decide +kernel
theorem dX12_soon_60 : decode cX12_soon 60 = .ok (.iload_n 1, 1) := by decide +kernel
theorem dX12_soon_61 : decode cX12_soon 61 = .ok (.iload_n 2, 1) := by decide +kernel
theorem dX12_soon_62 : decode cX12_soon 62 = .ok (.iload_n 3, 1) := by decide +kernel
theorem dX12_soon_63 : decode cX12_soon 63 = .ok (.iload 4, 2) := by decide +kernel
theorem dX12_soon_65 : decode cX12_soon 65 = .ok (.iload 5, 2) := by decide +kernel
theorem dX12_soon_67 : decode cX12_soon 67 = .ok (.invokevirtual 355, 3) := by decide +kernel
theorem dX12_soon_70 : decode cX12_soon 70 = .ok (.ifCond .lt 6, 3) := by decide +kernel
theorem dX12_soon_73 : decode cX12_soon 73 = .ok (.iload 5, 2) := by decide +kernel
theorem dX12_soon_75 : decode cX12_soon 75 = .ok (.ireturn, 1) := by decide +kernel
theorem dX12_soon_76 : decode cX12_soon 76 = .ok (.iinc 5 1, 3) := by decide +kernel
theorem dX12_soon_79 : decode cX12_soon 79 = .ok (.goto (-31), 3) := by decide +kernel
theorem dX12_soon_82 : decode cX12_soon 82 = .ok (.iconst (-1), 1) := by decide +kernel
theorem dX12_soon_83 : decode cX12_soon 83 = .ok (.ireturn, 1) := by decide +kernel
set_option maxHeartbeats 4000000 in
set_option maxRecDepth 100000 in
theorem s_X12_soon {P : PP} {a0 : Nat} {a1 : Int32} {a2 : Int32} {a3 : Int32} {a4 : Int32} (I : IM P a0) (hW : MW P a0) : CtrI yX12_soon cX12_soon 6 (some Jvm.ClassFile.FieldType.int) ({ frames := 6, cells := 0, slots := 0, locals := 384 } : Room) 0 0 P [.ref a0, .int a1, .int a2, .int a3, .int a4] (fun r P2 => IM P2 a0 ∧ EM [0, 28, 29, 30, 31, 32, 33, 34, 35, 36, 37, 38] a0 P P2 ∧ MW P2 a0 ∧ (-1 ≤ r.toInt ∧ r.toInt ≤ 40)) := by
  refine enI (lv := [(0, .ref a0), (1, .int a1), (2, .int a2), (3, .int a3), (4, .int a4)]) (by decide) (Nat.le_of_ble_eq_true rfl) rfl (fun E D cy C Ci0 ret => ?_)
  have ha0 := I.2.1
  have J48 : ∀ (n48 : Nat) (P48 : PP) (v48_5 : Int32), (41 - v48_5.toInt).toNat < n48 → (IM P48 a0) → (EM [0, 28, 29, 30, 31, 32, 33, 34, 35, 36, 37, 38] a0 P P48) → (MW P48 a0) → (0 ≤ a1.toInt ∧ a1.toInt ≤ 3) → (0 ≤ a2.toInt ∧ a2.toInt ≤ 1) → (0 ≤ a3.toInt ∧ a3.toInt ≤ 19) → (0 ≤ a4.toInt ∧ a4.toInt ≤ 1) → (0 ≤ v48_5.toInt ∧ v48_5.toInt ≤ 41) → (0 ≤ (pI P48 a0 0).toInt ∧ (pI P48 a0 0).toInt ≤ 0) → (∀ b, pR P48 a0 10 = some b → 1 ≤ (pI P48 b (a2.toInt.toNat)).toInt ∧ (pI P48 b (a2.toInt.toNat)).toInt ≤ 16) → G E ({ frames := 6, cells := 0, slots := 0, locals := 384 } : Room) D cy 6 P48 0 0 48 [(0, .ref a0), (1, .int a1), (2, .int a2), (3, .int a3), (4, .int a4), (5, .int v48_5)] [] := by
    intro n48
    induction n48 with
    | zero => intro P48 v48_5 hm48 I48 X48 W48 hv48_1 hv48_2 hv48_3 hv48_4 hv48_5 hq48_0 hq48_1; omega
    | succ n48 ih48 =>
      intro P48 v48_5 hm48 I48 X48 W48 hv48_1 hv48_2 hv48_3 hv48_4 hv48_5 hq48_0 hq48_1
      have h102843 := X48.at ha0
      obtain ⟨b102844, e102845, h102846⟩ := I48.fld (h102843) 10 13 2 rfl
      have hq48_1 := hq48_1 b102844 e102845
      refine g_iload C dX12_soon_48 5 rfl ?_
      refine g_aload_n C dX12_soon_50 rfl 0 rfl ?_
      obtain ⟨b102847, e102848, h102849⟩ := I48.fld (h102843) 20 13 20 rfl
      refine g_getR C fi_X12_69 rfl e102848 (h102843).1 (h102843).2 dX12_soon_51 ?_
      refine g_iload_n C dX12_soon_54 rfl 1 rfl ?_
      refine g_iald (j := (a1.toInt.toNat)) C h102849.1 h102849.2.1 (ix_in h102849.2.2 (by omega)) dX12_soon_55 ?_
      have h102850 := I48.arr e102848 rfl (a1.toInt.toNat)
      refine b_icmp_gt C 82 dX12_soon_56 (by decide) (fun h102851 => ?_) (fun h102851 => ?_)
      · have h102851 : (pI P48 b102847 (a1.toInt.toNat)).toInt < v48_5.toInt := h102851
        refine g_iconst (v := (-1)) C dX12_soon_82 (by decide) ?_
        exact ret _ _ _ _ _ _ dX12_soon_83 rfl (by decide) (by decide) ⟨I48, X48, W48, (by decide)⟩
      · have h102851 : v48_5.toInt ≤ (pI P48 b102847 (a1.toInt.toNat)).toInt := h102851
        refine g_aload_n C dX12_soon_59 rfl 0 rfl ?_
        refine g_iload_n C dX12_soon_60 rfl 1 rfl ?_
        refine g_iload_n C dX12_soon_61 rfl 2 rfl ?_
        refine g_iload_n C dX12_soon_62 rfl 3 rfl ?_
        refine g_iload C dX12_soon_63 4 rfl ?_
        refine g_iload C dX12_soon_65 5 rfl ?_
        refine g_callVI (rest := []) C mv_X12_355 [.int a1, .int a2, .int a3, .int a4, .int v48_5] (s_X12_readBy I48 (by omega) (by omega) (by omega) (by omega) (fun b9 e9 => by rw [e102845] at e9; cases e9; show 1 ≤ (pI P48 b102844 (a2.toInt.toNat)).toInt ∧ (pI P48 b102844 (a2.toInt.toNat)).toInt ≤ 16; omega) W48) (h102843).1 (h102843).2 rfl rfl (by decide) (Nat.le_of_ble_eq_true rfl) (by decide) dX12_soon_67 (fun r102852 Y102853 h102854 => ?_)
        obtain ⟨Iy102855, Xy102856, W102857, h102854⟩ := h102854
        have q102858 := Xy102856.keepF 0 (by decide)
        have q102859 := Xy102856.keepA e102845 (by decide) rfl (a2.toInt.toNat)
        have q102860 := Xy102856.keepA e102848 (by decide) rfl (a1.toInt.toNat)
        have Xz102861 : EM [0, 28, 29, 30, 31, 32, 33, 34, 35, 36, 37, 38] a0 P Y102853 := EM.tr ha0 X48 (Xy102856.mono (by decide))
        have e102862 := Xy102856.ref h102843 (by decide) e102845
        have e102863 := Xy102856.ref h102843 (by decide) e102848
        have h102864 := Xy102856.at h102843
        have h102865 := Xy102856.ar h102846
        have h102866 := Xy102856.ar h102849
        have h102854 : True := h102854
        have u102868 := ti_rng r102852
        refine b_if_lt C 76 dX12_soon_70 (by decide) (fun h102867 => ?_) (fun h102867 => ?_)
        · have h102867 : r102852.toInt < 0 := h102867
          refine s_iinc (lv0 := [(0, .ref a0), (1, .int a1), (2, .int a2), (3, .int a3), (4, .int a4)]) (m := 1) C dX12_soon_76 5 rfl (by decide) rfl (by decide) (by omega) (fun z102869 h102870 => ?_)
          have h102870 : z102869.toInt = v48_5.toInt + 1 := h102870
          refine g_goto C 48 dX12_soon_79 (by decide) ?_
          refine g_lv (lv' := [(0, .ref a0), (1, .int a1), (2, .int a2), (3, .int a3), (4, .int a4), (5, .int z102869)]) [1, 2, 3, 4, 5, 0] rfl ?_
          exact ih48 Y102853 z102869 (by omega) Iy102855 Xz102861 W102857 (by omega) (by omega) (by omega) (by omega) (by omega) (by omega) (fun b9 e9 => by rw [e102862] at e9; cases e9; omega)
        · have h102867 : 0 ≤ r102852.toInt := h102867
          refine g_iload C dX12_soon_73 5 rfl ?_
          exact ret _ _ _ _ _ _ dX12_soon_75 rfl (by decide) (by decide) ⟨Iy102855, Xz102861, W102857, (by omega)⟩
  have J39 : ∀ (P39 : PP), (IM P39 a0) → (EM [0, 28, 29, 30, 31, 32, 33, 34, 35, 36, 37, 38] a0 P P39) → (MW P39 a0) → (0 ≤ (pI P39 a0 0).toInt ∧ (pI P39 a0 0).toInt ≤ 0) → G E ({ frames := 6, cells := 0, slots := 0, locals := 384 } : Room) D cy 6 P39 0 0 39 [] [] := by
    intro P39 I39 X39 W39 hq39_0
    have h102871 := X39.at ha0
    refine g_iconst (v := (-1)) C dX12_soon_39 (by decide) ?_
    exact ret _ _ _ _ _ _ dX12_soon_40 rfl (by decide) (by decide) ⟨I39, X39, W39, (by decide)⟩
  refine g_aload_n C dX12_soon_0 rfl 0 rfl ?_
  refine g_iconst (v := 0) C dX12_soon_1 (by decide) ?_
  refine g_putI C fi_X12_1 rfl (ha0).1 (ha0).2 dX12_soon_2 ?_
  refine gqW (ks := [0]) (I.setI (rgOk.of rfl (by decide))) (EM.setI I (by decide)) (fun Y102872 Iy102873 Xy102874 w102875  => ?_)
  have w102875 : (pI Y102872 a0 0).toInt = 0 := w102875
  have W102876 := hW.keep I Xy102874 (by decide) (by decide) (by decide)
  have Xz102877 : EM [0, 28, 29, 30, 31, 32, 33, 34, 35, 36, 37, 38] a0 P Y102872 := Xy102874.mono (by decide)
  have h102878 := Xy102874.at ha0
  refine g_iload_n C dX12_soon_5 rfl 1 rfl ?_
  refine g_callSI (b := 0) (ci := 0) (rest := []) C ms_X12_278 [.int a1] (s_X12_isQuarter Iy102873.1) rfl rfl (by decide) (Nat.le_of_ble_eq_true rfl) (by decide) dX12_soon_6 (fun r102879 Y102880 h102881 => ?_)
  obtain ⟨rfl, h102881⟩ := h102881
  obtain ⟨h102881, hi102882⟩ := h102881
  have hi102882 : r102879.toInt = 0 ∨ (((0 : Int) ≤ a1.toInt ∧ a1.toInt ≤ (3 : Int))) := hi102882
  have h102881 : 0 ≤ r102879.toInt ∧ r102879.toInt ≤ 1 := h102881
  refine b_if_eq C 39 dX12_soon_9 (by decide) (fun h102883 => ?_) (fun h102883 => ?_)
  · have h102883 : r102879.toInt = 0 := congrArg Int32.toInt h102883
    clear hi102882
    refine g_lv (lv' := []) [] rfl ?_
    exact J39 Y102872 Iy102873 Xz102877 W102876 (by omega)
  · have h102883 : r102879.toInt ≠ 0 := ti_ne h102883
    replace hi102882 := hi102882.resolve_left (by omega)
    refine g_aload_n C dX12_soon_12 rfl 0 rfl ?_
    refine g_iload_n C dX12_soon_13 rfl 2 rfl ?_
    refine g_callVI (rest := []) C mv_X12_192 [.int a2] (s_X12_isBook Iy102873 W102876) (h102878).1 (h102878).2 rfl rfl (by decide) (Nat.le_of_ble_eq_true rfl) (by decide) dX12_soon_14 (fun r102884 Y102885 h102886 => ?_)
    obtain ⟨rfl, h102886⟩ := h102886
    obtain ⟨h102886, hi102887, hi102888⟩ := h102886
    have hi102887 : r102884.toInt = 0 ∨ (((0 : Int) ≤ a2.toInt ∧ a2.toInt ≤ (1 : Int))) := hi102887
    have h102886 : 0 ≤ r102884.toInt ∧ r102884.toInt ≤ 1 := h102886
    refine b_if_eq C 39 dX12_soon_17 (by decide) (fun h102889 => ?_) (fun h102889 => ?_)
    · have h102889 : r102884.toInt = 0 := congrArg Int32.toInt h102889
      clear hi102887
      refine g_lv (lv' := []) [] rfl ?_
      exact J39 Y102872 Iy102873 Xz102877 W102876 (by omega)
    · have h102889 : r102884.toInt ≠ 0 := ti_ne h102889
      replace hi102887 := hi102887.resolve_left (by omega)
      obtain ⟨b102890, e102891, h102892⟩ := Iy102873.fld (h102878) 10 13 2 rfl
      have hi102888 := (hi102888.resolve_left (by omega)) b102890 e102891
      have hi102888 : 0 < (pI Y102872 b102890 (a2.toInt.toNat)).toInt := hi102888
      have h102893 := Iy102873.arr e102891 rfl (a2.toInt.toNat)
      refine g_aload_n C dX12_soon_20 rfl 0 rfl ?_
      refine g_iload_n C dX12_soon_21 rfl 2 rfl ?_
      refine g_iload_n C dX12_soon_22 rfl 3 rfl ?_
      refine g_callVI (rest := []) C mv_X12_352 [.int a2, .int a3] (s_X12_isPage Iy102873 (by omega) W102876) (h102878).1 (h102878).2 rfl rfl (by decide) (Nat.le_of_ble_eq_true rfl) (by decide) dX12_soon_23 (fun r102894 Y102895 h102896 => ?_)
      obtain ⟨rfl, h102896⟩ := h102896
      obtain ⟨h102896, hi102897⟩ := h102896
      have hi102897 : r102894.toInt = 0 ∨ (((0 : Int) ≤ a3.toInt ∧ a3.toInt ≤ (19 : Int))) := hi102897
      have h102896 : 0 ≤ r102894.toInt ∧ r102894.toInt ≤ 1 := h102896
      refine b_if_eq C 39 dX12_soon_26 (by decide) (fun h102898 => ?_) (fun h102898 => ?_)
      · have h102898 : r102894.toInt = 0 := congrArg Int32.toInt h102898
        clear hi102897
        refine g_lv (lv' := []) [] rfl ?_
        exact J39 Y102872 Iy102873 Xz102877 W102876 (by omega)
      · have h102898 : r102894.toInt ≠ 0 := ti_ne h102898
        replace hi102897 := hi102897.resolve_left (by omega)
        refine g_iload C dX12_soon_29 4 rfl ?_
        refine g_iconst (v := 0) C dX12_soon_31 (by decide) ?_
        refine g_iconst (v := 1) C dX12_soon_32 (by decide) ?_
        refine g_callSI (b := 0) (ci := 0) (rest := []) C ms_X12_178 [.int a4, .int 0, .int 1] (s_X12_within Iy102873.1) rfl rfl (by decide) (Nat.le_of_ble_eq_true rfl) (by decide) dX12_soon_33 (fun r102899 Y102900 h102901 => ?_)
        obtain ⟨rfl, h102901⟩ := h102901
        obtain ⟨h102901, hi102902⟩ := h102901
        have hi102902 : r102899.toInt = 0 ∨ (0 ≤ a4.toInt ∧ a4.toInt ≤ 1) := hi102902
        have h102901 : 0 ≤ r102899.toInt ∧ r102899.toInt ≤ 1 := h102901
        refine b_if_ne C 41 dX12_soon_36 (by decide) (fun h102903 => ?_) (fun h102903 => ?_)
        · have h102903 : r102899.toInt ≠ 0 := ti_ne h102903
          replace hi102902 := hi102902.resolve_left (by omega)
          refine g_aload_n C dX12_soon_41 rfl 0 rfl ?_
          refine g_callVV (rest := []) C mv_X12_336 [] (s_X12_leavesNone Iy102873 W102876) (h102878).1 (h102878).2 rfl rfl (by decide) (Nat.le_of_ble_eq_true rfl) (by decide) dX12_soon_42 (fun Y102905 h102906 => ?_)
          obtain ⟨Iy102907, Xy102908, W102909⟩ := h102906
          have q102910 := Xy102908.keepF 0 (by decide)
          have q102911 := Xy102908.keepA e102891 (by decide) rfl (a2.toInt.toNat)
          have Xz102912 : EM [0, 28, 29, 30, 31, 32, 33, 34, 35, 36, 37, 38] a0 P Y102905 := EM.tr ha0 Xz102877 (Xy102908.mono (by decide))
          have e102913 := Xy102908.ref h102878 (by decide) e102891
          have h102914 := Xy102908.at h102878
          have h102915 := Xy102908.ar h102892
          refine g_iconst (v := 0) C dX12_soon_45 (by decide) ?_
          refine g_istore (lv' := [(5, .int 0), (0, .ref a0), (1, .int a1), (2, .int a2), (3, .int a3), (4, .int a4)]) C dX12_soon_46 (by decide) rfl ?_
          refine g_lv (lv' := [(0, .ref a0), (1, .int a1), (2, .int a2), (3, .int a3), (4, .int a4), (5, .int 0)]) [1, 2, 3, 4, 5, 0] rfl ?_
          exact J48 _ Y102905 0 (Nat.lt_succ_self _) Iy102907 Xz102912 W102909 (by omega) (by omega) (by omega) (by omega) (by decide) (by omega) (fun b9 e9 => by rw [e102913] at e9; cases e9; omega)
        · have h102903 : r102899.toInt = 0 := congrArg Int32.toInt h102903
          clear hi102902
          refine g_lv (lv' := []) [] rfl ?_
          exact J39 Y102872 Iy102873 Xz102877 W102876 (by omega)
theorem dX12_swap_0 : decode cX12_swap 0 = .ok (.aload_n 0, 1) := by decide +kernel
theorem dX12_swap_1 : decode cX12_swap 1 = .ok (.iconst 0, 1) := by decide +kernel
theorem dX12_swap_2 : decode cX12_swap 2 = .ok (.putfield 1, 3) := by decide +kernel
theorem dX12_swap_5 : decode cX12_swap 5 = .ok (.iload_n 1, 1) := by decide +kernel
theorem dX12_swap_6 : decode cX12_swap 6 = .ok (.invokestatic 278, 3) := by decide +kernel
theorem dX12_swap_9 : decode cX12_swap 9 = .ok (.ifCond .eq 25, 3) := by decide +kernel
theorem dX12_swap_12 : decode cX12_swap 12 = .ok (.iload_n 2, 1) := by decide +kernel
theorem dX12_swap_13 : decode cX12_swap 13 = .ok (.invokestatic 278, 3) := by decide +kernel
theorem dX12_swap_16 : decode cX12_swap 16 = .ok (.ifCond .eq 18, 3) := by decide +kernel
theorem dX12_swap_19 : decode cX12_swap 19 = .ok (.iload_n 1, 1) := by decide +kernel
theorem dX12_swap_20 : decode cX12_swap 20 = .ok (.iload_n 2, 1) := by decide +kernel
theorem dX12_swap_21 : decode cX12_swap 21 = .ok (.if_icmp .eq 13, 3) := by decide +kernel
theorem dX12_swap_24 : decode cX12_swap 24 = .ok (.iload_n 3, 1) := by decide +kernel
theorem dX12_swap_25 : decode cX12_swap 25 = .ok (.iconst 0, 1) := by decide +kernel
theorem dX12_swap_26 : decode cX12_swap 26 = .ok (.bipush 40, 2) := by decide +kernel
theorem dX12_swap_28 : decode cX12_swap 28 = .ok (.invokestatic 178, 3) := by decide +kernel
theorem dX12_swap_31 : decode cX12_swap 31 = .ok (.ifCond .ne 5, 3) := by decide +kernel
theorem dX12_swap_34 : decode cX12_swap 34 = .ok (.iconst (-1), 1) := by decide +kernel
theorem dX12_swap_35 : decode cX12_swap 35 = .ok (.ireturn, 1) := by decide +kernel
theorem dX12_swap_36 : decode cX12_swap 36 = .ok (.iconst 0, 1) := by decide +kernel
theorem dX12_swap_37 : decode cX12_swap 37 = .ok (.istore 4, 2) := by decide +kernel
theorem dX12_swap_39 : decode cX12_swap 39 = .ok (.iconst 0, 1) := by decide +kernel
theorem dX12_swap_40 : decode cX12_swap 40 = .ok (.istore 5, 2) := by decide +kernel
theorem dX12_swap_42 : decode cX12_swap 42 = .ok (.iload 5, 2) := by decide +kernel
theorem dX12_swap_44 : decode cX12_swap 44 = .ok (.aload_n 0, 1) := by decide +kernel
theorem dX12_swap_45 : decode cX12_swap 45 = .ok (.getfield 69, 3) := by decide +kernel
theorem dX12_swap_48 : decode cX12_swap 48 = .ok (.iload_n 1, 1) := by decide +kernel
theorem dX12_swap_49 : decode cX12_swap 49 = .ok (.iaload, 1) := by decide +kernel
theorem dX12_swap_50 : decode cX12_swap 50 = .ok (.if_icmp .ge 107, 3) := by decide +kernel
theorem dX12_swap_53 : decode cX12_swap 53 = .ok (.iload 4, 2) := by decide +kernel
theorem dX12_swap_55 : decode cX12_swap 55 = .ok (.iload_n 3, 1) := by decide +kernel
theorem dX12_swap_56 : decode cX12_swap 56 = .ok (.if_icmp .ge 101, 3) := by decide +kernel
theorem dX12_swap_59 : decode cX12_swap 59 = .ok (.bipush 40, 2) := by decide +kernel
theorem dX12_swap_61 : decode cX12_swap 61 = .ok (.iload_n 1, 1) := by decide +kernel
theorem dX12_swap_62 : decode cX12_swap 62 = .ok (.imul, 1) := by decide +kernel
theorem dX12_swap_63 : decode cX12_swap 63 = .ok (.iload 5, 2) := by decide +kernel
theorem dX12_swap_65 : decode cX12_swap 65 = .ok (.iadd, 1) := by decide +kernel
theorem dX12_swap_66 : decode cX12_swap 66 = .ok (.istore 6, 2) := by decide +kernel
theorem dX12_swap_68 : decode cX12_swap 68 = .ok (.aload_n 0, 1) := by decide +kernel
theorem dX12_swap_69 : decode cX12_swap 69 = .ok (.getfield 69, 3) := by decide +kernel
theorem dX12_swap_72 : decode cX12_swap 72 = .ok (.iload_n 2, 1) := by decide +kernel
theorem dX12_swap_73 : decode cX12_swap 73 = .ok (.iaload, 1) := by decide +kernel
theorem dX12_swap_74 : decode cX12_swap 74 = .ok (.bipush 40, 2) := by decide +kernel
theorem dX12_swap_76 : decode cX12_swap 76 = .ok (.if_icmp .ge 27, 3) := by decide +kernel
theorem dX12_swap_79 : decode cX12_swap 79 = .ok (.aload_n 0, 1) := by decide +kernel
theorem dX12_swap_80 : decode cX12_swap 80 = .ok (.getfield 75, 3) := by decide +kernel
theorem dX12_swap_83 : decode cX12_swap 83 = .ok (.iload 6, 2) := by decide +kernel
theorem dX12_swap_85 : decode cX12_swap 85 = .ok (.iaload, 1) := by decide +kernel
theorem dX12_swap_86 : decode cX12_swap 86 = .ok (.ifCond .ge 13, 3) := by decide +kernel
theorem dX12_swap_89 : decode cX12_swap 89 = .ok (.aload_n 0, 1) := by decide +kernel
theorem dX12_swap_90 : decode cX12_swap 90 = .ok (.iload_n 2, 1) := by decide +kernel
theorem dX12_swap_91 : decode cX12_swap 91 = .ok (.invokevirtual 295, 3) := by decide +kernel
theorem dX12_swap_94 : decode cX12_swap 94 = .ok (.bipush 6, 2) := by decide +kernel
theorem dX12_swap_96 : decode cX12_swap 96 = .ok (.if_icmp .ge 7, 3) := by decide +kernel
theorem dX12_swap_99 : decode cX12_swap 99 = .ok (.iconst 1, 1) := by decide +kernel
theorem dX12_swap_100 : decode cX12_swap 100 = .ok (.goto 4, 3) := by decide +kernel
theorem dX12_swap_103 : decode cX12_swap 103 = .ok (.iconst 0, 1) := by decide +kernel
theorem dX12_swap_104 : decode cX12_swap 104 = .ok (.istore 7, 2) := by decide +kernel
theorem dX12_swap_106 : decode cX12_swap 106 = .ok (.iload 7, 2) := by decide +kernel
theorem dX12_swap_108 : decode cX12_swap 108 = .ok (.ifCond .eq 43, 3) := by decide +kernel
theorem dX12_swap_111 : decode cX12_swap 111 = .ok (.aload_n 0, 1) := by decide +kernel
theorem dX12_swap_112 : decode cX12_swap 112 = .ok (.iload_n 2, 1) := by decide +kernel
theorem dX12_swap_113 : decode cX12_swap 113 = .ok (.iload 6, 2) := by decide +kernel
theorem dX12_swap_115 : decode cX12_swap 115 = .ok (.invokevirtual 405, 3) := by decide +kernel
theorem dX12_swap_118 : decode cX12_swap 118 = .ok (.ifCond .ne 33, 3) := by decide +kernel
theorem dX12_swap_121 : decode cX12_swap 121 = .ok (.aload_n 0, 1) := by decide +kernel
theorem dX12_swap_122 : decode cX12_swap 122 = .ok (.iload 6, 2) := by decide +kernel
theorem dX12_swap_124 : decode cX12_swap 124 = .ok (.bipush 40, 2) := by decide +kernel
theorem dX12_swap_126 : decode cX12_swap 126 = .ok (.iload_n 2, 1) := by decide +kernel
theorem dX12_swap_127 : decode cX12_swap 127 = .ok (.imul, 1) := by decide +kernel
theorem dX12_swap_128 : decode cX12_swap 128 = .ok (.aload_n 0, 1) := by decide +kernel
theorem dX12_swap_129 : decode cX12_swap 129 = .ok (.getfield 69, 3) := by decide +kernel
theorem dX12_swap_132 : decode cX12_swap 132 = .ok (.iload_n 2, 1) := by decide +kernel
theorem dX12_swap_133 : decode cX12_swap 133 = .ok (.iaload, 1) := by decide +kernel
theorem dX12_swap_134 : decode cX12_swap 134 = .ok (.iadd, 1) := by decide +kernel
theorem dX12_swap_135 : decode cX12_swap 135 = .ok (.invokevirtual 274, 3) := by decide +kernel
theorem dX12_swap_138 : decode cX12_swap 138 = .ok (.aload_n 0, 1) := by decide +kernel
theorem dX12_swap_139 : decode cX12_swap 139 = .ok (.getfield 69, 3) := by decide +kernel
theorem dX12_swap_142 : decode cX12_swap 142 = .ok (.iload_n 2, 1) := by decide +kernel
theorem dX12_swap_143 : decode cX12_swap 143 = .ok (.dup2, 1) := by decide +kernel
theorem dX12_swap_144 : decode cX12_swap 144 = .ok (.iaload, 1) := by decide +kernel
theorem dX12_swap_145 : decode cX12_swap 145 = .ok (.iconst 1, 1) := by decide +kernel
theorem dX12_swap_146 : decode cX12_swap 146 = .ok (.iadd, 1) := by decide +kernel
theorem dX12_swap_147 : decode cX12_swap 147 = .ok (.iastore, 1) := by decide +kernel
theorem dX12_swap_148 : decode cX12_swap 148 = .ok (.iinc 4 1, 3) := by decide +kernel
theorem dX12_swap_151 : decode cX12_swap 151 = .ok (.iinc 5 1, 3) := by decide +kernel
theorem dX12_swap_154 : decode cX12_swap 154 = .ok (.goto (-112), 3) := by decide +kernel
theorem dX12_swap_157 : decode cX12_swap 157 = .ok (.iload 4, 2) := by decide +kernel
theorem dX12_swap_159 : decode cX12_swap 159 = .ok (.ireturn, 1) := by decide +kernel
set_option maxHeartbeats 4000000 in
set_option maxRecDepth 100000 in
theorem s_X12_swap {P : PP} {a0 : Nat} {a1 : Int32} {a2 : Int32} {a3 : Int32} (I : IM P a0) (hW : MW P a0) : CtrI yX12_swap cX12_swap 8 (some Jvm.ClassFile.FieldType.int) ({ frames := 3, cells := 0, slots := 0, locals := 192 } : Room) 0 0 P [.ref a0, .int a1, .int a2, .int a3] (fun r P2 => IM P2 a0 ∧ EM [0, 20, 21, 22, 23, 24, 25] a0 P P2 ∧ MW P2 a0 ∧ (-1 ≤ r.toInt ∧ r.toInt ≤ 40)) := by
  refine enI (lv := [(0, .ref a0), (1, .int a1), (2, .int a2), (3, .int a3)]) (by decide) (Nat.le_of_ble_eq_true rfl) rfl (fun E D cy C Ci0 ret => ?_)
  have ha0 := I.2.1
  have J157 : ∀ (P157 : PP) (v157_4 : Int32), (IM P157 a0) → (EM [0, 20, 21, 22, 23, 24, 25] a0 P P157) → (MW P157 a0) → (0 ≤ v157_4.toInt ∧ v157_4.toInt ≤ 40) → (0 ≤ (pI P157 a0 0).toInt ∧ (pI P157 a0 0).toInt ≤ 0) → G E ({ frames := 3, cells := 0, slots := 0, locals := 192 } : Room) D cy 8 P157 0 0 157 [(4, .int v157_4)] [] := by
    intro P157 v157_4 I157 X157 W157 hv157_4 hq157_0
    have h104122 := X157.at ha0
    refine g_iload C dX12_swap_157 0 rfl ?_
    exact ret _ _ _ _ _ _ dX12_swap_159 rfl (by decide) (by decide) ⟨I157, X157, W157, (by omega)⟩
  have J42 : ∀ (n42 : Nat) (P42 : PP) (v42_4 : Int32) (v42_5 : Int32), (40 - v42_5.toInt).toNat < n42 → (IM P42 a0) → (EM [0, 20, 21, 22, 23, 24, 25] a0 P P42) → (MW P42 a0) → (0 ≤ a1.toInt ∧ a1.toInt ≤ 3) → (0 ≤ a2.toInt ∧ a2.toInt ≤ 3) → (0 ≤ a3.toInt ∧ a3.toInt ≤ 40) → (0 ≤ v42_4.toInt ∧ v42_4.toInt ≤ 40) → (0 ≤ v42_5.toInt ∧ v42_5.toInt ≤ 40) → (0 ≤ (pI P42 a0 0).toInt ∧ (pI P42 a0 0).toInt ≤ 0) → G E ({ frames := 3, cells := 0, slots := 0, locals := 192 } : Room) D cy 8 P42 0 0 42 [(0, .ref a0), (1, .int a1), (2, .int a2), (3, .int a3), (4, .int v42_4), (5, .int v42_5)] [] := by
    intro n42
    induction n42 with
    | zero => intro P42 v42_4 v42_5 hm42 I42 X42 W42 hv42_1 hv42_2 hv42_3 hv42_4 hv42_5 hq42_0; omega
    | succ n42 ih42 =>
      intro P42 v42_4 v42_5 hm42 I42 X42 W42 hv42_1 hv42_2 hv42_3 hv42_4 hv42_5 hq42_0
      have h104123 := X42.at ha0
      have J151 : ∀ (P151 : PP) (v151_4 : Int32), (IM P151 a0) → (EM [0, 20, 21, 22, 23, 24, 25] a0 P P151) → (MW P151 a0) → (0 ≤ a1.toInt ∧ a1.toInt ≤ 3) → (0 ≤ a2.toInt ∧ a2.toInt ≤ 3) → (1 ≤ a3.toInt ∧ a3.toInt ≤ 40) → (0 ≤ v151_4.toInt ∧ v151_4.toInt ≤ 40) → (0 ≤ v42_5.toInt ∧ v42_5.toInt ≤ 39) → (0 ≤ (pI P151 a0 0).toInt ∧ (pI P151 a0 0).toInt ≤ 0) → G E ({ frames := 3, cells := 0, slots := 0, locals := 192 } : Room) D cy 8 P151 0 0 151 [(0, .ref a0), (1, .int a1), (2, .int a2), (3, .int a3), (4, .int v151_4), (5, .int v42_5)] [] := by
        intro P151 v151_4 I151 X151 W151 hv151_1 hv151_2 hv151_3 hv151_4 hv151_5 hq151_0
        have h104124 := X151.at ha0
        refine s_iinc (lv0 := [(0, .ref a0), (1, .int a1), (2, .int a2), (3, .int a3), (4, .int v151_4)]) (m := 1) C dX12_swap_151 5 rfl (by decide) rfl (by decide) (by omega) (fun z104125 h104126 => ?_)
        have h104126 : z104125.toInt = v42_5.toInt + 1 := h104126
        refine g_goto C 42 dX12_swap_154 (by decide) ?_
        refine g_lv (lv' := [(0, .ref a0), (1, .int a1), (2, .int a2), (3, .int a3), (4, .int v151_4), (5, .int z104125)]) [1, 2, 3, 4, 5, 0] rfl ?_
        exact ih42 P151 v151_4 z104125 (by omega) I151 X151 W151 (by omega) (by omega) (by omega) (by omega) (by omega) (by omega)
      have J104 : ∀ (v104_6 : Int32) (v104_s0 : Int32), (0 ≤ a1.toInt ∧ a1.toInt ≤ 3) → (0 ≤ a2.toInt ∧ a2.toInt ≤ 3) → (1 ≤ a3.toInt ∧ a3.toInt ≤ 40) → (0 ≤ v42_4.toInt ∧ v42_4.toInt ≤ 39) → (0 ≤ v42_5.toInt ∧ v42_5.toInt ≤ 39) → (0 ≤ v104_6.toInt ∧ v104_6.toInt ≤ 159) → (0 ≤ v104_s0.toInt ∧ v104_s0.toInt ≤ 1) → (0 ≤ (pI P42 a0 0).toInt ∧ (pI P42 a0 0).toInt ≤ 0) → (∀ b, pR P42 a0 20 = some b → 1 ≤ (pI P42 b (a1.toInt.toNat)).toInt ∧ (pI P42 b (a1.toInt.toNat)).toInt ≤ 40) → (∀ b920, pR P42 a0 20 = some b920 → v104_s0.toInt = 0 ∨ (pI P42 b920 (a2.toInt.toNat)).toInt ≤ 39) → G E ({ frames := 3, cells := 0, slots := 0, locals := 192 } : Room) D cy 8 P42 0 0 104 [(0, .ref a0), (1, .int a1), (2, .int a2), (3, .int a3), (4, .int v42_4), (5, .int v42_5), (6, .int v104_6)] [.int v104_s0] := by
        intro v104_6 v104_s0 hv104_1 hv104_2 hv104_3 hv104_4 hv104_5 hv104_6 hv104_s0 hq104_0 hq104_1 rel104_0
        have h104127 := X42.at ha0
        obtain ⟨b104128, e104129, h104130⟩ := I42.fld (h104127) 20 13 20 rfl
        have hq104_1 := hq104_1 b104128 e104129
        have rel104_0 := rel104_0 b104128 e104129
        have h104131 := I42.arr e104129 rfl (a2.toInt.toNat)
        refine g_istore (lv' := [(7, .int v104_s0), (0, .ref a0), (1, .int a1), (2, .int a2), (3, .int a3), (4, .int v42_4), (5, .int v42_5), (6, .int v104_6)]) C dX12_swap_104 (by decide) rfl ?_
        refine g_iload C dX12_swap_106 0 rfl ?_
        refine b_if_eq C 151 dX12_swap_108 (by decide) (fun h104132 => ?_) (fun h104132 => ?_)
        · have h104132 : v104_s0.toInt = 0 := congrArg Int32.toInt h104132
          refine g_lv (lv' := [(0, .ref a0), (1, .int a1), (2, .int a2), (3, .int a3), (4, .int v42_4), (5, .int v42_5)]) [1, 2, 3, 4, 5, 6] rfl ?_
          exact J151 P42 v42_4 I42 X42 W42 (by omega) (by omega) (by omega) (by omega) (by omega) (by omega)
        · have h104132 : v104_s0.toInt ≠ 0 := ti_ne h104132
          refine g_aload_n C dX12_swap_111 rfl 1 rfl ?_
          refine g_iload_n C dX12_swap_112 rfl 3 rfl ?_
          refine g_iload C dX12_swap_113 7 rfl ?_
          refine g_callVI (rest := []) C mv_X12_405 [.int a2, .int v104_6] (s_X12_hasAlike I42 (by omega) (by omega) W42) (h104127).1 (h104127).2 rfl rfl (by decide) (Nat.le_of_ble_eq_true rfl) (by decide) dX12_swap_115 (fun r104133 Y104134 h104135 => ?_)
          obtain ⟨rfl, h104135⟩ := h104135
          have h104135 : 0 ≤ r104133.toInt ∧ r104133.toInt ≤ 1 := h104135
          refine b_if_ne C 151 dX12_swap_118 (by decide) (fun h104136 => ?_) (fun h104136 => ?_)
          · have h104136 : r104133.toInt ≠ 0 := ti_ne h104136
            refine g_lv (lv' := [(0, .ref a0), (1, .int a1), (2, .int a2), (3, .int a3), (4, .int v42_4), (5, .int v42_5)]) [1, 2, 3, 4, 5, 6] rfl ?_
            exact J151 P42 v42_4 I42 X42 W42 (by omega) (by omega) (by omega) (by omega) (by omega) (by omega)
          · have h104136 : r104133.toInt = 0 := congrArg Int32.toInt h104136
            refine g_aload_n C dX12_swap_121 rfl 1 rfl ?_
            refine g_iload C dX12_swap_122 7 rfl ?_
            refine g_bipush (v := 40) C dX12_swap_124 (by decide) ?_
            refine g_iload_n C dX12_swap_126 rfl 3 rfl ?_
            refine s_imul C dX12_swap_127 (by show -2147483648 ≤ 40 * a2.toInt ∧ 40 * a2.toInt ≤ 2147483647; omega) (fun z104137 h104138 => ?_)
            have h104138 : z104137.toInt = 40 * a2.toInt := h104138
            refine g_aload_n C dX12_swap_128 rfl 1 rfl ?_
            refine g_getR C fi_X12_69 rfl e104129 (h104127).1 (h104127).2 dX12_swap_129 ?_
            refine g_iload_n C dX12_swap_132 rfl 3 rfl ?_
            refine g_iald (j := (a2.toInt.toNat)) C h104130.1 h104130.2.1 (ix_in h104130.2.2 (by omega)) dX12_swap_133 ?_
            refine s_iadd C dX12_swap_134 (by show -2147483648 ≤ z104137.toInt + (pI P42 b104128 (a2.toInt.toNat)).toInt ∧ z104137.toInt + (pI P42 b104128 (a2.toInt.toNat)).toInt ≤ 2147483647; omega) (fun z104139 h104140 => ?_)
            have h104140 : z104139.toInt = z104137.toInt + (pI P42 b104128 (a2.toInt.toNat)).toInt := h104140
            refine g_callVV (rest := []) C mv_X12_274 [.int v104_6, .int z104139] (s_X12_moves I42 (by omega) (by omega) W42) (h104127).1 (h104127).2 rfl rfl (by decide) (Nat.le_of_ble_eq_true rfl) (by decide) dX12_swap_135 (fun Y104142 h104143 => ?_)
            obtain ⟨Iy104144, Xy104145, W104146⟩ := h104143
            have q104147 := Xy104145.keepF 0 (by decide)
            have q104148 := Xy104145.keepA e104129 (by decide) rfl (a1.toInt.toNat)
            have q104149 := Xy104145.keepA e104129 (by decide) rfl (a2.toInt.toNat)
            have Xz104150 : EM [0, 20, 21, 22, 23, 24, 25] a0 P Y104142 := EM.tr ha0 X42 (Xy104145.mono (by decide))
            have e104151 := Xy104145.ref h104127 (by decide) e104129
            have h104152 := Xy104145.at h104127
            have h104153 := Xy104145.ar h104130
            refine g_aload_n C dX12_swap_138 rfl 1 rfl ?_
            refine g_getR C fi_X12_69 rfl e104151 (h104152).1 (h104152).2 dX12_swap_139 ?_
            refine g_iload_n C dX12_swap_142 rfl 3 rfl ?_
            refine g_dup2_11 C dX12_swap_143 rfl rfl ?_
            refine g_iald (j := (a2.toInt.toNat)) C h104153.1 h104153.2.1 (ix_in h104153.2.2 (by omega)) dX12_swap_144 ?_
            refine g_iconst (v := 1) C dX12_swap_145 (by decide) ?_
            refine s_iadd C dX12_swap_146 (by show -2147483648 ≤ (pI Y104142 b104128 (a2.toInt.toNat)).toInt + 1 ∧ (pI Y104142 b104128 (a2.toInt.toNat)).toInt + 1 ≤ 2147483647; omega) (fun z104154 h104155 => ?_)
            have h104155 : z104154.toInt = (pI Y104142 b104128 (a2.toInt.toNat)).toInt + 1 := h104155
            refine g_iast (j := (a2.toInt.toNat)) C h104153.1 h104153.2.1 (ix_in h104153.2.2 (by omega)) dX12_swap_147 ?_
            refine gqW (ks := [20]) (Iy104144.setA e104151 h104153 (by decide) (arOk.of rfl (by omega))) (EM.setA Iy104144 e104151 rfl (by decide)) (fun Y104156 Iy104157 Xy104158 w104159  => ?_)
            have w104159 : (pI Y104156 b104128 (a2.toInt.toNat)).toInt = z104154.toInt := w104159
            have q104160 := Xy104158.keepF 0 (by decide)
            have W104161 := W104146.keep Iy104144 Xy104158 (by decide) (by decide) (by decide)
            have Xz104162 : EM [0, 20, 21, 22, 23, 24, 25] a0 P Y104156 := EM.tr ha0 Xz104150 (Xy104158.mono (by decide))
            have e104163 := Xy104158.ref h104152 (by decide) e104151
            have h104164 := Xy104158.at h104152
            have h104165 := Xy104158.ar h104153
            refine s_iinc (lv0 := [(7, .int v104_s0), (0, .ref a0), (1, .int a1), (2, .int a2), (3, .int a3), (5, .int v42_5), (6, .int v104_6)]) (m := 1) C dX12_swap_148 5 rfl (by decide) rfl (by decide) (by omega) (fun z104166 h104167 => ?_)
            have h104167 : z104166.toInt = v42_4.toInt + 1 := h104167
            refine g_lv (lv' := [(0, .ref a0), (1, .int a1), (2, .int a2), (3, .int a3), (4, .int z104166), (5, .int v42_5)]) [2, 3, 4, 5, 0, 6] rfl ?_
            exact J151 Y104156 z104166 Iy104157 Xz104162 W104161 (by omega) (by omega) (by omega) (by omega) (by omega) (by omega)
      have J103 : ∀ (v103_6 : Int32), (0 ≤ a1.toInt ∧ a1.toInt ≤ 3) → (0 ≤ a2.toInt ∧ a2.toInt ≤ 3) → (1 ≤ a3.toInt ∧ a3.toInt ≤ 40) → (0 ≤ v42_4.toInt ∧ v42_4.toInt ≤ 39) → (0 ≤ v42_5.toInt ∧ v42_5.toInt ≤ 39) → (0 ≤ v103_6.toInt ∧ v103_6.toInt ≤ 159) → (0 ≤ (pI P42 a0 0).toInt ∧ (pI P42 a0 0).toInt ≤ 0) → (∀ b, pR P42 a0 20 = some b → 1 ≤ (pI P42 b (a1.toInt.toNat)).toInt ∧ (pI P42 b (a1.toInt.toNat)).toInt ≤ 40) → (∀ b, pR P42 a0 20 = some b → 0 ≤ (pI P42 b (a2.toInt.toNat)).toInt ∧ (pI P42 b (a2.toInt.toNat)).toInt ≤ 40) → G E ({ frames := 3, cells := 0, slots := 0, locals := 192 } : Room) D cy 8 P42 0 0 103 [(0, .ref a0), (1, .int a1), (2, .int a2), (3, .int a3), (4, .int v42_4), (5, .int v42_5), (6, .int v103_6)] [] := by
        intro v103_6 hv103_1 hv103_2 hv103_3 hv103_4 hv103_5 hv103_6 hq103_0 hq103_1 hq103_2
        have h104168 := X42.at ha0
        obtain ⟨b104169, e104170, h104171⟩ := I42.fld (h104168) 20 13 20 rfl
        have hq103_1 := hq103_1 b104169 e104170
        have hq103_2 := hq103_2 b104169 e104170
        refine g_iconst (v := 0) C dX12_swap_103 (by decide) ?_
        exact J104 v103_6 0 (by omega) (by omega) (by omega) (by omega) (by omega) (by omega) (by decide) (by omega) (fun b9 e9 => by rw [e104170] at e9; cases e9; omega) (by intro b920 e920; rw [e104170] at e920; cases e920; show 0 = 0 ∨ (pI P42 b104169 (a2.toInt.toNat)).toInt ≤ 39; omega)
      have J99 : ∀ (v99_6 : Int32), (0 ≤ a1.toInt ∧ a1.toInt ≤ 3) → (0 ≤ a2.toInt ∧ a2.toInt ≤ 3) → (1 ≤ a3.toInt ∧ a3.toInt ≤ 40) → (0 ≤ v42_4.toInt ∧ v42_4.toInt ≤ 39) → (0 ≤ v42_5.toInt ∧ v42_5.toInt ≤ 39) → (0 ≤ v99_6.toInt ∧ v99_6.toInt ≤ 159) → (0 ≤ (pI P42 a0 0).toInt ∧ (pI P42 a0 0).toInt ≤ 0) → (∀ b, pR P42 a0 20 = some b → 1 ≤ (pI P42 b (a1.toInt.toNat)).toInt ∧ (pI P42 b (a1.toInt.toNat)).toInt ≤ 40) → (∀ b, pR P42 a0 20 = some b → 0 ≤ (pI P42 b (a2.toInt.toNat)).toInt ∧ (pI P42 b (a2.toInt.toNat)).toInt ≤ 39) → G E ({ frames := 3, cells := 0, slots := 0, locals := 192 } : Room) D cy 8 P42 0 0 99 [(0, .ref a0), (1, .int a1), (2, .int a2), (3, .int a3), (4, .int v42_4), (5, .int v42_5), (6, .int v99_6)] [] := by
        intro v99_6 hv99_1 hv99_2 hv99_3 hv99_4 hv99_5 hv99_6 hq99_0 hq99_1 hq99_2
        have h104172 := X42.at ha0
        obtain ⟨b104173, e104174, h104175⟩ := I42.fld (h104172) 20 13 20 rfl
        have hq99_1 := hq99_1 b104173 e104174
        have hq99_2 := hq99_2 b104173 e104174
        refine g_iconst (v := 1) C dX12_swap_99 (by decide) ?_
        refine g_goto C 104 dX12_swap_100 (by decide) ?_
        exact J104 v99_6 1 (by omega) (by omega) (by omega) (by omega) (by omega) (by omega) (by decide) (by omega) (fun b9 e9 => by rw [e104174] at e9; cases e9; omega) (by intro b920 e920; rw [e104174] at e920; cases e920; show 1 = 0 ∨ (pI P42 b104173 (a2.toInt.toNat)).toInt ≤ 39; omega)
      refine g_iload C dX12_swap_42 5 rfl ?_
      refine g_aload_n C dX12_swap_44 rfl 0 rfl ?_
      obtain ⟨b104176, e104177, h104178⟩ := I42.fld (h104123) 20 13 20 rfl
      refine g_getR C fi_X12_69 rfl e104177 (h104123).1 (h104123).2 dX12_swap_45 ?_
      refine g_iload_n C dX12_swap_48 rfl 1 rfl ?_
      refine g_iald (j := (a1.toInt.toNat)) C h104178.1 h104178.2.1 (ix_in h104178.2.2 (by omega)) dX12_swap_49 ?_
      have h104179 := I42.arr e104177 rfl (a1.toInt.toNat)
      refine b_icmp_ge C 157 dX12_swap_50 (by decide) (fun h104180 => ?_) (fun h104180 => ?_)
      · have h104180 : (pI P42 b104176 (a1.toInt.toNat)).toInt ≤ v42_5.toInt := h104180
        refine g_lv (lv' := [(4, .int v42_4)]) [4] rfl ?_
        exact J157 P42 v42_4 I42 X42 W42 (by omega) (by omega)
      · have h104180 : v42_5.toInt < (pI P42 b104176 (a1.toInt.toNat)).toInt := h104180
        refine g_iload C dX12_swap_53 4 rfl ?_
        refine g_iload_n C dX12_swap_55 rfl 3 rfl ?_
        refine b_icmp_ge C 157 dX12_swap_56 (by decide) (fun h104181 => ?_) (fun h104181 => ?_)
        · have h104181 : a3.toInt ≤ v42_4.toInt := h104181
          refine g_lv (lv' := [(4, .int v42_4)]) [4] rfl ?_
          exact J157 P42 v42_4 I42 X42 W42 (by omega) (by omega)
        · have h104181 : v42_4.toInt < a3.toInt := h104181
          refine g_bipush (v := 40) C dX12_swap_59 (by decide) ?_
          refine g_iload_n C dX12_swap_61 rfl 1 rfl ?_
          refine s_imul C dX12_swap_62 (by show -2147483648 ≤ 40 * a1.toInt ∧ 40 * a1.toInt ≤ 2147483647; omega) (fun z104182 h104183 => ?_)
          have h104183 : z104182.toInt = 40 * a1.toInt := h104183
          refine g_iload C dX12_swap_63 5 rfl ?_
          refine s_iadd C dX12_swap_65 (by show -2147483648 ≤ z104182.toInt + v42_5.toInt ∧ z104182.toInt + v42_5.toInt ≤ 2147483647; omega) (fun z104184 h104185 => ?_)
          have h104185 : z104184.toInt = z104182.toInt + v42_5.toInt := h104185
          refine g_istore (lv' := [(6, .int z104184), (0, .ref a0), (1, .int a1), (2, .int a2), (3, .int a3), (4, .int v42_4), (5, .int v42_5)]) C dX12_swap_66 (by decide) rfl ?_
          refine g_aload_n C dX12_swap_68 rfl 1 rfl ?_
          refine g_getR C fi_X12_69 rfl e104177 (h104123).1 (h104123).2 dX12_swap_69 ?_
          refine g_iload_n C dX12_swap_72 rfl 3 rfl ?_
          refine g_iald (j := (a2.toInt.toNat)) C h104178.1 h104178.2.1 (ix_in h104178.2.2 (by omega)) dX12_swap_73 ?_
          have h104186 := I42.arr e104177 rfl (a2.toInt.toNat)
          refine g_bipush (v := 40) C dX12_swap_74 (by decide) ?_
          refine b_icmp_ge C 103 dX12_swap_76 (by decide) (fun h104187 => ?_) (fun h104187 => ?_)
          · have h104187 : 40 ≤ (pI P42 b104176 (a2.toInt.toNat)).toInt := h104187
            refine g_lv (lv' := [(0, .ref a0), (1, .int a1), (2, .int a2), (3, .int a3), (4, .int v42_4), (5, .int v42_5), (6, .int z104184)]) [1, 2, 3, 4, 5, 6, 0] rfl ?_
            exact J103 z104184 (by omega) (by omega) (by omega) (by omega) (by omega) (by omega) (by omega) (fun b9 e9 => by rw [e104177] at e9; cases e9; omega) (fun b9 e9 => by rw [e104177] at e9; cases e9; omega)
          · have h104187 : (pI P42 b104176 (a2.toInt.toNat)).toInt < 40 := h104187
            refine g_aload_n C dX12_swap_79 rfl 1 rfl ?_
            obtain ⟨b104188, e104189, h104190⟩ := I42.fld (h104123) 22 13 800 rfl
            refine g_getR C fi_X12_75 rfl e104189 (h104123).1 (h104123).2 dX12_swap_80 ?_
            refine g_iload C dX12_swap_83 0 rfl ?_
            refine g_iald (j := (z104184.toInt.toNat)) C h104190.1 h104190.2.1 (ix_in h104190.2.2 (by omega)) dX12_swap_85 ?_
            have h104191 := I42.arr e104189 rfl (z104184.toInt.toNat)
            refine b_if_ge C 99 dX12_swap_86 (by decide) (fun h104192 => ?_) (fun h104192 => ?_)
            · have h104192 : 0 ≤ (pI P42 b104188 (z104184.toInt.toNat)).toInt := h104192
              refine g_lv (lv' := [(0, .ref a0), (1, .int a1), (2, .int a2), (3, .int a3), (4, .int v42_4), (5, .int v42_5), (6, .int z104184)]) [1, 2, 3, 4, 5, 6, 0] rfl ?_
              exact J99 z104184 (by omega) (by omega) (by omega) (by omega) (by omega) (by omega) (by omega) (fun b9 e9 => by rw [e104177] at e9; cases e9; omega) (fun b9 e9 => by rw [e104177] at e9; cases e9; omega)
            · have h104192 : (pI P42 b104188 (z104184.toInt.toNat)).toInt < 0 := h104192
              refine g_aload_n C dX12_swap_89 rfl 1 rfl ?_
              refine g_iload_n C dX12_swap_90 rfl 3 rfl ?_
              refine g_callVI (rest := []) C mv_X12_295 [.int a2] (s_X12_namelessIn I42 (by omega) W42) (h104123).1 (h104123).2 rfl rfl (by decide) (Nat.le_of_ble_eq_true rfl) (by decide) dX12_swap_91 (fun r104193 Y104194 h104195 => ?_)
              obtain ⟨rfl, h104195⟩ := h104195
              have h104195 : True := h104195
              refine g_bipush (v := 6) C dX12_swap_94 (by decide) ?_
              have u104197 := ti_rng r104193
              refine b_icmp_ge C 103 dX12_swap_96 (by decide) (fun h104196 => ?_) (fun h104196 => ?_)
              · have h104196 : 6 ≤ r104193.toInt := h104196
                refine g_lv (lv' := [(0, .ref a0), (1, .int a1), (2, .int a2), (3, .int a3), (4, .int v42_4), (5, .int v42_5), (6, .int z104184)]) [1, 2, 3, 4, 5, 6, 0] rfl ?_
                exact J103 z104184 (by omega) (by omega) (by omega) (by omega) (by omega) (by omega) (by omega) (fun b9 e9 => by rw [e104177] at e9; cases e9; omega) (fun b9 e9 => by rw [e104177] at e9; cases e9; omega)
              · have h104196 : r104193.toInt < 6 := h104196
                refine g_lv (lv' := [(0, .ref a0), (1, .int a1), (2, .int a2), (3, .int a3), (4, .int v42_4), (5, .int v42_5), (6, .int z104184)]) [1, 2, 3, 4, 5, 6, 0] rfl ?_
                exact J99 z104184 (by omega) (by omega) (by omega) (by omega) (by omega) (by omega) (by omega) (fun b9 e9 => by rw [e104177] at e9; cases e9; omega) (fun b9 e9 => by rw [e104177] at e9; cases e9; omega)
  have J34 : ∀ (P34 : PP), (IM P34 a0) → (EM [0, 20, 21, 22, 23, 24, 25] a0 P P34) → (MW P34 a0) → (0 ≤ (pI P34 a0 0).toInt ∧ (pI P34 a0 0).toInt ≤ 0) → G E ({ frames := 3, cells := 0, slots := 0, locals := 192 } : Room) D cy 8 P34 0 0 34 [] [] := by
    intro P34 I34 X34 W34 hq34_0
    have h104198 := X34.at ha0
    refine g_iconst (v := (-1)) C dX12_swap_34 (by decide) ?_
    exact ret _ _ _ _ _ _ dX12_swap_35 rfl (by decide) (by decide) ⟨I34, X34, W34, (by decide)⟩
  refine g_aload_n C dX12_swap_0 rfl 0 rfl ?_
  refine g_iconst (v := 0) C dX12_swap_1 (by decide) ?_
  refine g_putI C fi_X12_1 rfl (ha0).1 (ha0).2 dX12_swap_2 ?_
  refine gqW (ks := [0]) (I.setI (rgOk.of rfl (by decide))) (EM.setI I (by decide)) (fun Y104199 Iy104200 Xy104201 w104202  => ?_)
  have w104202 : (pI Y104199 a0 0).toInt = 0 := w104202
  have W104203 := hW.keep I Xy104201 (by decide) (by decide) (by decide)
  have Xz104204 : EM [0, 20, 21, 22, 23, 24, 25] a0 P Y104199 := Xy104201.mono (by decide)
  have h104205 := Xy104201.at ha0
  refine g_iload_n C dX12_swap_5 rfl 1 rfl ?_
  refine g_callSI (b := 0) (ci := 0) (rest := []) C ms_X12_278 [.int a1] (s_X12_isQuarter Iy104200.1) rfl rfl (by decide) (Nat.le_of_ble_eq_true rfl) (by decide) dX12_swap_6 (fun r104206 Y104207 h104208 => ?_)
  obtain ⟨rfl, h104208⟩ := h104208
  obtain ⟨h104208, hi104209⟩ := h104208
  have hi104209 : r104206.toInt = 0 ∨ (((0 : Int) ≤ a1.toInt ∧ a1.toInt ≤ (3 : Int))) := hi104209
  have h104208 : 0 ≤ r104206.toInt ∧ r104206.toInt ≤ 1 := h104208
  refine b_if_eq C 34 dX12_swap_9 (by decide) (fun h104210 => ?_) (fun h104210 => ?_)
  · have h104210 : r104206.toInt = 0 := congrArg Int32.toInt h104210
    clear hi104209
    refine g_lv (lv' := []) [] rfl ?_
    exact J34 Y104199 Iy104200 Xz104204 W104203 (by omega)
  · have h104210 : r104206.toInt ≠ 0 := ti_ne h104210
    replace hi104209 := hi104209.resolve_left (by omega)
    refine g_iload_n C dX12_swap_12 rfl 2 rfl ?_
    refine g_callSI (b := 0) (ci := 0) (rest := []) C ms_X12_278 [.int a2] (s_X12_isQuarter Iy104200.1) rfl rfl (by decide) (Nat.le_of_ble_eq_true rfl) (by decide) dX12_swap_13 (fun r104211 Y104212 h104213 => ?_)
    obtain ⟨rfl, h104213⟩ := h104213
    obtain ⟨h104213, hi104214⟩ := h104213
    have hi104214 : r104211.toInt = 0 ∨ (((0 : Int) ≤ a2.toInt ∧ a2.toInt ≤ (3 : Int))) := hi104214
    have h104213 : 0 ≤ r104211.toInt ∧ r104211.toInt ≤ 1 := h104213
    refine b_if_eq C 34 dX12_swap_16 (by decide) (fun h104215 => ?_) (fun h104215 => ?_)
    · have h104215 : r104211.toInt = 0 := congrArg Int32.toInt h104215
      clear hi104214
      refine g_lv (lv' := []) [] rfl ?_
      exact J34 Y104199 Iy104200 Xz104204 W104203 (by omega)
    · have h104215 : r104211.toInt ≠ 0 := ti_ne h104215
      replace hi104214 := hi104214.resolve_left (by omega)
      refine g_iload_n C dX12_swap_19 rfl 1 rfl ?_
      refine g_iload_n C dX12_swap_20 rfl 2 rfl ?_
      refine b_icmp_eq C 34 dX12_swap_21 (by decide) (fun h104216 => ?_) (fun h104216 => ?_)
      · have h104216 : a1.toInt = a2.toInt := congrArg Int32.toInt h104216
        refine g_lv (lv' := []) [] rfl ?_
        exact J34 Y104199 Iy104200 Xz104204 W104203 (by omega)
      · have h104216 : a1.toInt ≠ a2.toInt := ti_ne h104216
        refine g_iload_n C dX12_swap_24 rfl 3 rfl ?_
        refine g_iconst (v := 0) C dX12_swap_25 (by decide) ?_
        refine g_bipush (v := 40) C dX12_swap_26 (by decide) ?_
        refine g_callSI (b := 0) (ci := 0) (rest := []) C ms_X12_178 [.int a3, .int 0, .int 40] (s_X12_within Iy104200.1) rfl rfl (by decide) (Nat.le_of_ble_eq_true rfl) (by decide) dX12_swap_28 (fun r104217 Y104218 h104219 => ?_)
        obtain ⟨rfl, h104219⟩ := h104219
        obtain ⟨h104219, hi104220⟩ := h104219
        have hi104220 : r104217.toInt = 0 ∨ (0 ≤ a3.toInt ∧ a3.toInt ≤ 40) := hi104220
        have h104219 : 0 ≤ r104217.toInt ∧ r104217.toInt ≤ 1 := h104219
        refine b_if_ne C 36 dX12_swap_31 (by decide) (fun h104221 => ?_) (fun h104221 => ?_)
        · have h104221 : r104217.toInt ≠ 0 := ti_ne h104221
          replace hi104220 := hi104220.resolve_left (by omega)
          refine g_iconst (v := 0) C dX12_swap_36 (by decide) ?_
          refine g_istore (lv' := [(4, .int 0), (0, .ref a0), (1, .int a1), (2, .int a2), (3, .int a3)]) C dX12_swap_37 (by decide) rfl ?_
          refine g_iconst (v := 0) C dX12_swap_39 (by decide) ?_
          refine g_istore (lv' := [(5, .int 0), (4, .int 0), (0, .ref a0), (1, .int a1), (2, .int a2), (3, .int a3)]) C dX12_swap_40 (by decide) rfl ?_
          refine g_lv (lv' := [(0, .ref a0), (1, .int a1), (2, .int a2), (3, .int a3), (4, .int 0), (5, .int 0)]) [2, 3, 4, 5, 1, 0] rfl ?_
          exact J42 _ Y104199 0 0 (Nat.lt_succ_self _) Iy104200 Xz104204 W104203 (by omega) (by omega) (by omega) (by decide) (by decide) (by omega)
        · have h104221 : r104217.toInt = 0 := congrArg Int32.toInt h104221
          clear hi104220
          refine g_lv (lv' := []) [] rfl ?_
          exact J34 Y104199 Iy104200 Xz104204 W104203 (by omega)
theorem dX12_tocome_0 : decode cX12_tocome 0 = .ok (.aload_n 0, 1) := by decide +kernel
theorem dX12_tocome_1 : decode cX12_tocome 1 = .ok (.iconst 0, 1) := by decide +kernel
theorem dX12_tocome_2 : decode cX12_tocome 2 = .ok (.putfield 1, 3) := by decide +kernel
theorem dX12_tocome_5 : decode cX12_tocome 5 = .ok (.iload_n 1, 1) := by decide +kernel
theorem dX12_tocome_6 : decode cX12_tocome 6 = .ok (.invokestatic 278, 3) := by decide +kernel
theorem dX12_tocome_9 : decode cX12_tocome 9 = .ok (.ifCond .eq 20, 3) := by decide +kernel
theorem dX12_tocome_12 : decode cX12_tocome 12 = .ok (.aload_n 0, 1) := by decide +kernel
theorem dX12_tocome_13 : decode cX12_tocome 13 = .ok (.iload_n 2, 1) := by decide +kernel
theorem dX12_tocome_14 : decode cX12_tocome 14 = .ok (.invokevirtual 192, 3) := by decide +kernel
theorem dX12_tocome_17 : decode cX12_tocome 17 = .ok (.ifCond .eq 12, 3) := by decide +kernel
theorem dX12_tocome_20 : decode cX12_tocome 20 = .ok (.iload_n 3, 1) := by decide +kernel
theorem dX12_tocome_21 : decode cX12_tocome 21 = .ok (.iconst 0, 1) := by decide +kernel
theorem dX12_tocome_22 : decode cX12_tocome 22 = .ok (.iconst 1, 1) := by decide +kernel
theorem dX12_tocome_23 : decode cX12_tocome 23 = .ok (.invokestatic 178, 3) := by decide +kernel
theorem dX12_tocome_26 : decode cX12_tocome 26 = .ok (.ifCond .ne 5, 3) := by decide +kernel
theorem dX12_tocome_29 : decode cX12_tocome 29 = .ok (.iconst (-1), 1) := by decide +kernel
theorem dX12_tocome_30 : decode cX12_tocome 30 = .ok (.ireturn, 1) := by decide +kernel
theorem dX12_tocome_31 : decode cX12_tocome 31 = .ok (.aload_n 0, 1) := by decide +kernel
theorem dX12_tocome_32 : decode cX12_tocome 32 = .ok (.invokevirtual 336, 3) := by decide +kernel
theorem dX12_tocome_35 : decode cX12_tocome 35 = .ok (.iconst (-1), 1) := by decide +kernel
theorem dX12_tocome_36 : decode cX12_tocome 36 = .ok (.istore 4, 2) := by decide +kernel
theorem dX12_tocome_38 : decode cX12_tocome 38 = .ok (.iconst 0, 1) := by decide +kernel
theorem dX12_tocome_39 : decode cX12_tocome 39 = .ok (.istore 5, 2) := by decide +kernel
theorem dX12_tocome_41 : decode cX12_tocome 41 = .ok (.iload 5, 2) := by decide +kernel
theorem dX12_tocome_43 : decode cX12_tocome 43 = .ok (.sipush 2048, 3) := by decide +kernel
theorem dX12_tocome_46 : decode cX12_tocome 46 = .ok (.if_icmp .ge 47, 3) := by decide +kernel
theorem dX12_tocome_49 : decode cX12_tocome 49 = .ok (.iload 4, 2) := by decide +kernel
theorem dX12_tocome_51 : decode cX12_tocome 51 = .ok (.ifCond .lt 16, 3) := by decide +kernel
theorem dX12_tocome_54 : decode cX12_tocome 54 = .ok (.iload 5, 2) := by decide +kernel
theorem dX12_tocome_56 : decode cX12_tocome 56 = .ok (.invokestatic 264, 3) := by decide +kernel
theorem dX12_tocome_59 : decode cX12_tocome 59 = .ok (.iload 4, 2) := by decide +kernel
theorem dX12_tocome_61 : decode cX12_tocome 61 = .ok (.invokestatic 264, 3) := by decide +kernel
theorem dX12_tocome_64 : decode cX12_tocome 64 = .ok (.if_icmp .ge 23, 3) := by decide +kernel
theorem dX12_tocome_67 : decode cX12_tocome 67 = .ok (.aload_n 0, 1) := by decide +kernel
theorem dX12_tocome_68 : decode cX12_tocome 68 = .ok (.iload_n 1, 1) := by decide +kernel
theorem dX12_tocome_69 : decode cX12_tocome 69 = .ok (.iload_n 2, 1) := by decide +kernel
theorem dX12_tocome_70 : decode cX12_tocome 70 = .ok (.iload 5, 2) := by decide +kernel
theorem dX12_tocome_72 : decode cX12_tocome 72 = .ok (.invokevirtual 374, 3) := by decide +kernel
theorem dX12_tocome_75 : decode cX12_tocome 75 = .ok (.ifCond .eq 8, 3) := by decide +kernel
theorem dX12_tocome_78 : decode cX12_tocome 78 = .ok (.iload 5, 2) := by decide +kernel
theorem dX12_tocome_80 : decode cX12_tocome 80 = .ok (.goto 5, 3) := by decide +kernel
theorem dX12_tocome_83 : decode cX12_tocome 83 = .ok (.iload 4, 2) := by decide +kernel
theorem dX12_tocome_85 : decode cX12_tocome 85 = .ok (.istore 4, 2) := by decide +kernel
theorem dX12_tocome_87 : decode cX12_tocome 87 = .ok (.iinc 5 1, 3) := by decide +kernel
theorem dX12_tocome_90 : decode cX12_tocome 90 = .ok (.goto (-49), 3) := by decide +kernel
theorem dX12_tocome_93 : decode cX12_tocome 93 = .ok (.iload 4, 2) := by decide +kernel
theorem dX12_tocome_95 : decode cX12_tocome 95 = .ok (.ifCond .ge 7, 3) := by decide +kernel
theorem dX12_tocome_98 : decode cX12_tocome 98 = .ok (.iconst (-1), 1) := by decide +kernel
theorem dX12_tocome_99 : decode cX12_tocome 99 = .ok (.goto 17, 3) := by decide +kernel
theorem dX12_tocome_102 : decode cX12_tocome 102 = .ok (.iload_n 3, 1) := by decide +kernel
theorem dX12_tocome_103 : decode cX12_tocome 103 = .ok (.ifCond .ne 11, 3) := by decide +kernel
theorem dX12_tocome_106 : decode cX12_tocome 106 = .ok (.iload 4, 2) := by decide +kernel
theorem dX12_tocome_108 : decode cX12_tocome 108 = .ok (.invokestatic 264, 3) := by decide +kernel
theorem dX12_tocome_111 : decode cX12_tocome 111 = .ok (.goto 5, 3) := by decide +kernel
theorem dX12_tocome_114 : decode cX12_tocome 114 = .ok (.iload 4, 2) := by decide +kernel
theorem dX12_tocome_116 : decode cX12_tocome 116 = .ok (.ireturn, 1) := by decide +kernel
set_option maxHeartbeats 4000000 in
set_option maxRecDepth 100000 in
theorem s_X12_tocome {P : PP} {a0 : Nat} {a1 : Int32} {a2 : Int32} {a3 : Int32} (I : IM P a0) (hW : MW P a0) : CtrI yX12_tocome cX12_tocome 6 (some Jvm.ClassFile.FieldType.int) ({ frames := 6, cells := 0, slots := 0, locals := 384 } : Room) 0 0 P [.ref a0, .int a1, .int a2, .int a3] (fun r P2 => IM P2 a0 ∧ EM [0, 28, 29, 30, 31, 32, 35, 36, 37, 38] a0 P P2 ∧ MW P2 a0 ∧ (-1 ≤ r.toInt ∧ r.toInt ≤ 9999)) := by
  refine enI (lv := [(0, .ref a0), (1, .int a1), (2, .int a2), (3, .int a3)]) (by decide) (Nat.le_of_ble_eq_true rfl) rfl (fun E D cy C Ci0 ret => ?_)
  have ha0 := I.2.1
  have J41 : ∀ (n41 : Nat) (P41 : PP) (v41_4 : Int32) (v41_5 : Int32), (9999 - v41_5.toInt).toNat < n41 → (IM P41 a0) → (EM [0, 28, 29, 30, 31, 32, 35, 36, 37, 38] a0 P P41) → (MW P41 a0) → (0 ≤ a1.toInt ∧ a1.toInt ≤ 3) → (0 ≤ a2.toInt ∧ a2.toInt ≤ 1) → (0 ≤ a3.toInt ∧ a3.toInt ≤ 1) → (-1 ≤ v41_4.toInt ∧ v41_4.toInt ≤ 9999) → (0 ≤ v41_5.toInt ∧ v41_5.toInt ≤ 9999) → (0 ≤ (pI P41 a0 0).toInt ∧ (pI P41 a0 0).toInt ≤ 0) → (∀ b, pR P41 a0 10 = some b → 1 ≤ (pI P41 b (a2.toInt.toNat)).toInt ∧ (pI P41 b (a2.toInt.toNat)).toInt ≤ 16) → G E ({ frames := 6, cells := 0, slots := 0, locals := 384 } : Room) D cy 6 P41 0 0 41 [(0, .ref a0), (1, .int a1), (2, .int a2), (3, .int a3), (4, .int v41_4), (5, .int v41_5)] [] := by
    intro n41
    induction n41 with
    | zero => intro P41 v41_4 v41_5 hm41 I41 X41 W41 hv41_1 hv41_2 hv41_3 hv41_4 hv41_5 hq41_0 hq41_1; omega
    | succ n41 ih41 =>
      intro P41 v41_4 v41_5 hm41 I41 X41 W41 hv41_1 hv41_2 hv41_3 hv41_4 hv41_5 hq41_0 hq41_1
      have h105569 := X41.at ha0
      obtain ⟨b105570, e105571, h105572⟩ := I41.fld (h105569) 10 13 2 rfl
      have hq41_1 := hq41_1 b105570 e105571
      have J87 : ∀ (P87 : PP) (v87_4 : Int32), (IM P87 a0) → (EM [0, 28, 29, 30, 31, 32, 35, 36, 37, 38] a0 P P87) → (MW P87 a0) → (0 ≤ a1.toInt ∧ a1.toInt ≤ 3) → (0 ≤ a2.toInt ∧ a2.toInt ≤ 1) → (0 ≤ a3.toInt ∧ a3.toInt ≤ 1) → (-1 ≤ v87_4.toInt ∧ v87_4.toInt ≤ 9999) → (0 ≤ v41_5.toInt ∧ v41_5.toInt ≤ 2047) → (0 ≤ (pI P87 a0 0).toInt ∧ (pI P87 a0 0).toInt ≤ 0) → (∀ b, pR P87 a0 10 = some b → 1 ≤ (pI P87 b (a2.toInt.toNat)).toInt ∧ (pI P87 b (a2.toInt.toNat)).toInt ≤ 16) → G E ({ frames := 6, cells := 0, slots := 0, locals := 384 } : Room) D cy 6 P87 0 0 87 [(0, .ref a0), (1, .int a1), (2, .int a2), (3, .int a3), (4, .int v87_4), (5, .int v41_5)] [] := by
        intro P87 v87_4 I87 X87 W87 hv87_1 hv87_2 hv87_3 hv87_4 hv87_5 hq87_0 hq87_1
        have h105573 := X87.at ha0
        obtain ⟨b105574, e105575, h105576⟩ := I87.fld (h105573) 10 13 2 rfl
        have hq87_1 := hq87_1 b105574 e105575
        refine s_iinc (lv0 := [(0, .ref a0), (1, .int a1), (2, .int a2), (3, .int a3), (4, .int v87_4)]) (m := 1) C dX12_tocome_87 5 rfl (by decide) rfl (by decide) (by omega) (fun z105577 h105578 => ?_)
        have h105578 : z105577.toInt = v41_5.toInt + 1 := h105578
        refine g_goto C 41 dX12_tocome_90 (by decide) ?_
        refine g_lv (lv' := [(0, .ref a0), (1, .int a1), (2, .int a2), (3, .int a3), (4, .int v87_4), (5, .int z105577)]) [1, 2, 3, 4, 5, 0] rfl ?_
        exact ih41 P87 v87_4 z105577 (by omega) I87 X87 W87 (by omega) (by omega) (by omega) (by omega) (by omega) (by omega) (fun b9 e9 => by rw [e105575] at e9; cases e9; omega)
      have J85 : ∀ (P85 : PP) (v85_s0 : Int32), (IM P85 a0) → (EM [0, 28, 29, 30, 31, 32, 35, 36, 37, 38] a0 P P85) → (MW P85 a0) → (0 ≤ a1.toInt ∧ a1.toInt ≤ 3) → (0 ≤ a2.toInt ∧ a2.toInt ≤ 1) → (0 ≤ a3.toInt ∧ a3.toInt ≤ 1) → (0 ≤ v41_5.toInt ∧ v41_5.toInt ≤ 2047) → (-1 ≤ v85_s0.toInt ∧ v85_s0.toInt ≤ 9999) → (0 ≤ (pI P85 a0 0).toInt ∧ (pI P85 a0 0).toInt ≤ 0) → (∀ b, pR P85 a0 10 = some b → 1 ≤ (pI P85 b (a2.toInt.toNat)).toInt ∧ (pI P85 b (a2.toInt.toNat)).toInt ≤ 16) → G E ({ frames := 6, cells := 0, slots := 0, locals := 384 } : Room) D cy 6 P85 0 0 85 [(0, .ref a0), (1, .int a1), (2, .int a2), (3, .int a3), (5, .int v41_5)] [.int v85_s0] := by
        intro P85 v85_s0 I85 X85 W85 hv85_1 hv85_2 hv85_3 hv85_5 hv85_s0 hq85_0 hq85_1
        have h105579 := X85.at ha0
        obtain ⟨b105580, e105581, h105582⟩ := I85.fld (h105579) 10 13 2 rfl
        have hq85_1 := hq85_1 b105580 e105581
        refine g_istore (lv' := [(4, .int v85_s0), (0, .ref a0), (1, .int a1), (2, .int a2), (3, .int a3), (5, .int v41_5)]) C dX12_tocome_85 (by decide) rfl ?_
        refine g_lv (lv' := [(0, .ref a0), (1, .int a1), (2, .int a2), (3, .int a3), (4, .int v85_s0), (5, .int v41_5)]) [1, 2, 3, 4, 0, 5] rfl ?_
        exact J87 P85 v85_s0 I85 X85 W85 (by omega) (by omega) (by omega) (by omega) (by omega) (by omega) (fun b9 e9 => by rw [e105581] at e9; cases e9; omega)
      have J67 : (0 ≤ a1.toInt ∧ a1.toInt ≤ 3) → (0 ≤ a2.toInt ∧ a2.toInt ≤ 1) → (0 ≤ a3.toInt ∧ a3.toInt ≤ 1) → (0 ≤ v41_5.toInt ∧ v41_5.toInt ≤ 2047) → (0 ≤ (pI P41 a0 0).toInt ∧ (pI P41 a0 0).toInt ≤ 0) → (∀ b, pR P41 a0 10 = some b → 1 ≤ (pI P41 b (a2.toInt.toNat)).toInt ∧ (pI P41 b (a2.toInt.toNat)).toInt ≤ 16) → G E ({ frames := 6, cells := 0, slots := 0, locals := 384 } : Room) D cy 6 P41 0 0 67 [(0, .ref a0), (1, .int a1), (2, .int a2), (3, .int a3), (4, .int v41_4), (5, .int v41_5)] [] := by
        intro hv67_1 hv67_2 hv67_3 hv67_5 hq67_0 hq67_1
        have h105583 := X41.at ha0
        obtain ⟨b105584, e105585, h105586⟩ := I41.fld (h105583) 10 13 2 rfl
        have hq67_1 := hq67_1 b105584 e105585
        refine g_aload_n C dX12_tocome_67 rfl 0 rfl ?_
        refine g_iload_n C dX12_tocome_68 rfl 1 rfl ?_
        refine g_iload_n C dX12_tocome_69 rfl 2 rfl ?_
        refine g_iload C dX12_tocome_70 5 rfl ?_
        refine g_callVI (rest := []) C mv_X12_374 [.int a1, .int a2, .int v41_5] (s_X12_isAllWith I41 (by omega) (by omega) (fun b9 e9 => by rw [e105585] at e9; cases e9; show 1 ≤ (pI P41 b105584 (a2.toInt.toNat)).toInt ∧ (pI P41 b105584 (a2.toInt.toNat)).toInt ≤ 16; omega) W41) (h105583).1 (h105583).2 rfl rfl (by decide) (Nat.le_of_ble_eq_true rfl) (by decide) dX12_tocome_72 (fun r105587 Y105588 h105589 => ?_)
        obtain ⟨Iy105590, Xy105591, W105592, h105589⟩ := h105589
        have q105593 := Xy105591.keepF 0 (by decide)
        have q105594 := Xy105591.keepA e105585 (by decide) rfl (a2.toInt.toNat)
        have Xz105595 : EM [0, 28, 29, 30, 31, 32, 35, 36, 37, 38] a0 P Y105588 := EM.tr ha0 X41 (Xy105591.mono (by decide))
        have e105596 := Xy105591.ref h105583 (by decide) e105585
        have h105597 := Xy105591.at h105583
        have h105598 := Xy105591.ar h105586
        have h105589 : 0 ≤ r105587.toInt ∧ r105587.toInt ≤ 1 := h105589
        refine b_if_eq C 83 dX12_tocome_75 (by decide) (fun h105599 => ?_) (fun h105599 => ?_)
        · have h105599 : r105587.toInt = 0 := congrArg Int32.toInt h105599
          refine g_iload C dX12_tocome_83 4 rfl ?_
          refine g_lv (lv' := [(0, .ref a0), (1, .int a1), (2, .int a2), (3, .int a3), (5, .int v41_5)]) [0, 1, 2, 3, 5] rfl ?_
          exact J85 Y105588 v41_4 Iy105590 Xz105595 W105592 (by omega) (by omega) (by omega) (by omega) (by omega) (by omega) (fun b9 e9 => by rw [e105596] at e9; cases e9; omega)
        · have h105599 : r105587.toInt ≠ 0 := ti_ne h105599
          refine g_iload C dX12_tocome_78 5 rfl ?_
          refine g_goto C 85 dX12_tocome_80 (by decide) ?_
          refine g_lv (lv' := [(0, .ref a0), (1, .int a1), (2, .int a2), (3, .int a3), (5, .int v41_5)]) [0, 1, 2, 3, 5] rfl ?_
          exact J85 Y105588 v41_5 Iy105590 Xz105595 W105592 (by omega) (by omega) (by omega) (by omega) (by omega) (by omega) (fun b9 e9 => by rw [e105596] at e9; cases e9; omega)
      refine g_iload C dX12_tocome_41 5 rfl ?_
      refine g_sipush (v := 2048) C dX12_tocome_43 (by decide) ?_
      refine b_icmp_ge C 93 dX12_tocome_46 (by decide) (fun h105600 => ?_) (fun h105600 => ?_)
      · have h105600 : 2048 ≤ v41_5.toInt := h105600
        refine g_iload C dX12_tocome_93 4 rfl ?_
        refine b_if_ge C 102 dX12_tocome_95 (by decide) (fun h105601 => ?_) (fun h105601 => ?_)
        · have h105601 : 0 ≤ v41_4.toInt := h105601
          refine g_iload_n C dX12_tocome_102 rfl 3 rfl ?_
          refine b_if_ne C 114 dX12_tocome_103 (by decide) (fun h105602 => ?_) (fun h105602 => ?_)
          · have h105602 : a3.toInt ≠ 0 := ti_ne h105602
            refine g_iload C dX12_tocome_114 4 rfl ?_
            exact ret _ _ _ _ _ _ dX12_tocome_116 rfl (by decide) (by decide) ⟨I41, X41, W41, (by omega)⟩
          · have h105602 : a3.toInt = 0 := congrArg Int32.toInt h105602
            refine g_iload C dX12_tocome_106 4 rfl ?_
            refine g_callSI (b := 0) (ci := 0) (rest := []) C ms_X12_264 [.int v41_4] (s_X12_bits I41.1) rfl rfl (by decide) (Nat.le_of_ble_eq_true rfl) (by decide) dX12_tocome_108 (fun r105603 Y105604 h105605 => ?_)
            obtain ⟨rfl, h105605⟩ := h105605
            obtain ⟨h105605, hi105606⟩ := h105605
            have hi105606 : r105603.toInt = 0 ∨ v41_4.toInt ≠ 0 := hi105606
            have h105605 : 0 ≤ r105603.toInt ∧ r105603.toInt ≤ 20 := h105605
            refine g_goto C 116 dX12_tocome_111 (by decide) ?_
            exact ret _ _ _ _ _ _ dX12_tocome_116 rfl (by decide) (by decide) ⟨I41, X41, W41, (by omega)⟩
        · have h105601 : v41_4.toInt < 0 := h105601
          refine g_iconst (v := (-1)) C dX12_tocome_98 (by decide) ?_
          refine g_goto C 116 dX12_tocome_99 (by decide) ?_
          exact ret _ _ _ _ _ _ dX12_tocome_116 rfl (by decide) (by decide) ⟨I41, X41, W41, (by decide)⟩
      · have h105600 : v41_5.toInt < 2048 := h105600
        refine g_iload C dX12_tocome_49 4 rfl ?_
        refine b_if_lt C 67 dX12_tocome_51 (by decide) (fun h105607 => ?_) (fun h105607 => ?_)
        · have h105607 : v41_4.toInt < 0 := h105607
          exact J67 (by omega) (by omega) (by omega) (by omega) (by omega) (fun b9 e9 => by rw [e105571] at e9; cases e9; omega)
        · have h105607 : 0 ≤ v41_4.toInt := h105607
          refine g_iload C dX12_tocome_54 5 rfl ?_
          refine g_callSI (b := 0) (ci := 0) (rest := []) C ms_X12_264 [.int v41_5] (s_X12_bits I41.1) rfl rfl (by decide) (Nat.le_of_ble_eq_true rfl) (by decide) dX12_tocome_56 (fun r105608 Y105609 h105610 => ?_)
          obtain ⟨rfl, h105610⟩ := h105610
          obtain ⟨h105610, hi105611⟩ := h105610
          have hi105611 : r105608.toInt = 0 ∨ v41_5.toInt ≠ 0 := hi105611
          have h105610 : 0 ≤ r105608.toInt ∧ r105608.toInt ≤ 20 := h105610
          refine g_iload C dX12_tocome_59 4 rfl ?_
          refine g_callSI (b := 0) (ci := 0) (rest := [.int r105608]) C ms_X12_264 [.int v41_4] (s_X12_bits I41.1) rfl rfl (by decide) (Nat.le_of_ble_eq_true rfl) (by decide) dX12_tocome_61 (fun r105612 Y105613 h105614 => ?_)
          obtain ⟨rfl, h105614⟩ := h105614
          obtain ⟨h105614, hi105615⟩ := h105614
          have hi105615 : r105612.toInt = 0 ∨ v41_4.toInt ≠ 0 := hi105615
          have h105614 : 0 ≤ r105612.toInt ∧ r105612.toInt ≤ 20 := h105614
          refine b_icmp_ge C 87 dX12_tocome_64 (by decide) (fun h105616 => ?_) (fun h105616 => ?_)
          · have h105616 : r105612.toInt ≤ r105608.toInt := h105616
            exact J87 P41 v41_4 I41 X41 W41 (by omega) (by omega) (by omega) (by omega) (by omega) (by omega) (fun b9 e9 => by rw [e105571] at e9; cases e9; omega)
          · have h105616 : r105608.toInt < r105612.toInt := h105616
            exact J67 (by omega) (by omega) (by omega) (by omega) (by omega) (fun b9 e9 => by rw [e105571] at e9; cases e9; omega)
  have J29 : ∀ (P29 : PP), (IM P29 a0) → (EM [0, 28, 29, 30, 31, 32, 35, 36, 37, 38] a0 P P29) → (MW P29 a0) → (0 ≤ (pI P29 a0 0).toInt ∧ (pI P29 a0 0).toInt ≤ 0) → G E ({ frames := 6, cells := 0, slots := 0, locals := 384 } : Room) D cy 6 P29 0 0 29 [] [] := by
    intro P29 I29 X29 W29 hq29_0
    have h105617 := X29.at ha0
    refine g_iconst (v := (-1)) C dX12_tocome_29 (by decide) ?_
    exact ret _ _ _ _ _ _ dX12_tocome_30 rfl (by decide) (by decide) ⟨I29, X29, W29, (by decide)⟩
  refine g_aload_n C dX12_tocome_0 rfl 0 rfl ?_
  refine g_iconst (v := 0) C dX12_tocome_1 (by decide) ?_
  refine g_putI C fi_X12_1 rfl (ha0).1 (ha0).2 dX12_tocome_2 ?_
  refine gqW (ks := [0]) (I.setI (rgOk.of rfl (by decide))) (EM.setI I (by decide)) (fun Y105618 Iy105619 Xy105620 w105621  => ?_)
  have w105621 : (pI Y105618 a0 0).toInt = 0 := w105621
  have W105622 := hW.keep I Xy105620 (by decide) (by decide) (by decide)
  have Xz105623 : EM [0, 28, 29, 30, 31, 32, 35, 36, 37, 38] a0 P Y105618 := Xy105620.mono (by decide)
  have h105624 := Xy105620.at ha0
  refine g_iload_n C dX12_tocome_5 rfl 1 rfl ?_
  refine g_callSI (b := 0) (ci := 0) (rest := []) C ms_X12_278 [.int a1] (s_X12_isQuarter Iy105619.1) rfl rfl (by decide) (Nat.le_of_ble_eq_true rfl) (by decide) dX12_tocome_6 (fun r105625 Y105626 h105627 => ?_)
  obtain ⟨rfl, h105627⟩ := h105627
  obtain ⟨h105627, hi105628⟩ := h105627
  have hi105628 : r105625.toInt = 0 ∨ (((0 : Int) ≤ a1.toInt ∧ a1.toInt ≤ (3 : Int))) := hi105628
  have h105627 : 0 ≤ r105625.toInt ∧ r105625.toInt ≤ 1 := h105627
  refine b_if_eq C 29 dX12_tocome_9 (by decide) (fun h105629 => ?_) (fun h105629 => ?_)
  · have h105629 : r105625.toInt = 0 := congrArg Int32.toInt h105629
    clear hi105628
    refine g_lv (lv' := []) [] rfl ?_
    exact J29 Y105618 Iy105619 Xz105623 W105622 (by omega)
  · have h105629 : r105625.toInt ≠ 0 := ti_ne h105629
    replace hi105628 := hi105628.resolve_left (by omega)
    refine g_aload_n C dX12_tocome_12 rfl 0 rfl ?_
    refine g_iload_n C dX12_tocome_13 rfl 2 rfl ?_
    refine g_callVI (rest := []) C mv_X12_192 [.int a2] (s_X12_isBook Iy105619 W105622) (h105624).1 (h105624).2 rfl rfl (by decide) (Nat.le_of_ble_eq_true rfl) (by decide) dX12_tocome_14 (fun r105630 Y105631 h105632 => ?_)
    obtain ⟨rfl, h105632⟩ := h105632
    obtain ⟨h105632, hi105633, hi105634⟩ := h105632
    have hi105633 : r105630.toInt = 0 ∨ (((0 : Int) ≤ a2.toInt ∧ a2.toInt ≤ (1 : Int))) := hi105633
    have h105632 : 0 ≤ r105630.toInt ∧ r105630.toInt ≤ 1 := h105632
    refine b_if_eq C 29 dX12_tocome_17 (by decide) (fun h105635 => ?_) (fun h105635 => ?_)
    · have h105635 : r105630.toInt = 0 := congrArg Int32.toInt h105635
      clear hi105633
      refine g_lv (lv' := []) [] rfl ?_
      exact J29 Y105618 Iy105619 Xz105623 W105622 (by omega)
    · have h105635 : r105630.toInt ≠ 0 := ti_ne h105635
      replace hi105633 := hi105633.resolve_left (by omega)
      obtain ⟨b105636, e105637, h105638⟩ := Iy105619.fld (h105624) 10 13 2 rfl
      have hi105634 := (hi105634.resolve_left (by omega)) b105636 e105637
      have hi105634 : 0 < (pI Y105618 b105636 (a2.toInt.toNat)).toInt := hi105634
      have h105639 := Iy105619.arr e105637 rfl (a2.toInt.toNat)
      refine g_iload_n C dX12_tocome_20 rfl 3 rfl ?_
      refine g_iconst (v := 0) C dX12_tocome_21 (by decide) ?_
      refine g_iconst (v := 1) C dX12_tocome_22 (by decide) ?_
      refine g_callSI (b := 0) (ci := 0) (rest := []) C ms_X12_178 [.int a3, .int 0, .int 1] (s_X12_within Iy105619.1) rfl rfl (by decide) (Nat.le_of_ble_eq_true rfl) (by decide) dX12_tocome_23 (fun r105640 Y105641 h105642 => ?_)
      obtain ⟨rfl, h105642⟩ := h105642
      obtain ⟨h105642, hi105643⟩ := h105642
      have hi105643 : r105640.toInt = 0 ∨ (0 ≤ a3.toInt ∧ a3.toInt ≤ 1) := hi105643
      have h105642 : 0 ≤ r105640.toInt ∧ r105640.toInt ≤ 1 := h105642
      refine b_if_ne C 31 dX12_tocome_26 (by decide) (fun h105644 => ?_) (fun h105644 => ?_)
      · have h105644 : r105640.toInt ≠ 0 := ti_ne h105644
        replace hi105643 := hi105643.resolve_left (by omega)
        refine g_aload_n C dX12_tocome_31 rfl 0 rfl ?_
        refine g_callVV (rest := []) C mv_X12_336 [] (s_X12_leavesNone Iy105619 W105622) (h105624).1 (h105624).2 rfl rfl (by decide) (Nat.le_of_ble_eq_true rfl) (by decide) dX12_tocome_32 (fun Y105646 h105647 => ?_)
        obtain ⟨Iy105648, Xy105649, W105650⟩ := h105647
        have q105651 := Xy105649.keepF 0 (by decide)
        have q105652 := Xy105649.keepA e105637 (by decide) rfl (a2.toInt.toNat)
        have Xz105653 : EM [0, 28, 29, 30, 31, 32, 35, 36, 37, 38] a0 P Y105646 := EM.tr ha0 Xz105623 (Xy105649.mono (by decide))
        have e105654 := Xy105649.ref h105624 (by decide) e105637
        have h105655 := Xy105649.at h105624
        have h105656 := Xy105649.ar h105638
        refine g_iconst (v := (-1)) C dX12_tocome_35 (by decide) ?_
        refine g_istore (lv' := [(4, .int (-1)), (0, .ref a0), (1, .int a1), (2, .int a2), (3, .int a3)]) C dX12_tocome_36 (by decide) rfl ?_
        refine g_iconst (v := 0) C dX12_tocome_38 (by decide) ?_
        refine g_istore (lv' := [(5, .int 0), (4, .int (-1)), (0, .ref a0), (1, .int a1), (2, .int a2), (3, .int a3)]) C dX12_tocome_39 (by decide) rfl ?_
        refine g_lv (lv' := [(0, .ref a0), (1, .int a1), (2, .int a2), (3, .int a3), (4, .int (-1)), (5, .int 0)]) [2, 3, 4, 5, 1, 0] rfl ?_
        exact J41 _ Y105646 (-1) 0 (Nat.lt_succ_self _) Iy105648 Xz105653 W105650 (by omega) (by omega) (by omega) (by decide) (by decide) (by omega) (fun b9 e9 => by rw [e105654] at e9; cases e9; omega)
      · have h105644 : r105640.toInt = 0 := congrArg Int32.toInt h105644
        clear hi105643
        refine g_lv (lv' := []) [] rfl ?_
        exact J29 Y105618 Iy105619 Xz105623 W105622 (by omega)
theorem dX12_told_0 : decode cX12_told 0 = .ok (.aload_n 0, 1) := by decide +kernel
theorem dX12_told_1 : decode cX12_told 1 = .ok (.iconst 0, 1) := by decide +kernel
theorem dX12_told_2 : decode cX12_told 2 = .ok (.putfield 1, 3) := by decide +kernel
theorem dX12_told_5 : decode cX12_told 5 = .ok (.aload_n 0, 1) := by decide +kernel
theorem dX12_told_6 : decode cX12_told 6 = .ok (.iload_n 1, 1) := by decide +kernel
theorem dX12_told_7 : decode cX12_told 7 = .ok (.invokevirtual 192, 3) := by decide +kernel
theorem dX12_told_10 : decode cX12_told 10 = .ok (.ifCond .eq 27, 3) := by decide +kernel
theorem dX12_told_13 : decode cX12_told 13 = .ok (.iload_n 2, 1) := by decide +kernel
theorem dX12_told_14 : decode cX12_told 14 = .ok (.iconst 0, 1) := by decide +kernel
theorem dX12_told_15 : decode cX12_told 15 = .ok (.aload_n 0, 1) := by decide +kernel
theorem dX12_told_16 : decode cX12_told 16 = .ok (.iload_n 1, 1) := by decide +kernel
theorem dX12_told_17 : decode cX12_told 17 = .ok (.invokevirtual 238, 3) := by decide +kernel
theorem dX12_told_20 : decode cX12_told 20 = .ok (.iconst 1, 1) := by decide +kernel
theorem dX12_told_21 : decode cX12_told 21 = .ok (.isub, 1) := by decide +kernel
theorem dX12_told_22 : decode cX12_told 22 = .ok (.invokestatic 178, 3) := by decide +kernel
theorem dX12_told_25 : decode cX12_told 25 = .ok (.ifCond .eq 12, 3) := by decide +kernel
theorem dX12_told_28 : decode cX12_told 28 = .ok (.aload_n 0, 1) := by decide +kernel
theorem dX12_told_29 : decode cX12_told 29 = .ok (.iload_n 1, 1) := by decide +kernel
theorem dX12_told_30 : decode cX12_told 30 = .ok (.iload_n 2, 1) := by decide +kernel
theorem dX12_told_31 : decode cX12_told 31 = .ok (.invokevirtual 271, 3) := by decide +kernel
theorem dX12_valueOf_0 : decode cX12_valueOf 0 = .ok (.iload_n 2, 1) := by decide +kernel
theorem dX12_valueOf_1 : decode cX12_valueOf 1 = .ok (.aload_n 0, 1) := by decide +kernel
theorem dX12_valueOf_2 : decode cX12_valueOf 2 = .ok (.getfield 45, 3) := by decide +kernel
theorem dX12_valueOf_5 : decode cX12_valueOf 5 = .ok (.iload_n 1, 1) := by decide +kernel
theorem dX12_valueOf_6 : decode cX12_valueOf 6 = .ok (.iaload, 1) := by decide +kernel
theorem dX12_valueOf_7 : decode cX12_valueOf 7 = .ok (.if_icmp .ge 15, 3) := by decide +kernel
theorem dX12_valueOf_10 : decode cX12_valueOf 10 = .ok (.aload_n 0, 1) := by decide +kernel
theorem dX12_valueOf_11 : decode cX12_valueOf 11 = .ok (.getfield 48, 3) := by decide +kernel
theorem dX12_valueOf_14 : decode cX12_valueOf 14 = .ok (.bipush 16, 2) := by decide +kernel
theorem dX12_valueOf_16 : decode cX12_valueOf 16 = .ok (.iload_n 1, 1) := by decide +kernel
theorem dX12_valueOf_17 : decode cX12_valueOf 17 = .ok (.imul, 1) := by decide +kernel
theorem dX12_valueOf_18 : decode cX12_valueOf 18 = .ok (.iload_n 2, 1) := by decide +kernel
theorem dX12_valueOf_19 : decode cX12_valueOf 19 = .ok (.iadd, 1) := by decide +kernel
theorem dX12_valueOf_20 : decode cX12_valueOf 20 = .ok (.iaload, 1) := by decide +kernel
theorem dX12_valueOf_21 : decode cX12_valueOf 21 = .ok (.ireturn, 1) := by decide +kernel
theorem dX12_valueOf_22 : decode cX12_valueOf 22 = .ok (.aload_n 0, 1) := by decide +kernel
theorem dX12_valueOf_23 : decode cX12_valueOf 23 = .ok (.iload_n 1, 1) := by decide +kernel
theorem dX12_valueOf_24 : decode cX12_valueOf 24 = .ok (.aload_n 0, 1) := by decide +kernel
theorem dX12_valueOf_25 : decode cX12_valueOf 25 = .ok (.getfield 63, 3) := by decide +kernel
theorem dX12_valueOf_28 : decode cX12_valueOf 28 = .ok (.iconst 4, 1) := by decide +kernel
theorem dX12_valueOf_29 : decode cX12_valueOf 29 = .ok (.iload_n 1, 1) := by decide +kernel
theorem dX12_valueOf_30 : decode cX12_valueOf 30 = .ok (.imul, 1) := by decide +kernel
theorem dX12_valueOf_31 : decode cX12_valueOf 31 = .ok (.iload_n 2, 1) := by decide +kernel
theorem dX12_valueOf_32 : decode cX12_valueOf 32 = .ok (.iadd, 1) := by decide +kernel
theorem dX12_valueOf_33 : decode cX12_valueOf 33 = .ok (.aload_n 0, 1) := by decide +kernel
theorem dX12_valueOf_34 : decode cX12_valueOf 34 = .ok (.getfield 45, 3) := by decide +kernel
theorem dX12_valueOf_37 : decode cX12_valueOf 37 = .ok (.iload_n 1, 1) := by decide +kernel
theorem dX12_valueOf_38 : decode cX12_valueOf 38 = .ok (.iaload, 1) := by decide +kernel
theorem dX12_valueOf_39 : decode cX12_valueOf 39 = .ok (.isub, 1) := by decide +kernel
theorem dX12_valueOf_40 : decode cX12_valueOf 40 = .ok (.iaload, 1) := by decide +kernel
theorem dX12_valueOf_41 : decode cX12_valueOf 41 = .ok (.invokevirtual 223, 3) := by decide +kernel
theorem dX12_valueOf_44 : decode cX12_valueOf 44 = .ok (.ireturn, 1) := by decide +kernel
set_option maxHeartbeats 4000000 in
set_option maxRecDepth 100000 in
theorem s_X12_valueOf {P : PP} {a0 : Nat} {a1 : Int32} {a2 : Int32} (I : IM P a0) (ha1 : 0 ≤ a1.toInt ∧ a1.toInt ≤ 1) (ha2 : 0 ≤ a2.toInt ∧ a2.toInt ≤ 19) (hW : MW P a0) (hv : ∀ b c, pR P a0 10 = some b → pR P a0 15 = some c → a2.toInt < (pI P b (a1.toInt.toNat)).toInt + (pI P c (a1.toInt.toNat)).toInt) : CtrI yX12_valueOf cX12_valueOf 3 (some Jvm.ClassFile.FieldType.int) ({ frames := 2, cells := 0, slots := 0, locals := 128 } : Room) 0 0 P [.ref a0, .int a1, .int a2] (fun r P2 => P = P2 ∧ (True)) := by
  refine enI (lv := [(0, .ref a0), (1, .int a1), (2, .int a2)]) (by decide) (Nat.le_of_ble_eq_true rfl) rfl (fun E D cy C Ci0 ret => ?_)
  have ha0 := I.2.1
  refine g_iload_n C dX12_valueOf_0 rfl 2 rfl ?_
  refine g_aload_n C dX12_valueOf_1 rfl 0 rfl ?_
  obtain ⟨b105717, e105718, h105719⟩ := I.fld (ha0) 10 13 2 rfl
  refine g_getR C fi_X12_45 rfl e105718 (ha0).1 (ha0).2 dX12_valueOf_2 ?_
  refine g_iload_n C dX12_valueOf_5 rfl 1 rfl ?_
  refine g_iald (j := (a1.toInt.toNat)) C h105719.1 h105719.2.1 (ix_in h105719.2.2 (by omega)) dX12_valueOf_6 ?_
  have h105720 := I.arr e105718 rfl (a1.toInt.toNat)
  refine b_icmp_ge C 22 dX12_valueOf_7 (by decide) (fun h105721 => ?_) (fun h105721 => ?_)
  · have h105721 : (pI P b105717 (a1.toInt.toNat)).toInt ≤ a2.toInt := h105721
    obtain ⟨b105722, e105723, h105724⟩ := I.fld (ha0) 15 13 3 rfl
    have hv := hv b105717 b105722 e105718 e105723
    have h105725 := I.arr e105723 rfl (a1.toInt.toNat)
    refine g_aload_n C dX12_valueOf_22 rfl 0 rfl ?_
    refine g_iload_n C dX12_valueOf_23 rfl 1 rfl ?_
    refine g_aload_n C dX12_valueOf_24 rfl 0 rfl ?_
    obtain ⟨b105726, e105727, h105728⟩ := I.fld (ha0) 16 13 12 rfl
    refine g_getR C fi_X12_63 rfl e105727 (ha0).1 (ha0).2 dX12_valueOf_25 ?_
    refine g_iconst (v := 4) C dX12_valueOf_28 (by decide) ?_
    refine g_iload_n C dX12_valueOf_29 rfl 1 rfl ?_
    refine s_imul C dX12_valueOf_30 (by show -2147483648 ≤ 4 * a1.toInt ∧ 4 * a1.toInt ≤ 2147483647; omega) (fun z105729 h105730 => ?_)
    have h105730 : z105729.toInt = 4 * a1.toInt := h105730
    refine g_iload_n C dX12_valueOf_31 rfl 2 rfl ?_
    refine s_iadd C dX12_valueOf_32 (by show -2147483648 ≤ z105729.toInt + a2.toInt ∧ z105729.toInt + a2.toInt ≤ 2147483647; omega) (fun z105731 h105732 => ?_)
    have h105732 : z105731.toInt = z105729.toInt + a2.toInt := h105732
    refine g_aload_n C dX12_valueOf_33 rfl 0 rfl ?_
    refine g_getR C fi_X12_45 rfl e105718 (ha0).1 (ha0).2 dX12_valueOf_34 ?_
    refine g_iload_n C dX12_valueOf_37 rfl 1 rfl ?_
    refine g_iald (j := (a1.toInt.toNat)) C h105719.1 h105719.2.1 (ix_in h105719.2.2 (by omega)) dX12_valueOf_38 ?_
    refine s_isub C dX12_valueOf_39 (by show -2147483648 ≤ z105731.toInt - (pI P b105717 (a1.toInt.toNat)).toInt ∧ z105731.toInt - (pI P b105717 (a1.toInt.toNat)).toInt ≤ 2147483647; omega) (fun z105733 h105734 => ?_)
    have h105734 : z105733.toInt = z105731.toInt - (pI P b105717 (a1.toInt.toNat)).toInt := h105734
    refine g_iald (j := (z105733.toInt.toNat)) C h105728.1 h105728.2.1 (ix_in h105728.2.2 (by omega)) dX12_valueOf_40 ?_
    refine g_callVI (rest := []) C mv_X12_223 [.int a1, .int (pI P b105726 (z105733.toInt.toNat))] (s_X12_sumOf I (by omega) hW) (ha0).1 (ha0).2 rfl rfl (by decide) (Nat.le_of_ble_eq_true rfl) (by decide) dX12_valueOf_41 (fun r105735 Y105736 h105737 => ?_)
    obtain ⟨rfl, h105737⟩ := h105737
    have h105737 : True := h105737
    exact ret _ _ _ _ _ _ dX12_valueOf_44 rfl (by decide) (by decide) ⟨rfl, trivial⟩
  · have h105721 : a2.toInt < (pI P b105717 (a1.toInt.toNat)).toInt := h105721
    refine g_aload_n C dX12_valueOf_10 rfl 0 rfl ?_
    obtain ⟨b105738, e105739, h105740⟩ := I.fld (ha0) 11 13 32 rfl
    refine g_getR C fi_X12_48 rfl e105739 (ha0).1 (ha0).2 dX12_valueOf_11 ?_
    refine g_bipush (v := 16) C dX12_valueOf_14 (by decide) ?_
    refine g_iload_n C dX12_valueOf_16 rfl 1 rfl ?_
    refine s_imul C dX12_valueOf_17 (by show -2147483648 ≤ 16 * a1.toInt ∧ 16 * a1.toInt ≤ 2147483647; omega) (fun z105741 h105742 => ?_)
    have h105742 : z105741.toInt = 16 * a1.toInt := h105742
    refine g_iload_n C dX12_valueOf_18 rfl 2 rfl ?_
    refine s_iadd C dX12_valueOf_19 (by show -2147483648 ≤ z105741.toInt + a2.toInt ∧ z105741.toInt + a2.toInt ≤ 2147483647; omega) (fun z105743 h105744 => ?_)
    have h105744 : z105743.toInt = z105741.toInt + a2.toInt := h105744
    refine g_iald (j := (z105743.toInt.toNat)) C h105740.1 h105740.2.1 (ix_in h105740.2.2 (by omega)) dX12_valueOf_20 ?_
    exact ret _ _ _ _ _ _ dX12_valueOf_21 rfl (by decide) (by decide) ⟨rfl, trivial⟩
theorem dX12_told_34 : decode cX12_told 34 = .ok (.goto 4, 3) := by decide +kernel
theorem dX12_told_37 : decode cX12_told 37 = .ok (.iconst (-1), 1) := by decide +kernel
theorem dX12_told_38 : decode cX12_told 38 = .ok (.ireturn, 1) := by decide +kernel
set_option maxHeartbeats 4000000 in
set_option maxRecDepth 100000 in
theorem s_X12_told {P : PP} {a0 : Nat} {a1 : Int32} {a2 : Int32} (I : IM P a0) (hW : MW P a0) : CtrI yX12_told cX12_told 3 (some Jvm.ClassFile.FieldType.int) ({ frames := 3, cells := 0, slots := 0, locals := 192 } : Room) 0 0 P [.ref a0, .int a1, .int a2] (fun r P2 => IM P2 a0 ∧ EM [0] a0 P P2 ∧ MW P2 a0 ∧ (True)) := by
  refine enI (lv := [(0, .ref a0), (1, .int a1), (2, .int a2)]) (by decide) (Nat.le_of_ble_eq_true rfl) rfl (fun E D cy C Ci0 ret => ?_)
  have ha0 := I.2.1
  have J37 : ∀ (P37 : PP), (IM P37 a0) → (EM [0] a0 P P37) → (MW P37 a0) → (0 ≤ (pI P37 a0 0).toInt ∧ (pI P37 a0 0).toInt ≤ 0) → G E ({ frames := 3, cells := 0, slots := 0, locals := 192 } : Room) D cy 3 P37 0 0 37 [] [] := by
    intro P37 I37 X37 W37 hq37_0
    have h105781 := X37.at ha0
    refine g_iconst (v := (-1)) C dX12_told_37 (by decide) ?_
    exact ret _ _ _ _ _ _ dX12_told_38 rfl (by decide) (by decide) ⟨I37, X37, W37, trivial⟩
  refine g_aload_n C dX12_told_0 rfl 0 rfl ?_
  refine g_iconst (v := 0) C dX12_told_1 (by decide) ?_
  refine g_putI C fi_X12_1 rfl (ha0).1 (ha0).2 dX12_told_2 ?_
  refine gqW (ks := [0]) (I.setI (rgOk.of rfl (by decide))) (EM.setI I (by decide)) (fun Y105782 Iy105783 Xy105784 w105785  => ?_)
  have w105785 : (pI Y105782 a0 0).toInt = 0 := w105785
  have W105786 := hW.keep I Xy105784 (by decide) (by decide) (by decide)
  have Xz105787 : EM [0] a0 P Y105782 := Xy105784.mono (by decide)
  have h105788 := Xy105784.at ha0
  refine g_aload_n C dX12_told_5 rfl 0 rfl ?_
  refine g_iload_n C dX12_told_6 rfl 1 rfl ?_
  refine g_callVI (rest := []) C mv_X12_192 [.int a1] (s_X12_isBook Iy105783 W105786) (h105788).1 (h105788).2 rfl rfl (by decide) (Nat.le_of_ble_eq_true rfl) (by decide) dX12_told_7 (fun r105789 Y105790 h105791 => ?_)
  obtain ⟨rfl, h105791⟩ := h105791
  obtain ⟨h105791, hi105792, hi105793⟩ := h105791
  have hi105792 : r105789.toInt = 0 ∨ (((0 : Int) ≤ a1.toInt ∧ a1.toInt ≤ (1 : Int))) := hi105792
  have h105791 : 0 ≤ r105789.toInt ∧ r105789.toInt ≤ 1 := h105791
  refine b_if_eq C 37 dX12_told_10 (by decide) (fun h105794 => ?_) (fun h105794 => ?_)
  · have h105794 : r105789.toInt = 0 := congrArg Int32.toInt h105794
    clear hi105792
    refine g_lv (lv' := []) [] rfl ?_
    exact J37 Y105782 Iy105783 Xz105787 W105786 (by omega)
  · have h105794 : r105789.toInt ≠ 0 := ti_ne h105794
    replace hi105792 := hi105792.resolve_left (by omega)
    obtain ⟨b105795, e105796, h105797⟩ := Iy105783.fld (h105788) 10 13 2 rfl
    have hi105793 := (hi105793.resolve_left (by omega)) b105795 e105796
    have hi105793 : 0 < (pI Y105782 b105795 (a1.toInt.toNat)).toInt := hi105793
    have h105798 := Iy105783.arr e105796 rfl (a1.toInt.toNat)
    refine g_iload_n C dX12_told_13 rfl 2 rfl ?_
    refine g_iconst (v := 0) C dX12_told_14 (by decide) ?_
    refine g_aload_n C dX12_told_15 rfl 0 rfl ?_
    refine g_iload_n C dX12_told_16 rfl 1 rfl ?_
    refine g_callVI (rest := [.int 0, .int a2]) C mv_X12_238 [.int a1] (s_X12_allOf Iy105783 (by omega) W105786) (h105788).1 (h105788).2 rfl rfl (by decide) (Nat.le_of_ble_eq_true rfl) (by decide) dX12_told_17 (fun r105799 Y105800 h105801 => ?_)
    obtain ⟨rfl, h105801⟩ := h105801
    obtain ⟨h105801, hi105802⟩ := h105801
    obtain ⟨b105803, e105804, h105805⟩ := Iy105783.fld (h105788) 15 13 3 rfl
    have hi105802 : (r105799.toInt = 0 ∧ (pI Y105782 b105795 (a1.toInt.toNat)).toInt = 0) ∨ r105799.toInt = (pI Y105782 b105795 (a1.toInt.toNat)).toInt + (pI Y105782 b105803 (a1.toInt.toNat)).toInt := hi105802 b105795 b105803 e105796 e105804
    have h105806 := Iy105783.arr e105804 rfl (a1.toInt.toNat)
    have h105801 : 0 ≤ r105799.toInt ∧ r105799.toInt ≤ 20 := h105801
    refine g_iconst (v := 1) C dX12_told_20 (by decide) ?_
    refine s_isub C dX12_told_21 (by show -2147483648 ≤ r105799.toInt - 1 ∧ r105799.toInt - 1 ≤ 2147483647; omega) (fun z105807 h105808 => ?_)
    have h105808 : z105807.toInt = r105799.toInt - 1 := h105808
    refine g_callSI (b := 0) (ci := 0) (rest := []) C ms_X12_178 [.int a2, .int 0, .int z105807] (s_X12_within Iy105783.1) rfl rfl (by decide) (Nat.le_of_ble_eq_true rfl) (by decide) dX12_told_22 (fun r105809 Y105810 h105811 => ?_)
    obtain ⟨rfl, h105811⟩ := h105811
    obtain ⟨h105811, hi105812⟩ := h105811
    have hi105812 : r105809.toInt = 0 ∨ (0 ≤ a2.toInt ∧ a2.toInt ≤ z105807.toInt) := hi105812
    have h105811 : 0 ≤ r105809.toInt ∧ r105809.toInt ≤ 1 := h105811
    refine b_if_eq C 37 dX12_told_25 (by decide) (fun h105813 => ?_) (fun h105813 => ?_)
    · have h105813 : r105809.toInt = 0 := congrArg Int32.toInt h105813
      clear hi105812
      refine g_lv (lv' := []) [] rfl ?_
      exact J37 Y105782 Iy105783 Xz105787 W105786 (by omega)
    · have h105813 : r105809.toInt ≠ 0 := ti_ne h105813
      replace hi105812 := hi105812.resolve_left (by omega)
      refine g_aload_n C dX12_told_28 rfl 0 rfl ?_
      refine g_iload_n C dX12_told_29 rfl 1 rfl ?_
      refine g_iload_n C dX12_told_30 rfl 2 rfl ?_
      refine g_callVI (rest := []) C mv_X12_271 [.int a1, .int a2] (s_X12_valueOf Iy105783 (by omega) (by omega) W105786 (fun b9 c9 e9 f9 => by rw [e105796] at e9; cases e9; rw [e105804] at f9; cases f9; show a2.toInt < (pI Y105782 b105795 (a1.toInt.toNat)).toInt + (pI Y105782 b105803 (a1.toInt.toNat)).toInt; omega)) (h105788).1 (h105788).2 rfl rfl (by decide) (Nat.le_of_ble_eq_true rfl) (by decide) dX12_told_31 (fun r105814 Y105815 h105816 => ?_)
      obtain ⟨rfl, h105816⟩ := h105816
      have h105816 : True := h105816
      refine g_goto C 38 dX12_told_34 (by decide) ?_
      exact ret _ _ _ _ _ _ dX12_told_38 rfl (by decide) (by decide) ⟨Iy105783, Xz105787, W105786, trivial⟩
theorem dX12_town_0 : decode cX12_town 0 = .ok (.aload_n 0, 1) := by decide +kernel
theorem dX12_town_1 : decode cX12_town 1 = .ok (.iconst 0, 1) := by decide +kernel
theorem dX12_town_2 : decode cX12_town 2 = .ok (.putfield 1, 3) := by decide +kernel
theorem dX12_town_5 : decode cX12_town 5 = .ok (.aload_n 0, 1) := by decide +kernel
theorem dX12_town_6 : decode cX12_town 6 = .ok (.iload_n 1, 1) := by decide +kernel
theorem dX12_town_7 : decode cX12_town 7 = .ok (.invokevirtual 192, 3) := by decide +kernel
theorem dX12_town_10 : decode cX12_town 10 = .ok (.ifCond .eq 13, 3) := by decide +kernel
theorem dX12_town_13 : decode cX12_town 13 = .ok (.iload_n 2, 1) := by decide +kernel
theorem dX12_town_14 : decode cX12_town 14 = .ok (.iconst 0, 1) := by decide +kernel
theorem dX12_town_15 : decode cX12_town 15 = .ok (.bipush 100, 2) := by decide +kernel
theorem dX12_town_17 : decode cX12_town 17 = .ok (.invokestatic 178, 3) := by decide +kernel
theorem dX12_town_20 : decode cX12_town 20 = .ok (.ifCond .ne 5, 3) := by decide +kernel
theorem dX12_town_23 : decode cX12_town 23 = .ok (.iconst (-1), 1) := by decide +kernel
theorem dX12_town_24 : decode cX12_town 24 = .ok (.ireturn, 1) := by decide +kernel
theorem dX12_town_25 : decode cX12_town 25 = .ok (.iconst 0, 1) := by decide +kernel
theorem dX12_town_26 : decode cX12_town 26 = .ok (.istore_n 3, 1) := by decide +kernel
theorem dX12_town_27 : decode cX12_town 27 = .ok (.iload_n 3, 1) := by decide +kernel
theorem dX12_town_28 : decode cX12_town 28 = .ok (.iconst 4, 1) := by decide +kernel
theorem dX12_town_29 : decode cX12_town 29 = .ok (.if_icmp .ge 21, 3) := by decide +kernel
theorem dX12_town_32 : decode cX12_town 32 = .ok (.aload_n 0, 1) := by decide +kernel
theorem dX12_town_33 : decode cX12_town 33 = .ok (.getfield 133, 3) := by decide +kernel
theorem dX12_town_36 : decode cX12_town 36 = .ok (.iload_n 3, 1) := by decide +kernel
theorem dX12_town_37 : decode cX12_town 37 = .ok (.aload_n 0, 1) := by decide +kernel
theorem dX12_town_38 : decode cX12_town 38 = .ok (.iload_n 3, 1) := by decide +kernel
theorem dX12_town_39 : decode cX12_town 39 = .ok (.iload_n 1, 1) := by decide +kernel
theorem dX12_town_40 : decode cX12_town 40 = .ok (.invokevirtual 408, 3) := by decide +kernel
theorem dX12_town_43 : decode cX12_town 43 = .ok (.iastore, 1) := by decide +kernel
theorem dX12_town_44 : decode cX12_town 44 = .ok (.iinc 3 1, 3) := by decide +kernel
theorem dX12_town_47 : decode cX12_town 47 = .ok (.goto (-20), 3) := by decide +kernel
theorem dX12_town_50 : decode cX12_town 50 = .ok (.iconst 0, 1) := by decide +kernel
theorem dX12_town_51 : decode cX12_town 51 = .ok (.istore_n 3, 1) := by decide +kernel
theorem dX12_town_52 : decode cX12_town 52 = .ok (.iload_n 3, 1) := by decide +kernel
theorem dX12_town_53 : decode cX12_town 53 = .ok (.bipush 60, 2) := by decide +kernel
theorem dX12_town_55 : decode cX12_town 55 = .ok (.if_icmp .gt 70, 3) := by decide +kernel
theorem dX12_town_58 : decode cX12_town 58 = .ok (.iconst 0, 1) := by decide +kernel
theorem dX12_town_59 : decode cX12_town 59 = .ok (.istore 4, 2) := by decide +kernel
theorem dX12_town_61 : decode cX12_town 61 = .ok (.iconst 0, 1) := by decide +kernel
theorem dX12_town_62 : decode cX12_town 62 = .ok (.istore 5, 2) := by decide +kernel
theorem dX12_town_64 : decode cX12_town 64 = .ok (.iload 5, 2) := by decide +kernel
theorem dX12_town_66 : decode cX12_town 66 = .ok (.iconst 4, 1) := by decide +kernel
theorem dX12_town_67 : decode cX12_town 67 = .ok (.if_icmp .ge 36, 3) := by decide +kernel
theorem dX12_town_70 : decode cX12_town 70 = .ok (.iload 4, 2) := by decide +kernel
theorem dX12_town_72 : decode cX12_town 72 = .ok (.aload_n 0, 1) := by decide +kernel
theorem dX12_town_73 : decode cX12_town 73 = .ok (.getfield 133, 3) := by decide +kernel
theorem dX12_town_76 : decode cX12_town 76 = .ok (.iload 5, 2) := by decide +kernel
theorem dX12_town_78 : decode cX12_town 78 = .ok (.iaload, 1) := by decide +kernel
theorem dX12_town_79 : decode cX12_town 79 = .ok (.iload_n 3, 1) := by decide +kernel
theorem dX12_town_80 : decode cX12_town 80 = .ok (.if_icmp .gt 13, 3) := by decide +kernel
theorem dX12_town_83 : decode cX12_town 83 = .ok (.aload_n 0, 1) := by decide +kernel
theorem dX12_town_84 : decode cX12_town 84 = .ok (.getfield 130, 3) := by decide +kernel
theorem dX12_town_87 : decode cX12_town 87 = .ok (.iload 5, 2) := by decide +kernel
theorem dX12_town_89 : decode cX12_town 89 = .ok (.iaload, 1) := by decide +kernel
theorem dX12_town_90 : decode cX12_town 90 = .ok (.goto 4, 3) := by decide +kernel
theorem dX12_town_93 : decode cX12_town 93 = .ok (.iconst 0, 1) := by decide +kernel
theorem dX12_town_94 : decode cX12_town 94 = .ok (.iadd, 1) := by decide +kernel
theorem dX12_town_95 : decode cX12_town 95 = .ok (.istore 4, 2) := by decide +kernel
theorem dX12_town_97 : decode cX12_town 97 = .ok (.iinc 5 1, 3) := by decide +kernel
theorem dX12_town_100 : decode cX12_town 100 = .ok (.goto (-36), 3) := by decide +kernel
theorem dX12_town_103 : decode cX12_town 103 = .ok (.bipush 100, 2) := by decide +kernel
theorem dX12_town_105 : decode cX12_town 105 = .ok (.iload 4, 2) := by decide +kernel
theorem dX12_town_107 : decode cX12_town 107 = .ok (.imul, 1) := by decide +kernel
theorem dX12_town_108 : decode cX12_town 108 = .ok (.iload_n 2, 1) := by decide +kernel
theorem dX12_town_109 : decode cX12_town 109 = .ok (.aload_n 0, 1) := by decide +kernel
theorem dX12_town_110 : decode cX12_town 110 = .ok (.invokevirtual 411, 3) := by decide +kernel
theorem dX12_town_113 : decode cX12_town 113 = .ok (.imul, 1) := by decide +kernel
theorem dX12_town_114 : decode cX12_town 114 = .ok (.if_icmp .lt 5, 3) := by decide +kernel
theorem dX12_town_117 : decode cX12_town 117 = .ok (.iload_n 3, 1) := by decide +kernel
theorem dX12_town_118 : decode cX12_town 118 = .ok (.ireturn, 1) := by decide +kernel
theorem dX12_town_119 : decode cX12_town 119 = .ok (.iinc 3 1, 3) := by decide +kernel
theorem dX12_town_122 : decode cX12_town 122 = .ok (.goto (-70), 3) := by decide +kernel
theorem dX12_town_125 : decode cX12_town 125 = .ok (.iconst (-1), 1) := by decide +kernel
theorem dX12_town_126 : decode cX12_town 126 = .ok (.ireturn, 1) := by decide +kernel
set_option maxHeartbeats 4000000 in
set_option maxRecDepth 100000 in
theorem s_X12_town {P : PP} {a0 : Nat} {a1 : Int32} {a2 : Int32} (I : IM P a0) (hW : MW P a0) : CtrI yX12_town cX12_town 6 (some Jvm.ClassFile.FieldType.int) ({ frames := 5, cells := 0, slots := 0, locals := 320 } : Room) 0 0 P [.ref a0, .int a1, .int a2] (fun r P2 => IM P2 a0 ∧ EM [0, 28, 29, 30, 31, 35, 36, 37, 38, 47] a0 P P2 ∧ MW P2 a0 ∧ (-1 ≤ r.toInt ∧ r.toInt ≤ 60)) := by
  refine enI (lv := [(0, .ref a0), (1, .int a1), (2, .int a2)]) (by decide) (Nat.le_of_ble_eq_true rfl) rfl (fun E D cy C Ci0 ret => ?_)
  have ha0 := I.2.1
  have J52 : ∀ (n52 : Nat) (P52 : PP) (v52_3 : Int32), (61 - v52_3.toInt).toNat < n52 → (IM P52 a0) → (EM [0, 28, 29, 30, 31, 35, 36, 37, 38, 47] a0 P P52) → (MW P52 a0) → (0 ≤ a2.toInt ∧ a2.toInt ≤ 100) → (0 ≤ v52_3.toInt ∧ v52_3.toInt ≤ 61) → (0 ≤ (pI P52 a0 0).toInt ∧ (pI P52 a0 0).toInt ≤ 0) → (∀ b, pR P52 a0 10 = some b → 1 ≤ (pI P52 b (a1.toInt.toNat)).toInt ∧ (pI P52 b (a1.toInt.toNat)).toInt ≤ 16) → G E ({ frames := 5, cells := 0, slots := 0, locals := 320 } : Room) D cy 6 P52 0 0 52 [(0, .ref a0), (2, .int a2), (3, .int v52_3)] [] := by
    intro n52
    induction n52 with
    | zero => intro P52 v52_3 hm52 I52 X52 W52 hv52_2 hv52_3 hq52_0 hq52_1; omega
    | succ n52 ih52 =>
      intro P52 v52_3 hm52 I52 X52 W52 hv52_2 hv52_3 hq52_0 hq52_1
      have h106935 := X52.at ha0
      obtain ⟨b106936, e106937, h106938⟩ := I52.fld (h106935) 10 13 2 rfl
      have hq52_1 := hq52_1 b106936 e106937
      have J64 : ∀ (n64 : Nat) (v64_4 : Int32) (v64_5 : Int32), (4 - v64_5.toInt).toNat < n64 → (0 ≤ a2.toInt ∧ a2.toInt ≤ 100) → (0 ≤ v52_3.toInt ∧ v52_3.toInt ≤ 60) → (0 ≤ v64_5.toInt ∧ v64_5.toInt ≤ 4) → (0 ≤ (pI P52 a0 0).toInt ∧ (pI P52 a0 0).toInt ≤ 0) → (∀ b, pR P52 a0 10 = some b → 1 ≤ (pI P52 b (a1.toInt.toNat)).toInt ∧ (pI P52 b (a1.toInt.toNat)).toInt ≤ 16) → G E ({ frames := 5, cells := 0, slots := 0, locals := 320 } : Room) D cy 6 P52 0 0 64 [(0, .ref a0), (2, .int a2), (3, .int v52_3), (4, .int v64_4), (5, .int v64_5)] [] := by
        intro n64
        induction n64 with
        | zero => intro v64_4 v64_5 hm64 hv64_2 hv64_3 hv64_5 hq64_0 hq64_1; omega
        | succ n64 ih64 =>
          intro v64_4 v64_5 hm64 hv64_2 hv64_3 hv64_5 hq64_0 hq64_1
          have h106939 := X52.at ha0
          obtain ⟨b106940, e106941, h106942⟩ := I52.fld (h106939) 10 13 2 rfl
          have hq64_1 := hq64_1 b106940 e106941
          have J94 : ∀ (v94_s0 : Int32), (0 ≤ a2.toInt ∧ a2.toInt ≤ 100) → (0 ≤ v52_3.toInt ∧ v52_3.toInt ≤ 60) → (0 ≤ v64_5.toInt ∧ v64_5.toInt ≤ 3) → (0 ≤ (pI P52 a0 0).toInt ∧ (pI P52 a0 0).toInt ≤ 0) → (∀ b, pR P52 a0 10 = some b → 1 ≤ (pI P52 b (a1.toInt.toNat)).toInt ∧ (pI P52 b (a1.toInt.toNat)).toInt ≤ 16) → (∀ b, pR P52 a0 47 = some b → (pI P52 b (v64_5.toInt.toNat)).toInt ≤ 2147483647) → G E ({ frames := 5, cells := 0, slots := 0, locals := 320 } : Room) D cy 6 P52 0 0 94 [(0, .ref a0), (2, .int a2), (3, .int v52_3), (5, .int v64_5)] [.int v94_s0, .int v64_4] := by
            intro v94_s0 hv94_2 hv94_3 hv94_5 hq94_0 hq94_1 hq94_2
            have h106943 := X52.at ha0
            obtain ⟨b106944, e106945, h106946⟩ := I52.fld (h106943) 10 13 2 rfl
            have hq94_1 := hq94_1 b106944 e106945
            obtain ⟨b106947, e106948, h106949⟩ := I52.fld (h106943) 47 13 4 rfl
            have hq94_2 := hq94_2 b106947 e106948
            refine a_iadd C dX12_town_94 (fun z106950 => ?_)
            refine g_istore (lv' := [(4, .int z106950), (0, .ref a0), (2, .int a2), (3, .int v52_3), (5, .int v64_5)]) C dX12_town_95 (by decide) rfl ?_
            refine s_iinc (lv0 := [(4, .int z106950), (0, .ref a0), (2, .int a2), (3, .int v52_3)]) (m := 1) C dX12_town_97 4 rfl (by decide) rfl (by decide) (by omega) (fun z106952 h106953 => ?_)
            have h106953 : z106952.toInt = v64_5.toInt + 1 := h106953
            refine g_goto C 64 dX12_town_100 (by decide) ?_
            refine g_lv (lv' := [(0, .ref a0), (2, .int a2), (3, .int v52_3), (4, .int z106950), (5, .int z106952)]) [2, 3, 4, 1, 0] rfl ?_
            exact ih64 z106950 z106952 (by omega) (by omega) (by omega) (by omega) (by omega) (fun b9 e9 => by rw [e106945] at e9; cases e9; omega)
          refine g_iload C dX12_town_64 4 rfl ?_
          refine g_iconst (v := 4) C dX12_town_66 (by decide) ?_
          refine b_icmp_ge C 103 dX12_town_67 (by decide) (fun h106954 => ?_) (fun h106954 => ?_)
          · have h106954 : 4 ≤ v64_5.toInt := h106954
            refine g_bipush (v := 100) C dX12_town_103 (by decide) ?_
            refine g_iload C dX12_town_105 3 rfl ?_
            refine a_imul C dX12_town_107 (fun z106955 => ?_)
            refine g_iload_n C dX12_town_108 rfl 1 rfl ?_
            refine g_aload_n C dX12_town_109 rfl 0 rfl ?_
            refine g_callVI (rest := [.int a2, .int z106955]) C mv_X12_411 [] (s_X12_allHouses I52 W52) (h106939).1 (h106939).2 rfl rfl (by decide) (Nat.le_of_ble_eq_true rfl) (by decide) dX12_town_110 (fun r106957 Y106958 h106959 => ?_)
            obtain ⟨rfl, h106959⟩ := h106959
            have h106959 : True := h106959
            refine a_imul C dX12_town_113 (fun z106960 => ?_)
            have u106963 := ti_rng z106955
            have u106964 := ti_rng z106960
            refine b_icmp_lt C 119 dX12_town_114 (by decide) (fun h106962 => ?_) (fun h106962 => ?_)
            · have h106962 : z106955.toInt < z106960.toInt := h106962
              refine s_iinc (lv0 := [(0, .ref a0), (2, .int a2), (4, .int v64_4), (5, .int v64_5)]) (m := 1) C dX12_town_119 2 rfl (by decide) rfl (by decide) (by omega) (fun z106965 h106966 => ?_)
              have h106966 : z106965.toInt = v52_3.toInt + 1 := h106966
              refine g_goto C 52 dX12_town_122 (by decide) ?_
              refine g_lv (lv' := [(0, .ref a0), (2, .int a2), (3, .int z106965)]) [1, 2, 0] rfl ?_
              exact ih52 P52 z106965 (by omega) I52 X52 W52 (by omega) (by omega) (by omega) (fun b9 e9 => by rw [e106941] at e9; cases e9; omega)
            · have h106962 : z106960.toInt ≤ z106955.toInt := h106962
              refine g_iload_n C dX12_town_117 rfl 2 rfl ?_
              exact ret _ _ _ _ _ _ dX12_town_118 rfl (by decide) (by decide) ⟨I52, X52, W52, (by omega)⟩
          · have h106954 : v64_5.toInt < 4 := h106954
            refine g_iload C dX12_town_70 3 rfl ?_
            refine g_aload_n C dX12_town_72 rfl 0 rfl ?_
            obtain ⟨b106967, e106968, h106969⟩ := I52.fld (h106939) 47 13 4 rfl
            refine g_getR C fi_X12_133 rfl e106968 (h106939).1 (h106939).2 dX12_town_73 ?_
            refine g_iload C dX12_town_76 4 rfl ?_
            refine g_iald (j := (v64_5.toInt.toNat)) C h106969.1 h106969.2.1 (ix_in h106969.2.2 (by omega)) dX12_town_78 ?_
            refine g_iload_n C dX12_town_79 rfl 2 rfl ?_
            have u106971 := ti_rng (pI P52 b106967 (v64_5.toInt.toNat))
            refine b_icmp_gt C 93 dX12_town_80 (by decide) (fun h106970 => ?_) (fun h106970 => ?_)
            · have h106970 : v52_3.toInt < (pI P52 b106967 (v64_5.toInt.toNat)).toInt := h106970
              refine g_iconst (v := 0) C dX12_town_93 (by decide) ?_
              refine g_lv (lv' := [(0, .ref a0), (2, .int a2), (3, .int v52_3), (5, .int v64_5)]) [0, 1, 2, 4] rfl ?_
              exact J94 0 (by omega) (by omega) (by omega) (by omega) (fun b9 e9 => by rw [e106941] at e9; cases e9; omega) (fun b9 e9 => by rw [e106968] at e9; cases e9; omega)
            · have h106970 : (pI P52 b106967 (v64_5.toInt.toNat)).toInt ≤ v52_3.toInt := h106970
              refine g_aload_n C dX12_town_83 rfl 0 rfl ?_
              obtain ⟨b106972, e106973, h106974⟩ := I52.fld (h106939) 46 13 4 rfl
              refine g_getR C fi_X12_130 rfl e106973 (h106939).1 (h106939).2 dX12_town_84 ?_
              refine g_iload C dX12_town_87 4 rfl ?_
              refine g_iald (j := (v64_5.toInt.toNat)) C h106974.1 h106974.2.1 (ix_in h106974.2.2 (by omega)) dX12_town_89 ?_
              refine g_goto C 94 dX12_town_90 (by decide) ?_
              refine g_lv (lv' := [(0, .ref a0), (2, .int a2), (3, .int v52_3), (5, .int v64_5)]) [0, 1, 2, 4] rfl ?_
              exact J94 (pI P52 b106972 (v64_5.toInt.toNat)) (by omega) (by omega) (by omega) (by omega) (fun b9 e9 => by rw [e106941] at e9; cases e9; omega) (fun b9 e9 => by rw [e106968] at e9; cases e9; omega)
      refine g_iload_n C dX12_town_52 rfl 2 rfl ?_
      refine g_bipush (v := 60) C dX12_town_53 (by decide) ?_
      refine b_icmp_gt C 125 dX12_town_55 (by decide) (fun h106975 => ?_) (fun h106975 => ?_)
      · have h106975 : 60 < v52_3.toInt := h106975
        refine g_iconst (v := (-1)) C dX12_town_125 (by decide) ?_
        exact ret _ _ _ _ _ _ dX12_town_126 rfl (by decide) (by decide) ⟨I52, X52, W52, (by decide)⟩
      · have h106975 : v52_3.toInt ≤ 60 := h106975
        refine g_iconst (v := 0) C dX12_town_58 (by decide) ?_
        refine g_istore (lv' := [(4, .int 0), (0, .ref a0), (2, .int a2), (3, .int v52_3)]) C dX12_town_59 (by decide) rfl ?_
        refine g_iconst (v := 0) C dX12_town_61 (by decide) ?_
        refine g_istore (lv' := [(5, .int 0), (4, .int 0), (0, .ref a0), (2, .int a2), (3, .int v52_3)]) C dX12_town_62 (by decide) rfl ?_
        refine g_lv (lv' := [(0, .ref a0), (2, .int a2), (3, .int v52_3), (4, .int 0), (5, .int 0)]) [2, 3, 4, 1, 0] rfl ?_
        exact J64 _ 0 0 (Nat.lt_succ_self _) (by omega) (by omega) (by decide) (by omega) (fun b9 e9 => by rw [e106937] at e9; cases e9; omega)
  have J27 : ∀ (n27 : Nat) (P27 : PP) (v27_3 : Int32), (4 - v27_3.toInt).toNat < n27 → (IM P27 a0) → (EM [0, 28, 29, 30, 31, 35, 36, 37, 38, 47] a0 P P27) → (MW P27 a0) → (0 ≤ a1.toInt ∧ a1.toInt ≤ 1) → (0 ≤ a2.toInt ∧ a2.toInt ≤ 100) → (0 ≤ v27_3.toInt ∧ v27_3.toInt ≤ 4) → (0 ≤ (pI P27 a0 0).toInt ∧ (pI P27 a0 0).toInt ≤ 0) → (∀ b, pR P27 a0 10 = some b → 1 ≤ (pI P27 b (a1.toInt.toNat)).toInt ∧ (pI P27 b (a1.toInt.toNat)).toInt ≤ 16) → G E ({ frames := 5, cells := 0, slots := 0, locals := 320 } : Room) D cy 6 P27 0 0 27 [(0, .ref a0), (1, .int a1), (2, .int a2), (3, .int v27_3)] [] := by
    intro n27
    induction n27 with
    | zero => intro P27 v27_3 hm27 I27 X27 W27 hv27_1 hv27_2 hv27_3 hq27_0 hq27_1; omega
    | succ n27 ih27 =>
      intro P27 v27_3 hm27 I27 X27 W27 hv27_1 hv27_2 hv27_3 hq27_0 hq27_1
      have h106976 := X27.at ha0
      obtain ⟨b106977, e106978, h106979⟩ := I27.fld (h106976) 10 13 2 rfl
      have hq27_1 := hq27_1 b106977 e106978
      refine g_iload_n C dX12_town_27 rfl 3 rfl ?_
      refine g_iconst (v := 4) C dX12_town_28 (by decide) ?_
      refine b_icmp_ge C 50 dX12_town_29 (by decide) (fun h106980 => ?_) (fun h106980 => ?_)
      · have h106980 : 4 ≤ v27_3.toInt := h106980
        refine g_iconst (v := 0) C dX12_town_50 (by decide) ?_
        refine g_istore_n (lv' := [(3, .int 0), (0, .ref a0), (1, .int a1), (2, .int a2)]) C dX12_town_51 rfl (by decide) rfl ?_
        refine g_lv (lv' := [(0, .ref a0), (2, .int a2), (3, .int 0)]) [1, 3, 0] rfl ?_
        exact J52 _ P27 0 (Nat.lt_succ_self _) I27 X27 W27 (by omega) (by decide) (by omega) (fun b9 e9 => by rw [e106978] at e9; cases e9; omega)
      · have h106980 : v27_3.toInt < 4 := h106980
        refine g_aload_n C dX12_town_32 rfl 0 rfl ?_
        obtain ⟨b106981, e106982, h106983⟩ := I27.fld (h106976) 47 13 4 rfl
        refine g_getR C fi_X12_133 rfl e106982 (h106976).1 (h106976).2 dX12_town_33 ?_
        refine g_iload_n C dX12_town_36 rfl 3 rfl ?_
        refine g_aload_n C dX12_town_37 rfl 0 rfl ?_
        refine g_iload_n C dX12_town_38 rfl 3 rfl ?_
        refine g_iload_n C dX12_town_39 rfl 1 rfl ?_
        refine g_callVI (rest := [.int v27_3, .ref b106981]) C mv_X12_408 [.int v27_3, .int a1] (s_X12_needsOf I27 (by omega) (by omega) (fun b9 e9 => by rw [e106978] at e9; cases e9; show 1 ≤ (pI P27 b106977 (a1.toInt.toNat)).toInt ∧ (pI P27 b106977 (a1.toInt.toNat)).toInt ≤ 16; omega) W27) (h106976).1 (h106976).2 rfl rfl (by decide) (Nat.le_of_ble_eq_true rfl) (by decide) dX12_town_40 (fun r106984 Y106985 h106986 => ?_)
        obtain ⟨Iy106987, Xy106988, W106989, h106986⟩ := h106986
        have q106990 := Xy106988.keepF 0 (by decide)
        have q106991 := Xy106988.keepA e106978 (by decide) rfl (a1.toInt.toNat)
        have Xz106992 : EM [0, 28, 29, 30, 31, 35, 36, 37, 38, 47] a0 P Y106985 := EM.tr ha0 X27 (Xy106988.mono (by decide))
        have e106993 := Xy106988.ref h106976 (by decide) e106978
        have e106994 := Xy106988.ref h106976 (by decide) e106982
        have h106995 := Xy106988.at h106976
        have h106996 := Xy106988.ar h106979
        have h106997 := Xy106988.ar h106983
        have h106986 : 0 ≤ r106984.toInt ∧ r106984.toInt ≤ 61 := h106986
        refine g_iast (j := (v27_3.toInt.toNat)) C h106997.1 h106997.2.1 (ix_in h106997.2.2 (by omega)) dX12_town_43 ?_
        refine gqW (ks := [47]) (Iy106987.setA e106994 h106997 (by decide) (arOk.none rfl)) (EM.setA Iy106987 e106994 rfl (by decide)) (fun Y106998 Iy106999 Xy107000 w107001  => ?_)
        have w107001 : (pI Y106998 b106981 (v27_3.toInt.toNat)).toInt = r106984.toInt := w107001
        have q107002 := Xy107000.keepF 0 (by decide)
        have q107003 := Xy107000.keepA e106993 (by decide) rfl (a1.toInt.toNat)
        have W107004 := W106989.keep Iy106987 Xy107000 (by decide) (by decide) (by decide)
        have Xz107005 : EM [0, 28, 29, 30, 31, 35, 36, 37, 38, 47] a0 P Y106998 := EM.tr ha0 Xz106992 (Xy107000.mono (by decide))
        have e107006 := Xy107000.ref h106995 (by decide) e106993
        have e107007 := Xy107000.ref h106995 (by decide) e106994
        have h107008 := Xy107000.at h106995
        have h107009 := Xy107000.ar h106996
        have h107010 := Xy107000.ar h106997
        refine s_iinc (lv0 := [(0, .ref a0), (1, .int a1), (2, .int a2)]) (m := 1) C dX12_town_44 3 rfl (by decide) rfl (by decide) (by omega) (fun z107011 h107012 => ?_)
        have h107012 : z107011.toInt = v27_3.toInt + 1 := h107012
        refine g_goto C 27 dX12_town_47 (by decide) ?_
        refine g_lv (lv' := [(0, .ref a0), (1, .int a1), (2, .int a2), (3, .int z107011)]) [1, 2, 3, 0] rfl ?_
        exact ih27 Y106998 z107011 (by omega) Iy106999 Xz107005 W107004 (by omega) (by omega) (by omega) (by omega) (fun b9 e9 => by rw [e107006] at e9; cases e9; omega)
  have J23 : ∀ (P23 : PP), (IM P23 a0) → (EM [0, 28, 29, 30, 31, 35, 36, 37, 38, 47] a0 P P23) → (MW P23 a0) → (0 ≤ (pI P23 a0 0).toInt ∧ (pI P23 a0 0).toInt ≤ 0) → G E ({ frames := 5, cells := 0, slots := 0, locals := 320 } : Room) D cy 6 P23 0 0 23 [] [] := by
    intro P23 I23 X23 W23 hq23_0
    have h107013 := X23.at ha0
    refine g_iconst (v := (-1)) C dX12_town_23 (by decide) ?_
    exact ret _ _ _ _ _ _ dX12_town_24 rfl (by decide) (by decide) ⟨I23, X23, W23, (by decide)⟩
  refine g_aload_n C dX12_town_0 rfl 0 rfl ?_
  refine g_iconst (v := 0) C dX12_town_1 (by decide) ?_
  refine g_putI C fi_X12_1 rfl (ha0).1 (ha0).2 dX12_town_2 ?_
  refine gqW (ks := [0]) (I.setI (rgOk.of rfl (by decide))) (EM.setI I (by decide)) (fun Y107014 Iy107015 Xy107016 w107017  => ?_)
  have w107017 : (pI Y107014 a0 0).toInt = 0 := w107017
  have W107018 := hW.keep I Xy107016 (by decide) (by decide) (by decide)
  have Xz107019 : EM [0, 28, 29, 30, 31, 35, 36, 37, 38, 47] a0 P Y107014 := Xy107016.mono (by decide)
  have h107020 := Xy107016.at ha0
  refine g_aload_n C dX12_town_5 rfl 0 rfl ?_
  refine g_iload_n C dX12_town_6 rfl 1 rfl ?_
  refine g_callVI (rest := []) C mv_X12_192 [.int a1] (s_X12_isBook Iy107015 W107018) (h107020).1 (h107020).2 rfl rfl (by decide) (Nat.le_of_ble_eq_true rfl) (by decide) dX12_town_7 (fun r107021 Y107022 h107023 => ?_)
  obtain ⟨rfl, h107023⟩ := h107023
  obtain ⟨h107023, hi107024, hi107025⟩ := h107023
  have hi107024 : r107021.toInt = 0 ∨ (((0 : Int) ≤ a1.toInt ∧ a1.toInt ≤ (1 : Int))) := hi107024
  have h107023 : 0 ≤ r107021.toInt ∧ r107021.toInt ≤ 1 := h107023
  refine b_if_eq C 23 dX12_town_10 (by decide) (fun h107026 => ?_) (fun h107026 => ?_)
  · have h107026 : r107021.toInt = 0 := congrArg Int32.toInt h107026
    clear hi107024
    refine g_lv (lv' := []) [] rfl ?_
    exact J23 Y107014 Iy107015 Xz107019 W107018 (by omega)
  · have h107026 : r107021.toInt ≠ 0 := ti_ne h107026
    replace hi107024 := hi107024.resolve_left (by omega)
    obtain ⟨b107027, e107028, h107029⟩ := Iy107015.fld (h107020) 10 13 2 rfl
    have hi107025 := (hi107025.resolve_left (by omega)) b107027 e107028
    have hi107025 : 0 < (pI Y107014 b107027 (a1.toInt.toNat)).toInt := hi107025
    have h107030 := Iy107015.arr e107028 rfl (a1.toInt.toNat)
    refine g_iload_n C dX12_town_13 rfl 2 rfl ?_
    refine g_iconst (v := 0) C dX12_town_14 (by decide) ?_
    refine g_bipush (v := 100) C dX12_town_15 (by decide) ?_
    refine g_callSI (b := 0) (ci := 0) (rest := []) C ms_X12_178 [.int a2, .int 0, .int 100] (s_X12_within Iy107015.1) rfl rfl (by decide) (Nat.le_of_ble_eq_true rfl) (by decide) dX12_town_17 (fun r107031 Y107032 h107033 => ?_)
    obtain ⟨rfl, h107033⟩ := h107033
    obtain ⟨h107033, hi107034⟩ := h107033
    have hi107034 : r107031.toInt = 0 ∨ (0 ≤ a2.toInt ∧ a2.toInt ≤ 100) := hi107034
    have h107033 : 0 ≤ r107031.toInt ∧ r107031.toInt ≤ 1 := h107033
    refine b_if_ne C 25 dX12_town_20 (by decide) (fun h107035 => ?_) (fun h107035 => ?_)
    · have h107035 : r107031.toInt ≠ 0 := ti_ne h107035
      replace hi107034 := hi107034.resolve_left (by omega)
      refine g_iconst (v := 0) C dX12_town_25 (by decide) ?_
      refine g_istore_n (lv' := [(3, .int 0), (0, .ref a0), (1, .int a1), (2, .int a2)]) C dX12_town_26 rfl (by decide) rfl ?_
      refine g_lv (lv' := [(0, .ref a0), (1, .int a1), (2, .int a2), (3, .int 0)]) [1, 2, 3, 0] rfl ?_
      exact J27 _ Y107014 0 (Nat.lt_succ_self _) Iy107015 Xz107019 W107018 (by omega) (by omega) (by decide) (by omega) (fun b9 e9 => by rw [e107028] at e9; cases e9; omega)
    · have h107035 : r107031.toInt = 0 := congrArg Int32.toInt h107035
      clear hi107034
      refine g_lv (lv' := []) [] rfl ?_
      exact J23 Y107014 Iy107015 Xz107019 W107018 (by omega)
