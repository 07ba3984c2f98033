theorem dX12_scatter_0 : decode cX12_scatter 0 = .ok (.aload_n 0, 1) := by decide +kernel
theorem dX12_scatter_1 : decode cX12_scatter 1 = .ok (.iconst 0, 1) := by decide +kernel
theorem dX12_scatter_2 : decode cX12_scatter 2 = .ok (.putfield 1, 3) := by decide +kernel
theorem dX12_scatter_5 : decode cX12_scatter 5 = .ok (.aload_n 0, 1) := by decide +kernel
theorem dX12_scatter_6 : decode cX12_scatter 6 = .ok (.iload_n 1, 1) := by decide +kernel
theorem dX12_scatter_7 : decode cX12_scatter 7 = .ok (.invokevirtual 192, 3) := by decide +kernel
theorem dX12_scatter_10 : decode cX12_scatter 10 = .ok (.ifCond .eq 30, 3) := by decide +kernel
theorem dX12_scatter_13 : decode cX12_scatter 13 = .ok (.iload_n 2, 1) := by decide +kernel
theorem dX12_scatter_14 : decode cX12_scatter 14 = .ok (.invokestatic 258, 3) := by decide +kernel
theorem dX12_scatter_17 : decode cX12_scatter 17 = .ok (.ifCond .eq 23, 3) := by decide +kernel
theorem dX12_scatter_20 : decode cX12_scatter 20 = .ok (.iload_n 3, 1) := by decide +kernel
theorem dX12_scatter_21 : decode cX12_scatter 21 = .ok (.invokestatic 258, 3) := by decide +kernel
theorem dX12_scatter_24 : decode cX12_scatter 24 = .ok (.ifCond .eq 16, 3) := by decide +kernel
theorem dX12_scatter_27 : decode cX12_scatter 27 = .ok (.iload_n 3, 1) := by decide +kernel
theorem dX12_scatter_28 : decode cX12_scatter 28 = .ok (.iload_n 2, 1) := by decide +kernel
theorem dX12_scatter_29 : decode cX12_scatter 29 = .ok (.if_icmp .lt 11, 3) := by decide +kernel
theorem dX12_scatter_32 : decode cX12_scatter 32 = .ok (.iload_n 3, 1) := by decide +kernel
theorem dX12_scatter_33 : decode cX12_scatter 33 = .ok (.iload_n 2, 1) := by decide +kernel
theorem dX12_scatter_34 : decode cX12_scatter 34 = .ok (.isub, 1) := by decide +kernel
theorem dX12_scatter_35 : decode cX12_scatter 35 = .ok (.bipush 99, 2) := by decide +kernel
theorem dX12_scatter_37 : decode cX12_scatter 37 = .ok (.if_icmp .le 5, 3) := by decide +kernel
theorem dX12_scatter_40 : decode cX12_scatter 40 = .ok (.iconst (-1), 1) := by decide +kernel
theorem dX12_scatter_41 : decode cX12_scatter 41 = .ok (.ireturn, 1) := by decide +kernel
theorem dX12_scatter_42 : decode cX12_scatter 42 = .ok (.iconst 0, 1) := by decide +kernel
theorem dX12_scatter_43 : decode cX12_scatter 43 = .ok (.istore 4, 2) := by decide +kernel
theorem dX12_scatter_45 : decode cX12_scatter 45 = .ok (.iload_n 2, 1) := by decide +kernel
theorem dX12_scatter_46 : decode cX12_scatter 46 = .ok (.istore 5, 2) := by decide +kernel
theorem dX12_scatter_48 : decode cX12_scatter 48 = .ok (.iload 5, 2) := by decide +kernel
theorem dX12_scatter_50 : decode cX12_scatter 50 = .ok (.iload_n 3, 1) := by decide +kernel
theorem dX12_scatter_51 : decode cX12_scatter 51 = .ok (.if_icmp .gt 119, 3) := by decide +kernel
theorem dX12_scatter_54 : decode cX12_scatter 54 = .ok (.aload_n 0, 1) := by decide +kernel
theorem dX12_scatter_55 : decode cX12_scatter 55 = .ok (.iload_n 1, 1) := by decide +kernel
theorem dX12_scatter_56 : decode cX12_scatter 56 = .ok (.aload_n 0, 1) := by decide +kernel
theorem dX12_scatter_57 : decode cX12_scatter 57 = .ok (.iload_n 1, 1) := by decide +kernel
theorem dX12_scatter_58 : decode cX12_scatter 58 = .ok (.iload 5, 2) := by decide +kernel
theorem dX12_scatter_60 : decode cX12_scatter 60 = .ok (.invokevirtual 261, 3) := by decide +kernel
theorem dX12_scatter_63 : decode cX12_scatter 63 = .ok (.invokevirtual 223, 3) := by decide +kernel
theorem dX12_scatter_66 : decode cX12_scatter 66 = .ok (.istore 6, 2) := by decide +kernel
theorem dX12_scatter_68 : decode cX12_scatter 68 = .ok (.iconst 0, 1) := by decide +kernel
theorem dX12_scatter_69 : decode cX12_scatter 69 = .ok (.istore 7, 2) := by decide +kernel
theorem dX12_scatter_71 : decode cX12_scatter 71 = .ok (.iload 7, 2) := by decide +kernel
theorem dX12_scatter_73 : decode cX12_scatter 73 = .ok (.iconst 4, 1) := by decide +kernel
theorem dX12_scatter_74 : decode cX12_scatter 74 = .ok (.if_icmp .ge 90, 3) := by decide +kernel
theorem dX12_scatter_77 : decode cX12_scatter 77 = .ok (.aload_n 0, 1) := by decide +kernel
theorem dX12_scatter_78 : decode cX12_scatter 78 = .ok (.iload 7, 2) := by decide +kernel
theorem dX12_scatter_80 : decode cX12_scatter 80 = .ok (.iload_n 1, 1) := by decide +kernel
theorem dX12_scatter_81 : decode cX12_scatter 81 = .ok (.iload 5, 2) := by decide +kernel
theorem dX12_scatter_83 : decode cX12_scatter 83 = .ok (.invokevirtual 402, 3) := by decide +kernel
theorem dX12_scatter_86 : decode cX12_scatter 86 = .ok (.ifCond .eq 72, 3) := by decide +kernel
theorem dX12_scatter_89 : decode cX12_scatter 89 = .ok (.aload_n 0, 1) := by decide +kernel
theorem dX12_scatter_90 : decode cX12_scatter 90 = .ok (.getfield 69, 3) := by decide +kernel
theorem dX12_scatter_93 : decode cX12_scatter 93 = .ok (.iload 7, 2) := by decide +kernel
theorem dX12_scatter_95 : decode cX12_scatter 95 = .ok (.iaload, 1) := by decide +kernel
theorem dX12_scatter_96 : decode cX12_scatter 96 = .ok (.bipush 40, 2) := by decide +kernel
theorem dX12_scatter_98 : decode cX12_scatter 98 = .ok (.if_icmp .ge 60, 3) := by decide +kernel
theorem dX12_scatter_101 : decode cX12_scatter 101 = .ok (.aload_n 0, 1) := by decide +kernel
theorem dX12_scatter_102 : decode cX12_scatter 102 = .ok (.iload 7, 2) := by decide +kernel
theorem dX12_scatter_104 : decode cX12_scatter 104 = .ok (.iload_n 1, 1) := by decide +kernel
theorem dX12_scatter_105 : decode cX12_scatter 105 = .ok (.iload 5, 2) := by decide +kernel
theorem dX12_scatter_107 : decode cX12_scatter 107 = .ok (.iload 6, 2) := by decide +kernel
theorem dX12_scatter_109 : decode cX12_scatter 109 = .ok (.iconst 3, 1) := by decide +kernel
theorem dX12_scatter_110 : decode cX12_scatter 110 = .ok (.aload_n 0, 1) := by decide +kernel
theorem dX12_scatter_111 : decode cX12_scatter 111 = .ok (.iload_n 1, 1) := by decide +kernel
theorem dX12_scatter_112 : decode cX12_scatter 112 = .ok (.iload 5, 2) := by decide +kernel
theorem dX12_scatter_114 : decode cX12_scatter 114 = .ok (.iload 6, 2) := by decide +kernel
theorem dX12_scatter_116 : decode cX12_scatter 116 = .ok (.invokevirtual 267, 3) := by decide +kernel
theorem dX12_scatter_119 : decode cX12_scatter 119 = .ok (.invokevirtual 284, 3) := by decide +kernel
theorem dX12_scatter_122 : decode cX12_scatter 122 = .ok (.istore 8, 2) := by decide +kernel
theorem dX12_scatter_124 : decode cX12_scatter 124 = .ok (.aload_n 0, 1) := by decide +kernel
theorem dX12_scatter_125 : decode cX12_scatter 125 = .ok (.iload 7, 2) := by decide +kernel
theorem dX12_scatter_127 : decode cX12_scatter 127 = .ok (.bipush 40, 2) := by decide +kernel
theorem dX12_scatter_129 : decode cX12_scatter 129 = .ok (.iload 7, 2) := by decide +kernel
theorem dX12_scatter_131 : decode cX12_scatter 131 = .ok (.imul, 1) := by decide +kernel
theorem dX12_scatter_132 : decode cX12_scatter 132 = .ok (.iload 8, 2) := by decide +kernel
theorem dX12_scatter_134 : decode cX12_scatter 134 = .ok (.iadd, 1) := by decide +kernel
theorem dX12_scatter_135 : decode cX12_scatter 135 = .ok (.invokevirtual 405, 3) := by decide +kernel
theorem dX12_scatter_138 : decode cX12_scatter 138 = .ok (.ifCond .eq 17, 3) := by decide +kernel
theorem dX12_scatter_141 : decode cX12_scatter 141 = .ok (.aload_n 0, 1) := by decide +kernel
theorem dX12_scatter_142 : decode cX12_scatter 142 = .ok (.getfield 69, 3) := by decide +kernel
theorem dX12_scatter_145 : decode cX12_scatter 145 = .ok (.iload 7, 2) := by decide +kernel
theorem dX12_scatter_147 : decode cX12_scatter 147 = .ok (.dup2, 1) := by decide +kernel
theorem dX12_scatter_148 : decode cX12_scatter 148 = .ok (.iaload, 1) := by decide +kernel
theorem dX12_scatter_149 : decode cX12_scatter 149 = .ok (.iconst 1, 1) := by decide +kernel
theorem dX12_scatter_150 : decode cX12_scatter 150 = .ok (.isub, 1) := by decide +kernel
theorem dX12_scatter_151 : decode cX12_scatter 151 = .ok (.iastore, 1) := by decide +kernel
theorem dX12_scatter_152 : decode cX12_scatter 152 = .ok (.goto 6, 3) := by decide +kernel
theorem dX12_scatter_155 : decode cX12_scatter 155 = .ok (.iinc 4 1, 3) := by decide +kernel
theorem dX12_scatter_158 : decode cX12_scatter 158 = .ok (.iinc 7 1, 3) := by decide +kernel
theorem dX12_scatter_161 : decode cX12_scatter 161 = .ok (.goto (-90), 3) := by decide +kernel
theorem dX12_scatter_164 : decode cX12_scatter 164 = .ok (.iinc 5 1, 3) := by decide +kernel
theorem dX12_scatter_167 : decode cX12_scatter 167 = .ok (.goto (-119), 3) := by decide +kernel
theorem dX12_scatter_170 : decode cX12_scatter 170 = .ok (.iload 4, 2) := by decide +kernel
theorem dX12_scatter_172 : decode cX12_scatter 172 = .ok (.ireturn, 1) := by decide +kernel
set_option maxHeartbeats 4000000 in
set_option maxRecDepth 100000 in
theorem s_X12_scatter {P : PP} {a0 : Nat} {a1 : Int32} {a2 : Int32} {a3 : Int32} (I : IM P a0) (hW : MW P a0) : CtrI yX12_scatter cX12_scatter 9 (some Jvm.ClassFile.FieldType.int) ({ frames := 4, cells := 0, slots := 0, locals := 256 } : Room) 0 0 P [.ref a0, .int a1, .int a2, .int a3] (fun r P2 => IM P2 a0 ∧ EM [0, 20, 21, 22, 23, 24, 25] a0 P P2 ∧ MW P2 a0 ∧ (True)) := by
  refine enI (lv := [(0, .ref a0), (1, .int a1), (2, .int a2), (3, .int a3)]) (by decide) (Nat.le_of_ble_eq_true rfl) rfl (fun E D cy C Ci0 ret => ?_)
  have ha0 := I.2.1
  have J48 : ∀ (n48 : Nat) (P48 : PP) (v48_4 : Int32) (v48_5 : Int32), (10000 - v48_5.toInt).toNat < n48 → (IM P48 a0) → (EM [0, 20, 21, 22, 23, 24, 25] a0 P P48) → (MW P48 a0) → (0 ≤ a1.toInt ∧ a1.toInt ≤ 1) → (0 ≤ a3.toInt ∧ a3.toInt ≤ 9999) → (0 ≤ v48_5.toInt ∧ v48_5.toInt ≤ 10000) → (0 ≤ (pI P48 a0 0).toInt ∧ (pI P48 a0 0).toInt ≤ 0) → (∀ b, pR P48 a0 10 = some b → 1 ≤ (pI P48 b (a1.toInt.toNat)).toInt ∧ (pI P48 b (a1.toInt.toNat)).toInt ≤ 16) → G E ({ frames := 4, cells := 0, slots := 0, locals := 256 } : Room) D cy 9 P48 0 0 48 [(0, .ref a0), (1, .int a1), (3, .int a3), (4, .int v48_4), (5, .int v48_5)] [] := by
    intro n48
    induction n48 with
    | zero => intro P48 v48_4 v48_5 hm48 I48 X48 W48 hv48_1 hv48_3 hv48_5 hq48_0 hq48_1; omega
    | succ n48 ih48 =>
      intro P48 v48_4 v48_5 hm48 I48 X48 W48 hv48_1 hv48_3 hv48_5 hq48_0 hq48_1
      have h101888 := X48.at ha0
      obtain ⟨b101889, e101890, h101891⟩ := I48.fld (h101888) 10 13 2 rfl
      have hq48_1 := hq48_1 b101889 e101890
      have J71 : ∀ (n71 : Nat) (P71 : PP) (v71_4 : Int32) (v71_6 : Int32) (v71_7 : Int32), (4 - v71_7.toInt).toNat < n71 → (IM P71 a0) → (EM [0, 20, 21, 22, 23, 24, 25] a0 P P71) → (MW P71 a0) → (0 ≤ a1.toInt ∧ a1.toInt ≤ 1) → (0 ≤ a3.toInt ∧ a3.toInt ≤ 9999) → (0 ≤ v48_5.toInt ∧ v48_5.toInt ≤ 9999) → (0 ≤ v71_7.toInt ∧ v71_7.toInt ≤ 4) → (0 ≤ (pI P71 a0 0).toInt ∧ (pI P71 a0 0).toInt ≤ 0) → (∀ b, pR P71 a0 10 = some b → 1 ≤ (pI P71 b (a1.toInt.toNat)).toInt ∧ (pI P71 b (a1.toInt.toNat)).toInt ≤ 16) → G E ({ frames := 4, cells := 0, slots := 0, locals := 256 } : Room) D cy 9 P71 0 0 71 [(0, .ref a0), (1, .int a1), (3, .int a3), (4, .int v71_4), (5, .int v48_5), (6, .int v71_6), (7, .int v71_7)] [] := by
        intro n71
        induction n71 with
        | zero => intro P71 v71_4 v71_6 v71_7 hm71 I71 X71 W71 hv71_1 hv71_3 hv71_5 hv71_7 hq71_0 hq71_1; omega
        | succ n71 ih71 =>
          intro P71 v71_4 v71_6 v71_7 hm71 I71 X71 W71 hv71_1 hv71_3 hv71_5 hv71_7 hq71_0 hq71_1
          have h101892 := X71.at ha0
          obtain ⟨b101893, e101894, h101895⟩ := I71.fld (h101892) 10 13 2 rfl
          have hq71_1 := hq71_1 b101893 e101894
          have J158 : ∀ (P158 : PP) (v158_4 : Int32), (IM P158 a0) → (EM [0, 20, 21, 22, 23, 24, 25] a0 P P158) → (MW P158 a0) → (0 ≤ a1.toInt ∧ a1.toInt ≤ 1) → (0 ≤ a3.toInt ∧ a3.toInt ≤ 9999) → (0 ≤ v48_5.toInt ∧ v48_5.toInt ≤ 9999) → (0 ≤ v71_7.toInt ∧ v71_7.toInt ≤ 3) → (0 ≤ (pI P158 a0 0).toInt ∧ (pI P158 a0 0).toInt ≤ 0) → (∀ b, pR P158 a0 10 = some b → 1 ≤ (pI P158 b (a1.toInt.toNat)).toInt ∧ (pI P158 b (a1.toInt.toNat)).toInt ≤ 16) → G E ({ frames := 4, cells := 0, slots := 0, locals := 256 } : Room) D cy 9 P158 0 0 158 [(0, .ref a0), (1, .int a1), (3, .int a3), (4, .int v158_4), (5, .int v48_5), (6, .int v71_6), (7, .int v71_7)] [] := by
            intro P158 v158_4 I158 X158 W158 hv158_1 hv158_3 hv158_5 hv158_7 hq158_0 hq158_1
            have h101896 := X158.at ha0
            obtain ⟨b101897, e101898, h101899⟩ := I158.fld (h101896) 10 13 2 rfl
            have hq158_1 := hq158_1 b101897 e101898
            refine s_iinc (lv0 := [(0, .ref a0), (1, .int a1), (3, .int a3), (4, .int v158_4), (5, .int v48_5), (6, .int v71_6)]) (m := 1) C dX12_scatter_158 6 rfl (by decide) rfl (by decide) (by omega) (fun z101900 h101901 => ?_)
            have h101901 : z101900.toInt = v71_7.toInt + 1 := h101901
            refine g_goto C 71 dX12_scatter_161 (by decide) ?_
            refine g_lv (lv' := [(0, .ref a0), (1, .int a1), (3, .int a3), (4, .int v158_4), (5, .int v48_5), (6, .int v71_6), (7, .int z101900)]) [1, 2, 3, 4, 5, 6, 0] rfl ?_
            exact ih71 P158 v158_4 v71_6 z101900 (by omega) I158 X158 W158 (by omega) (by omega) (by omega) (by omega) (by omega) (fun b9 e9 => by rw [e101898] at e9; cases e9; omega)
          refine g_iload C dX12_scatter_71 6 rfl ?_
          refine g_iconst (v := 4) C dX12_scatter_73 (by decide) ?_
          refine b_icmp_ge C 164 dX12_scatter_74 (by decide) (fun h101902 => ?_) (fun h101902 => ?_)
          · have h101902 : 4 ≤ v71_7.toInt := h101902
            refine s_iinc (lv0 := [(0, .ref a0), (1, .int a1), (3, .int a3), (4, .int v71_4), (6, .int v71_6), (7, .int v71_7)]) (m := 1) C dX12_scatter_164 4 rfl (by decide) rfl (by decide) (by omega) (fun z101903 h101904 => ?_)
            have h101904 : z101903.toInt = v48_5.toInt + 1 := h101904
            refine g_goto C 48 dX12_scatter_167 (by decide) ?_
            refine g_lv (lv' := [(0, .ref a0), (1, .int a1), (3, .int a3), (4, .int v71_4), (5, .int z101903)]) [1, 2, 3, 4, 0] rfl ?_
            exact ih48 P71 v71_4 z101903 (by omega) I71 X71 W71 (by omega) (by omega) (by omega) (by omega) (fun b9 e9 => by rw [e101894] at e9; cases e9; omega)
          · have h101902 : v71_7.toInt < 4 := h101902
            refine g_aload_n C dX12_scatter_77 rfl 0 rfl ?_
            refine g_iload C dX12_scatter_78 6 rfl ?_
            refine g_iload_n C dX12_scatter_80 rfl 1 rfl ?_
            refine g_iload C dX12_scatter_81 4 rfl ?_
            refine g_callVI (rest := []) C mv_X12_402 [.int v71_7, .int a1, .int v48_5] (s_X12_falls I71 (by omega) W71) (h101892).1 (h101892).2 rfl rfl (by decide) (Nat.le_of_ble_eq_true rfl) (by decide) dX12_scatter_83 (fun r101905 Y101906 h101907 => ?_)
            obtain ⟨rfl, h101907⟩ := h101907
            have h101907 : 0 ≤ r101905.toInt ∧ r101905.toInt ≤ 1 := h101907
            refine b_if_eq C 158 dX12_scatter_86 (by decide) (fun h101908 => ?_) (fun h101908 => ?_)
            · have h101908 : r101905.toInt = 0 := congrArg Int32.toInt h101908
              exact J158 P71 v71_4 I71 X71 W71 (by omega) (by omega) (by omega) (by omega) (by omega) (fun b9 e9 => by rw [e101894] at e9; cases e9; omega)
            · have h101908 : r101905.toInt ≠ 0 := ti_ne h101908
              refine g_aload_n C dX12_scatter_89 rfl 0 rfl ?_
              obtain ⟨b101909, e101910, h101911⟩ := I71.fld (h101892) 20 13 20 rfl
              refine g_getR C fi_X12_69 rfl e101910 (h101892).1 (h101892).2 dX12_scatter_90 ?_
              refine g_iload C dX12_scatter_93 6 rfl ?_
              refine g_iald (j := (v71_7.toInt.toNat)) C h101911.1 h101911.2.1 (ix_in h101911.2.2 (by omega)) dX12_scatter_95 ?_
              have h101912 := I71.arr e101910 rfl (v71_7.toInt.toNat)
              refine g_bipush (v := 40) C dX12_scatter_96 (by decide) ?_
              refine b_icmp_ge C 158 dX12_scatter_98 (by decide) (fun h101913 => ?_) (fun h101913 => ?_)
              · have h101913 : 40 ≤ (pI P71 b101909 (v71_7.toInt.toNat)).toInt := h101913
                exact J158 P71 v71_4 I71 X71 W71 (by omega) (by omega) (by omega) (by omega) (by omega) (fun b9 e9 => by rw [e101894] at e9; cases e9; omega)
              · have h101913 : (pI P71 b101909 (v71_7.toInt.toNat)).toInt < 40 := h101913
                refine g_aload_n C dX12_scatter_101 rfl 0 rfl ?_
                refine g_iload C dX12_scatter_102 6 rfl ?_
                refine g_iload_n C dX12_scatter_104 rfl 1 rfl ?_
                refine g_iload C dX12_scatter_105 4 rfl ?_
                refine g_iload C dX12_scatter_107 5 rfl ?_
                refine g_iconst (v := 3) C dX12_scatter_109 (by decide) ?_
                refine g_aload_n C dX12_scatter_110 rfl 0 rfl ?_
                refine g_iload_n C dX12_scatter_111 rfl 1 rfl ?_
                refine g_iload C dX12_scatter_112 4 rfl ?_
                refine g_iload C dX12_scatter_114 5 rfl ?_
                refine g_callVI (rest := [.int 3, .int v71_6, .int v48_5, .int a1, .int v71_7, .ref a0]) C mv_X12_267 [.int a1, .int v48_5, .int v71_6] (s_X12_sealOf I71 (by omega) W71) (h101892).1 (h101892).2 rfl rfl (by decide) (Nat.le_of_ble_eq_true rfl) (by decide) dX12_scatter_116 (fun r101914 Y101915 h101916 => ?_)
                obtain ⟨rfl, h101916⟩ := h101916
                have h101916 : -996 ≤ r101914.toInt ∧ r101914.toInt ≤ 996 := h101916
                refine g_callVI (rest := []) C mv_X12_284 [.int v71_7, .int a1, .int v48_5, .int v71_6, .int 3, .int r101914] (s_X12_lays I71 (by omega) (by omega) (fun b9 e9 => by rw [e101910] at e9; cases e9; show 0 ≤ (pI P71 b101909 (v71_7.toInt.toNat)).toInt ∧ (pI P71 b101909 (v71_7.toInt.toNat)).toInt ≤ 39; omega) W71 (fun c9 f9 _ => by rw [e101894] at f9; cases f9; show 0 < (pI P71 b101893 (a1.toInt.toNat)).toInt; omega)) (h101892).1 (h101892).2 rfl rfl (by decide) (Nat.le_of_ble_eq_true rfl) (by decide) dX12_scatter_119 (fun r101917 Y101918 h101919 => ?_)
                obtain ⟨Iy101920, Xy101921, W101922, p101923, h101919⟩ := h101919
                have p101923 := p101923 b101909 e101910
                have p101923 : (pI Y101918 b101909 (v71_7.toInt.toNat)).toInt = (pI P71 b101909 (v71_7.toInt.toNat)).toInt + 1 := p101923
                have q101924 := Xy101921.keepF 0 (by decide)
                have q101925 := Xy101921.keepA e101894 (by decide) rfl (a1.toInt.toNat)
                have Xz101926 : EM [0, 20, 21, 22, 23, 24, 25] a0 P Y101918 := EM.tr ha0 X71 (Xy101921.mono (by decide))
                have e101927 := Xy101921.ref h101892 (by decide) e101894
                have e101928 := Xy101921.ref h101892 (by decide) e101910
                have h101929 := Xy101921.at h101892
                have h101930 := Xy101921.ar h101895
                have h101931 := Xy101921.ar h101911
                have h101919 : 0 ≤ r101917.toInt ∧ r101917.toInt ≤ 39 := h101919
                refine g_istore (lv' := [(8, .int r101917), (0, .ref a0), (1, .int a1), (3, .int a3), (4, .int v71_4), (5, .int v48_5), (6, .int v71_6), (7, .int v71_7)]) C dX12_scatter_122 (by decide) rfl ?_
                refine g_aload_n C dX12_scatter_124 rfl 1 rfl ?_
                refine g_iload C dX12_scatter_125 7 rfl ?_
                refine g_bipush (v := 40) C dX12_scatter_127 (by decide) ?_
                refine g_iload C dX12_scatter_129 7 rfl ?_
                refine s_imul C dX12_scatter_131 (by show -2147483648 ≤ 40 * v71_7.toInt ∧ 40 * v71_7.toInt ≤ 2147483647; omega) (fun z101932 h101933 => ?_)
                have h101933 : z101932.toInt = 40 * v71_7.toInt := h101933
                refine g_iload C dX12_scatter_132 0 rfl ?_
                refine s_iadd C dX12_scatter_134 (by show -2147483648 ≤ z101932.toInt + r101917.toInt ∧ z101932.toInt + r101917.toInt ≤ 2147483647; omega) (fun z101934 h101935 => ?_)
                have h101935 : z101934.toInt = z101932.toInt + r101917.toInt := h101935
                refine g_callVI (rest := []) C mv_X12_405 [.int v71_7, .int z101934] (s_X12_hasAlike Iy101920 (by omega) (by omega) W101922) (h101929).1 (h101929).2 rfl rfl (by decide) (Nat.le_of_ble_eq_true rfl) (by decide) dX12_scatter_135 (fun r101936 Y101937 h101938 => ?_)
                obtain ⟨rfl, h101938⟩ := h101938
                have h101938 : 0 ≤ r101936.toInt ∧ r101936.toInt ≤ 1 := h101938
                refine b_if_eq C 155 dX12_scatter_138 (by decide) (fun h101939 => ?_) (fun h101939 => ?_)
                · have h101939 : r101936.toInt = 0 := congrArg Int32.toInt h101939
                  refine a_iinc (lv0 := [(8, .int r101917), (0, .ref a0), (1, .int a1), (3, .int a3), (5, .int v48_5), (6, .int v71_6), (7, .int v71_7)]) C dX12_scatter_155 4 rfl (by decide) rfl (fun z101940 => ?_)
                  refine g_lv (lv' := [(0, .ref a0), (1, .int a1), (3, .int a3), (4, .int z101940), (5, .int v48_5), (6, .int v71_6), (7, .int v71_7)]) [2, 3, 4, 0, 5, 6, 7] rfl ?_
                  exact J158 Y101918 z101940 Iy101920 Xz101926 W101922 (by omega) (by omega) (by omega) (by omega) (by omega) (fun b9 e9 => by rw [e101927] at e9; cases e9; omega)
                · have h101939 : r101936.toInt ≠ 0 := ti_ne h101939
                  refine g_aload_n C dX12_scatter_141 rfl 1 rfl ?_
                  refine g_getR C fi_X12_69 rfl e101928 (h101929).1 (h101929).2 dX12_scatter_142 ?_
                  refine g_iload C dX12_scatter_145 7 rfl ?_
                  refine g_dup2_11 C dX12_scatter_147 rfl rfl ?_
                  refine g_iald (j := (v71_7.toInt.toNat)) C h101931.1 h101931.2.1 (ix_in h101931.2.2 (by omega)) dX12_scatter_148 ?_
                  refine g_iconst (v := 1) C dX12_scatter_149 (by decide) ?_
                  refine s_isub C dX12_scatter_150 (by show -2147483648 ≤ (pI Y101918 b101909 (v71_7.toInt.toNat)).toInt - 1 ∧ (pI Y101918 b101909 (v71_7.toInt.toNat)).toInt - 1 ≤ 2147483647; omega) (fun z101942 h101943 => ?_)
                  have h101943 : z101942.toInt = (pI Y101918 b101909 (v71_7.toInt.toNat)).toInt - 1 := h101943
                  refine g_iast (j := (v71_7.toInt.toNat)) C h101931.1 h101931.2.1 (ix_in h101931.2.2 (by omega)) dX12_scatter_151 ?_
                  refine gqX (ks := [20]) (W := (fun Y9 => MW Y9 a0)) (Iy101920.setA e101928 h101931 (by decide) (arOk.of rfl (by omega))) (EM.setA Iy101920 e101928 rfl (by decide)) (W101922.dec Iy101920 e101928 (by omega)) (fun Y101944 Iy101945 Xy101946 w101947 W101948 => ?_)
                  have w101947 : (pI Y101944 b101909 (v71_7.toInt.toNat)).toInt = z101942.toInt := w101947
                  have q101949 := Xy101946.keepF 0 (by decide)
                  have q101950 := Xy101946.keepA e101927 (by decide) rfl (a1.toInt.toNat)
                  have Xz101951 : EM [0, 20, 21, 22, 23, 24, 25] a0 P Y101944 := EM.tr ha0 Xz101926 (Xy101946.mono (by decide))
                  have e101952 := Xy101946.ref h101929 (by decide) e101927
                  have e101953 := Xy101946.ref h101929 (by decide) e101928
                  have h101954 := Xy101946.at h101929
                  have h101955 := Xy101946.ar h101930
                  have h101956 := Xy101946.ar h101931
                  refine g_goto C 158 dX12_scatter_152 (by decide) ?_
                  refine g_lv (lv' := [(0, .ref a0), (1, .int a1), (3, .int a3), (4, .int v71_4), (5, .int v48_5), (6, .int v71_6), (7, .int v71_7)]) [1, 2, 3, 4, 5, 6, 7] rfl ?_
                  exact J158 Y101944 v71_4 Iy101945 Xz101951 W101948 (by omega) (by omega) (by omega) (by omega) (by omega) (fun b9 e9 => by rw [e101952] at e9; cases e9; omega)
      refine g_iload C dX12_scatter_48 4 rfl ?_
      refine g_iload_n C dX12_scatter_50 rfl 2 rfl ?_
      refine b_icmp_gt C 170 dX12_scatter_51 (by decide) (fun h101957 => ?_) (fun h101957 => ?_)
      · have h101957 : a3.toInt < v48_5.toInt := h101957
        refine g_iload C dX12_scatter_170 3 rfl ?_
        exact ret _ _ _ _ _ _ dX12_scatter_172 rfl (by decide) (by decide) ⟨I48, X48, W48, trivial⟩
      · have h101957 : v48_5.toInt ≤ a3.toInt := h101957
        refine g_aload_n C dX12_scatter_54 rfl 0 rfl ?_
        refine g_iload_n C dX12_scatter_55 rfl 1 rfl ?_
        refine g_aload_n C dX12_scatter_56 rfl 0 rfl ?_
        refine g_iload_n C dX12_scatter_57 rfl 1 rfl ?_
        refine g_iload C dX12_scatter_58 4 rfl ?_
        refine g_callVI (rest := [.int a1, .ref a0]) C mv_X12_261 [.int a1, .int v48_5] (s_X12_setOf I48 (by omega) (fun b9 e9 => by rw [e101890] at e9; cases e9; show 1 ≤ (pI P48 b101889 (a1.toInt.toNat)).toInt ∧ (pI P48 b101889 (a1.toInt.toNat)).toInt ≤ 16; omega) W48) (h101888).1 (h101888).2 rfl rfl (by decide) (Nat.le_of_ble_eq_true rfl) (by decide) dX12_scatter_60 (fun r101958 Y101959 h101960 => ?_)
        obtain ⟨Iy101961, Xy101962, W101963, h101960⟩ := h101960
        have q101964 := Xy101962.keepF 0 (by decide)
        have q101965 := Xy101962.keepA e101890 (by decide) rfl (a1.toInt.toNat)
        have Xz101966 : EM [0, 20, 21, 22, 23, 24, 25] a0 P Y101959 := EM.tr ha0 X48 (Xy101962.mono (by decide))
        have e101967 := Xy101962.ref h101888 (by decide) e101890
        have h101968 := Xy101962.at h101888
        have h101969 := Xy101962.ar h101891
        have h101960 : True := h101960
        refine g_callVI (rest := []) C mv_X12_223 [.int a1, .int r101958] (s_X12_sumOf Iy101961 (by omega) W101963) (h101968).1 (h101968).2 rfl rfl (by decide) (Nat.le_of_ble_eq_true rfl) (by decide) dX12_scatter_63 (fun r101970 Y101971 h101972 => ?_)
        obtain ⟨rfl, h101972⟩ := h101972
        have h101972 : True := h101972
        refine g_istore (lv' := [(6, .int r101970), (0, .ref a0), (1, .int a1), (3, .int a3), (4, .int v48_4), (5, .int v48_5)]) C dX12_scatter_66 (by decide) rfl ?_
        refine g_iconst (v := 0) C dX12_scatter_68 (by decide) ?_
        refine g_istore (lv' := [(7, .int 0), (6, .int r101970), (0, .ref a0), (1, .int a1), (3, .int a3), (4, .int v48_4), (5, .int v48_5)]) C dX12_scatter_69 (by decide) rfl ?_
        refine g_lv (lv' := [(0, .ref a0), (1, .int a1), (3, .int a3), (4, .int v48_4), (5, .int v48_5), (6, .int r101970), (7, .int 0)]) [2, 3, 4, 5, 6, 1, 0] rfl ?_
        exact J71 _ Y101959 v48_4 r101970 0 (Nat.lt_succ_self _) Iy101961 Xz101966 W101963 (by omega) (by omega) (by omega) (by decide) (by omega) (fun b9 e9 => by rw [e101967] at e9; cases e9; omega)
  have J40 : ∀ (P40 : PP), (IM P40 a0) → (EM [0, 20, 21, 22, 23, 24, 25] a0 P P40) → (MW P40 a0) → (0 ≤ (pI P40 a0 0).toInt ∧ (pI P40 a0 0).toInt ≤ 0) → G E ({ frames := 4, cells := 0, slots := 0, locals := 256 } : Room) D cy 9 P40 0 0 40 [] [] := by
    intro P40 I40 X40 W40 hq40_0
    have h101973 := X40.at ha0
    refine g_iconst (v := (-1)) C dX12_scatter_40 (by decide) ?_
    exact ret _ _ _ _ _ _ dX12_scatter_41 rfl (by decide) (by decide) ⟨I40, X40, W40, trivial⟩
  refine g_aload_n C dX12_scatter_0 rfl 0 rfl ?_
  refine g_iconst (v := 0) C dX12_scatter_1 (by decide) ?_
  refine g_putI C fi_X12_1 rfl (ha0).1 (ha0).2 dX12_scatter_2 ?_
  refine gqW (ks := [0]) (I.setI (rgOk.of rfl (by decide))) (EM.setI I (by decide)) (fun Y101974 Iy101975 Xy101976 w101977  => ?_)
  have w101977 : (pI Y101974 a0 0).toInt = 0 := w101977
  have W101978 := hW.keep I Xy101976 (by decide) (by decide) (by decide) (by decide)
  have Xz101979 : EM [0, 20, 21, 22, 23, 24, 25] a0 P Y101974 := Xy101976.mono (by decide)
  have h101980 := Xy101976.at ha0
  refine g_aload_n C dX12_scatter_5 rfl 0 rfl ?_
  refine g_iload_n C dX12_scatter_6 rfl 1 rfl ?_
  refine g_callVI (rest := []) C mv_X12_192 [.int a1] (s_X12_isBook Iy101975 W101978) (h101980).1 (h101980).2 rfl rfl (by decide) (Nat.le_of_ble_eq_true rfl) (by decide) dX12_scatter_7 (fun r101981 Y101982 h101983 => ?_)
  obtain ⟨rfl, h101983⟩ := h101983
  obtain ⟨h101983, hi101984, hi101985⟩ := h101983
  have hi101984 : r101981.toInt = 0 ∨ (((0 : Int) ≤ a1.toInt ∧ a1.toInt ≤ (1 : Int))) := hi101984
  have h101983 : 0 ≤ r101981.toInt ∧ r101981.toInt ≤ 1 := h101983
  refine b_if_eq C 40 dX12_scatter_10 (by decide) (fun h101986 => ?_) (fun h101986 => ?_)
  · have h101986 : r101981.toInt = 0 := congrArg Int32.toInt h101986
    clear hi101984
    refine g_lv (lv' := []) [] rfl ?_
    exact J40 Y101974 Iy101975 Xz101979 W101978 (by omega)
  · have h101986 : r101981.toInt ≠ 0 := ti_ne h101986
    replace hi101984 := hi101984.resolve_left (by omega)
    obtain ⟨b101987, e101988, h101989⟩ := Iy101975.fld (h101980) 10 13 2 rfl
    have hi101985 := (hi101985.resolve_left (by omega)) b101987 e101988
    have hi101985 : 0 < (pI Y101974 b101987 (a1.toInt.toNat)).toInt := hi101985
    have h101990 := Iy101975.arr e101988 rfl (a1.toInt.toNat)
    refine g_iload_n C dX12_scatter_13 rfl 2 rfl ?_
    refine g_callSI (b := 0) (ci := 0) (rest := []) C ms_X12_258 [.int a2] (s_X12_isNumber Iy101975.1) rfl rfl (by decide) (Nat.le_of_ble_eq_true rfl) (by decide) dX12_scatter_14 (fun r101991 Y101992 h101993 => ?_)
    obtain ⟨rfl, h101993⟩ := h101993
    obtain ⟨h101993, hi101994⟩ := h101993
    have hi101994 : r101991.toInt = 0 ∨ (((0 : Int) ≤ a2.toInt ∧ a2.toInt ≤ (9999 : Int))) := hi101994
    have h101993 : 0 ≤ r101991.toInt ∧ r101991.toInt ≤ 1 := h101993
    refine b_if_eq C 40 dX12_scatter_17 (by decide) (fun h101995 => ?_) (fun h101995 => ?_)
    · have h101995 : r101991.toInt = 0 := congrArg Int32.toInt h101995
      clear hi101994
      refine g_lv (lv' := []) [] rfl ?_
      exact J40 Y101974 Iy101975 Xz101979 W101978 (by omega)
    · have h101995 : r101991.toInt ≠ 0 := ti_ne h101995
      replace hi101994 := hi101994.resolve_left (by omega)
      refine g_iload_n C dX12_scatter_20 rfl 3 rfl ?_
      refine g_callSI (b := 0) (ci := 0) (rest := []) C ms_X12_258 [.int a3] (s_X12_isNumber Iy101975.1) rfl rfl (by decide) (Nat.le_of_ble_eq_true rfl) (by decide) dX12_scatter_21 (fun r101996 Y101997 h101998 => ?_)
      obtain ⟨rfl, h101998⟩ := h101998
      obtain ⟨h101998, hi101999⟩ := h101998
      have hi101999 : r101996.toInt = 0 ∨ (((0 : Int) ≤ a3.toInt ∧ a3.toInt ≤ (9999 : Int))) := hi101999
      have h101998 : 0 ≤ r101996.toInt ∧ r101996.toInt ≤ 1 := h101998
      refine b_if_eq C 40 dX12_scatter_24 (by decide) (fun h102000 => ?_) (fun h102000 => ?_)
      · have h102000 : r101996.toInt = 0 := congrArg Int32.toInt h102000
        clear hi101999
        refine g_lv (lv' := []) [] rfl ?_
        exact J40 Y101974 Iy101975 Xz101979 W101978 (by omega)
      · have h102000 : r101996.toInt ≠ 0 := ti_ne h102000
        replace hi101999 := hi101999.resolve_left (by omega)
        refine g_iload_n C dX12_scatter_27 rfl 3 rfl ?_
        refine g_iload_n C dX12_scatter_28 rfl 2 rfl ?_
        refine b_icmp_lt C 40 dX12_scatter_29 (by decide) (fun h102001 => ?_) (fun h102001 => ?_)
        · have h102001 : a3.toInt < a2.toInt := h102001
          refine g_lv (lv' := []) [] rfl ?_
          exact J40 Y101974 Iy101975 Xz101979 W101978 (by omega)
        · have h102001 : a2.toInt ≤ a3.toInt := h102001
          refine g_iload_n C dX12_scatter_32 rfl 3 rfl ?_
          refine g_iload_n C dX12_scatter_33 rfl 2 rfl ?_
          refine s_isub C dX12_scatter_34 (by show -2147483648 ≤ a3.toInt - a2.toInt ∧ a3.toInt - a2.toInt ≤ 2147483647; omega) (fun z102002 h102003 => ?_)
          have h102003 : z102002.toInt = a3.toInt - a2.toInt := h102003
          refine g_bipush (v := 99) C dX12_scatter_35 (by decide) ?_
          refine b_icmp_le C 42 dX12_scatter_37 (by decide) (fun h102004 => ?_) (fun h102004 => ?_)
          · have h102004 : z102002.toInt ≤ 99 := h102004
            refine g_iconst (v := 0) C dX12_scatter_42 (by decide) ?_
            refine g_istore (lv' := [(4, .int 0), (0, .ref a0), (1, .int a1), (2, .int a2), (3, .int a3)]) C dX12_scatter_43 (by decide) rfl ?_
            refine g_iload_n C dX12_scatter_45 rfl 3 rfl ?_
            refine g_istore (lv' := [(5, .int a2), (4, .int 0), (0, .ref a0), (1, .int a1), (2, .int a2), (3, .int a3)]) C dX12_scatter_46 (by decide) rfl ?_
            refine g_lv (lv' := [(0, .ref a0), (1, .int a1), (3, .int a3), (4, .int 0), (5, .int a2)]) [2, 3, 5, 1, 0] rfl ?_
            exact J48 _ Y101974 0 a2 (Nat.lt_succ_self _) Iy101975 Xz101979 W101978 (by omega) (by omega) (by omega) (by omega) (fun b9 e9 => by rw [e101988] at e9; cases e9; omega)
          · have h102004 : 99 < z102002.toInt := h102004
            refine g_lv (lv' := []) [] rfl ?_
            exact J40 Y101974 Iy101975 Xz101979 W101978 (by omega)
theorem dX12_slip_0 : decode cX12_slip 0 = .ok (.aload_n 0, 1) := by decide +kernel
theorem dX12_slip_1 : decode cX12_slip 1 = .ok (.iconst 0, 1) := by decide +kernel
theorem dX12_slip_2 : decode cX12_slip 2 = .ok (.putfield 1, 3) := by decide +kernel
theorem dX12_slip_5 : decode cX12_slip 5 = .ok (.iload_n 1, 1) := by decide +kernel
theorem dX12_slip_6 : decode cX12_slip 6 = .ok (.invokestatic 278, 3) := by decide +kernel
theorem dX12_slip_9 : decode cX12_slip 9 = .ok (.ifCond .eq 40, 3) := by decide +kernel
theorem dX12_slip_12 : decode cX12_slip 12 = .ok (.aload_n 0, 1) := by decide +kernel
theorem dX12_slip_13 : decode cX12_slip 13 = .ok (.iload_n 2, 1) := by decide +kernel
theorem dX12_slip_14 : decode cX12_slip 14 = .ok (.invokevirtual 192, 3) := by decide +kernel
theorem dX12_slip_17 : decode cX12_slip 17 = .ok (.ifCond .eq 32, 3) := by decide +kernel
theorem dX12_slip_20 : decode cX12_slip 20 = .ok (.iload_n 3, 1) := by decide +kernel
theorem dX12_slip_21 : decode cX12_slip 21 = .ok (.invokestatic 258, 3) := by decide +kernel
theorem dX12_slip_24 : decode cX12_slip 24 = .ok (.ifCond .eq 25, 3) := by decide +kernel
theorem dX12_slip_27 : decode cX12_slip 27 = .ok (.iload 4, 2) := by decide +kernel
theorem dX12_slip_29 : decode cX12_slip 29 = .ok (.iconst 1, 1) := by decide +kernel
theorem dX12_slip_30 : decode cX12_slip 30 = .ok (.ldc 195, 2) := by decide +kernel
theorem dX12_slip_32 : decode cX12_slip 32 = .ok (.invokestatic 178, 3) := by decide +kernel
theorem dX12_slip_35 : decode cX12_slip 35 = .ok (.ifCond .eq 14, 3) := by decide +kernel
theorem dX12_slip_38 : decode cX12_slip 38 = .ok (.aload_n 0, 1) := by decide +kernel
theorem dX12_slip_39 : decode cX12_slip 39 = .ok (.getfield 69, 3) := by decide +kernel
theorem dX12_slip_42 : decode cX12_slip 42 = .ok (.iload_n 1, 1) := by decide +kernel
theorem dX12_slip_43 : decode cX12_slip 43 = .ok (.iaload, 1) := by decide +kernel
theorem dX12_slip_44 : decode cX12_slip 44 = .ok (.bipush 40, 2) := by decide +kernel
theorem dX12_slip_46 : decode cX12_slip 46 = .ok (.if_icmp .ne 5, 3) := by decide +kernel
theorem dX12_slip_49 : decode cX12_slip 49 = .ok (.iconst (-1), 1) := by decide +kernel
theorem dX12_slip_50 : decode cX12_slip 50 = .ok (.ireturn, 1) := by decide +kernel
theorem dX12_slip_51 : decode cX12_slip 51 = .ok (.aload_n 0, 1) := by decide +kernel
theorem dX12_slip_52 : decode cX12_slip 52 = .ok (.iload_n 2, 1) := by decide +kernel
theorem dX12_slip_53 : decode cX12_slip 53 = .ok (.aload_n 0, 1) := by decide +kernel
theorem dX12_slip_54 : decode cX12_slip 54 = .ok (.iload_n 2, 1) := by decide +kernel
theorem dX12_slip_55 : decode cX12_slip 55 = .ok (.iload_n 3, 1) := by decide +kernel
theorem dX12_slip_56 : decode cX12_slip 56 = .ok (.invokevirtual 261, 3) := by decide +kernel
theorem dX12_slip_59 : decode cX12_slip 59 = .ok (.invokevirtual 223, 3) := by decide +kernel
theorem dX12_slip_62 : decode cX12_slip 62 = .ok (.istore 5, 2) := by decide +kernel
theorem dX12_slip_64 : decode cX12_slip 64 = .ok (.aload_n 0, 1) := by decide +kernel
theorem dX12_slip_65 : decode cX12_slip 65 = .ok (.iload_n 1, 1) := by decide +kernel
theorem dX12_slip_66 : decode cX12_slip 66 = .ok (.iload_n 2, 1) := by decide +kernel
theorem dX12_slip_67 : decode cX12_slip 67 = .ok (.iload_n 3, 1) := by decide +kernel
theorem dX12_slip_68 : decode cX12_slip 68 = .ok (.iload 5, 2) := by decide +kernel
theorem dX12_slip_70 : decode cX12_slip 70 = .ok (.iload 4, 2) := by decide +kernel
theorem dX12_slip_72 : decode cX12_slip 72 = .ok (.ixor, 1) := by decide +kernel
theorem dX12_slip_73 : decode cX12_slip 73 = .ok (.aload_n 0, 1) := by decide +kernel
theorem dX12_slip_74 : decode cX12_slip 74 = .ok (.iload_n 2, 1) := by decide +kernel
theorem dX12_slip_75 : decode cX12_slip 75 = .ok (.iload_n 3, 1) := by decide +kernel
theorem dX12_slip_76 : decode cX12_slip 76 = .ok (.iload 5, 2) := by decide +kernel
theorem dX12_slip_78 : decode cX12_slip 78 = .ok (.invokevirtual 267, 3) := by decide +kernel
theorem dX12_slip_81 : decode cX12_slip 81 = .ok (.invokevirtual 291, 3) := by decide +kernel
theorem dX12_slip_84 : decode cX12_slip 84 = .ok (.ireturn, 1) := by decide +kernel
set_option maxHeartbeats 4000000 in
set_option maxRecDepth 100000 in
theorem s_X12_slip {P : PP} {a0 : Nat} {a1 : Int32} {a2 : Int32} {a3 : Int32} {a4 : Int32} (I : IM P a0) (hW : MW P a0) : CtrI yX12_slip cX12_slip 6 (some Jvm.ClassFile.FieldType.int) ({ frames := 4, cells := 0, slots := 0, locals := 256 } : Room) 0 0 P [.ref a0, .int a1, .int a2, .int a3, .int a4] (fun r P2 => IM P2 a0 ∧ EM [0, 20, 21, 22, 23, 24, 25, 27] a0 P P2 ∧ MW P2 a0 ∧ (-1 ≤ r.toInt ∧ r.toInt ≤ 39)) := by
  refine enI (lv := [(0, .ref a0), (1, .int a1), (2, .int a2), (3, .int a3), (4, .int a4)]) (by decide) (Nat.le_of_ble_eq_true rfl) rfl (fun E D cy C Ci0 ret => ?_)
  have ha0 := I.2.1
  have J49 : ∀ (P49 : PP), (IM P49 a0) → (EM [0, 20, 21, 22, 23, 24, 25, 27] a0 P P49) → (MW P49 a0) → (0 ≤ (pI P49 a0 0).toInt ∧ (pI P49 a0 0).toInt ≤ 0) → G E ({ frames := 4, cells := 0, slots := 0, locals := 256 } : Room) D cy 6 P49 0 0 49 [] [] := by
    intro P49 I49 X49 W49 hq49_0
    have h102078 := X49.at ha0
    refine g_iconst (v := (-1)) C dX12_slip_49 (by decide) ?_
    exact ret _ _ _ _ _ _ dX12_slip_50 rfl (by decide) (by decide) ⟨I49, X49, W49, (by decide)⟩
  refine g_aload_n C dX12_slip_0 rfl 0 rfl ?_
  refine g_iconst (v := 0) C dX12_slip_1 (by decide) ?_
  refine g_putI C fi_X12_1 rfl (ha0).1 (ha0).2 dX12_slip_2 ?_
  refine gqW (ks := [0]) (I.setI (rgOk.of rfl (by decide))) (EM.setI I (by decide)) (fun Y102079 Iy102080 Xy102081 w102082  => ?_)
  have w102082 : (pI Y102079 a0 0).toInt = 0 := w102082
  have W102083 := hW.keep I Xy102081 (by decide) (by decide) (by decide) (by decide)
  have Xz102084 : EM [0, 20, 21, 22, 23, 24, 25, 27] a0 P Y102079 := Xy102081.mono (by decide)
  have h102085 := Xy102081.at ha0
  refine g_iload_n C dX12_slip_5 rfl 1 rfl ?_
  refine g_callSI (b := 0) (ci := 0) (rest := []) C ms_X12_278 [.int a1] (s_X12_isQuarter Iy102080.1) rfl rfl (by decide) (Nat.le_of_ble_eq_true rfl) (by decide) dX12_slip_6 (fun r102086 Y102087 h102088 => ?_)
  obtain ⟨rfl, h102088⟩ := h102088
  obtain ⟨h102088, hi102089⟩ := h102088
  have hi102089 : r102086.toInt = 0 ∨ (((0 : Int) ≤ a1.toInt ∧ a1.toInt ≤ (3 : Int))) := hi102089
  have h102088 : 0 ≤ r102086.toInt ∧ r102086.toInt ≤ 1 := h102088
  refine b_if_eq C 49 dX12_slip_9 (by decide) (fun h102090 => ?_) (fun h102090 => ?_)
  · have h102090 : r102086.toInt = 0 := congrArg Int32.toInt h102090
    clear hi102089
    refine g_lv (lv' := []) [] rfl ?_
    exact J49 Y102079 Iy102080 Xz102084 W102083 (by omega)
  · have h102090 : r102086.toInt ≠ 0 := ti_ne h102090
    replace hi102089 := hi102089.resolve_left (by omega)
    refine g_aload_n C dX12_slip_12 rfl 0 rfl ?_
    refine g_iload_n C dX12_slip_13 rfl 2 rfl ?_
    refine g_callVI (rest := []) C mv_X12_192 [.int a2] (s_X12_isBook Iy102080 W102083) (h102085).1 (h102085).2 rfl rfl (by decide) (Nat.le_of_ble_eq_true rfl) (by decide) dX12_slip_14 (fun r102091 Y102092 h102093 => ?_)
    obtain ⟨rfl, h102093⟩ := h102093
    obtain ⟨h102093, hi102094, hi102095⟩ := h102093
    have hi102094 : r102091.toInt = 0 ∨ (((0 : Int) ≤ a2.toInt ∧ a2.toInt ≤ (1 : Int))) := hi102094
    have h102093 : 0 ≤ r102091.toInt ∧ r102091.toInt ≤ 1 := h102093
    refine b_if_eq C 49 dX12_slip_17 (by decide) (fun h102096 => ?_) (fun h102096 => ?_)
    · have h102096 : r102091.toInt = 0 := congrArg Int32.toInt h102096
      clear hi102094
      refine g_lv (lv' := []) [] rfl ?_
      exact J49 Y102079 Iy102080 Xz102084 W102083 (by omega)
    · have h102096 : r102091.toInt ≠ 0 := ti_ne h102096
      replace hi102094 := hi102094.resolve_left (by omega)
      obtain ⟨b102097, e102098, h102099⟩ := Iy102080.fld (h102085) 10 13 2 rfl
      have hi102095 := (hi102095.resolve_left (by omega)) b102097 e102098
      have hi102095 : 0 < (pI Y102079 b102097 (a2.toInt.toNat)).toInt := hi102095
      have h102100 := Iy102080.arr e102098 rfl (a2.toInt.toNat)
      refine g_iload_n C dX12_slip_20 rfl 3 rfl ?_
      refine g_callSI (b := 0) (ci := 0) (rest := []) C ms_X12_258 [.int a3] (s_X12_isNumber Iy102080.1) rfl rfl (by decide) (Nat.le_of_ble_eq_true rfl) (by decide) dX12_slip_21 (fun r102101 Y102102 h102103 => ?_)
      obtain ⟨rfl, h102103⟩ := h102103
      obtain ⟨h102103, hi102104⟩ := h102103
      have hi102104 : r102101.toInt = 0 ∨ (((0 : Int) ≤ a3.toInt ∧ a3.toInt ≤ (9999 : Int))) := hi102104
      have h102103 : 0 ≤ r102101.toInt ∧ r102101.toInt ≤ 1 := h102103
      refine b_if_eq C 49 dX12_slip_24 (by decide) (fun h102105 => ?_) (fun h102105 => ?_)
      · have h102105 : r102101.toInt = 0 := congrArg Int32.toInt h102105
        clear hi102104
        refine g_lv (lv' := []) [] rfl ?_
        exact J49 Y102079 Iy102080 Xz102084 W102083 (by omega)
      · have h102105 : r102101.toInt ≠ 0 := ti_ne h102105
        replace hi102104 := hi102104.resolve_left (by omega)
        refine g_iload C dX12_slip_27 4 rfl ?_
        refine g_iconst (v := 1) C dX12_slip_29 (by decide) ?_
        refine g_ldc (v := 65535) C kc_X12_195 dX12_slip_30 ?_
        refine g_callSI (b := 0) (ci := 0) (rest := []) C ms_X12_178 [.int a4, .int 1, .int 65535] (s_X12_within Iy102080.1) rfl rfl (by decide) (Nat.le_of_ble_eq_true rfl) (by decide) dX12_slip_32 (fun r102106 Y102107 h102108 => ?_)
        obtain ⟨rfl, h102108⟩ := h102108
        obtain ⟨h102108, hi102109⟩ := h102108
        have hi102109 : r102106.toInt = 0 ∨ (1 ≤ a4.toInt ∧ a4.toInt ≤ 65535) := hi102109
        have h102108 : 0 ≤ r102106.toInt ∧ r102106.toInt ≤ 1 := h102108
        refine b_if_eq C 49 dX12_slip_35 (by decide) (fun h102110 => ?_) (fun h102110 => ?_)
        · have h102110 : r102106.toInt = 0 := congrArg Int32.toInt h102110
          clear hi102109
          refine g_lv (lv' := []) [] rfl ?_
          exact J49 Y102079 Iy102080 Xz102084 W102083 (by omega)
        · have h102110 : r102106.toInt ≠ 0 := ti_ne h102110
          replace hi102109 := hi102109.resolve_left (by omega)
          refine g_aload_n C dX12_slip_38 rfl 0 rfl ?_
          obtain ⟨b102111, e102112, h102113⟩ := Iy102080.fld (h102085) 20 13 20 rfl
          refine g_getR C fi_X12_69 rfl e102112 (h102085).1 (h102085).2 dX12_slip_39 ?_
          refine g_iload_n C dX12_slip_42 rfl 1 rfl ?_
          refine g_iald (j := (a1.toInt.toNat)) C h102113.1 h102113.2.1 (ix_in h102113.2.2 (by omega)) dX12_slip_43 ?_
          have h102114 := Iy102080.arr e102112 rfl (a1.toInt.toNat)
          refine g_bipush (v := 40) C dX12_slip_44 (by decide) ?_
          refine b_icmp_ne C 51 dX12_slip_46 (by decide) (fun h102115 => ?_) (fun h102115 => ?_)
          · have h102115 : (pI Y102079 b102111 (a1.toInt.toNat)).toInt ≠ 40 := ti_ne h102115
            refine g_aload_n C dX12_slip_51 rfl 0 rfl ?_
            refine g_iload_n C dX12_slip_52 rfl 2 rfl ?_
            refine g_aload_n C dX12_slip_53 rfl 0 rfl ?_
            refine g_iload_n C dX12_slip_54 rfl 2 rfl ?_
            refine g_iload_n C dX12_slip_55 rfl 3 rfl ?_
            refine g_callVI (rest := [.int a2, .ref a0]) C mv_X12_261 [.int a2, .int a3] (s_X12_setOf Iy102080 (by omega) (fun b9 e9 => by rw [e102098] at e9; cases e9; show 1 ≤ (pI Y102079 b102097 (a2.toInt.toNat)).toInt ∧ (pI Y102079 b102097 (a2.toInt.toNat)).toInt ≤ 16; omega) W102083) (h102085).1 (h102085).2 rfl rfl (by decide) (Nat.le_of_ble_eq_true rfl) (by decide) dX12_slip_56 (fun r102116 Y102117 h102118 => ?_)
            obtain ⟨Iy102119, Xy102120, W102121, h102118⟩ := h102118
            have q102122 := Xy102120.keepF 0 (by decide)
            have q102123 := Xy102120.keepA e102098 (by decide) rfl (a2.toInt.toNat)
            have q102124 := Xy102120.keepA e102112 (by decide) rfl (a1.toInt.toNat)
            have Xz102125 : EM [0, 20, 21, 22, 23, 24, 25, 27] a0 P Y102117 := EM.tr ha0 Xz102084 (Xy102120.mono (by decide))
            have e102126 := Xy102120.ref h102085 (by decide) e102098
            have e102127 := Xy102120.ref h102085 (by decide) e102112
            have h102128 := Xy102120.at h102085
            have h102129 := Xy102120.ar h102099
            have h102130 := Xy102120.ar h102113
            have h102118 : True := h102118
            refine g_callVI (rest := []) C mv_X12_223 [.int a2, .int r102116] (s_X12_sumOf Iy102119 (by omega) W102121) (h102128).1 (h102128).2 rfl rfl (by decide) (Nat.le_of_ble_eq_true rfl) (by decide) dX12_slip_59 (fun r102131 Y102132 h102133 => ?_)
            obtain ⟨rfl, h102133⟩ := h102133
            have h102133 : True := h102133
            refine g_istore (lv' := [(5, .int r102131), (0, .ref a0), (1, .int a1), (2, .int a2), (3, .int a3), (4, .int a4)]) C dX12_slip_62 (by decide) rfl ?_
            refine g_aload_n C dX12_slip_64 rfl 1 rfl ?_
            refine g_iload_n C dX12_slip_65 rfl 2 rfl ?_
            refine g_iload_n C dX12_slip_66 rfl 3 rfl ?_
            refine g_iload_n C dX12_slip_67 rfl 4 rfl ?_
            refine g_iload C dX12_slip_68 0 rfl ?_
            refine g_iload C dX12_slip_70 5 rfl ?_
            refine a_ixor C dX12_slip_72 (fun z102134 => ?_)
            refine g_aload_n C dX12_slip_73 rfl 1 rfl ?_
            refine g_iload_n C dX12_slip_74 rfl 3 rfl ?_
            refine g_iload_n C dX12_slip_75 rfl 4 rfl ?_
            refine g_iload C dX12_slip_76 0 rfl ?_
            refine g_callVI (rest := [.int z102134, .int a3, .int a2, .int a1, .ref a0]) C mv_X12_267 [.int a2, .int a3, .int r102131] (s_X12_sealOf Iy102119 (by omega) W102121) (h102128).1 (h102128).2 rfl rfl (by decide) (Nat.le_of_ble_eq_true rfl) (by decide) dX12_slip_78 (fun r102136 Y102137 h102138 => ?_)
            obtain ⟨rfl, h102138⟩ := h102138
            have h102138 : -996 ≤ r102136.toInt ∧ r102136.toInt ≤ 996 := h102138
            refine g_callVI (rest := []) C mv_X12_291 [.int a1, .int a2, .int a3, .int z102134, .int r102136] (s_X12_laysIf Iy102119 (by omega) (by omega) (fun b9 e9 => by rw [e102126] at e9; cases e9; show 1 ≤ (pI Y102117 b102097 (a2.toInt.toNat)).toInt ∧ (pI Y102117 b102097 (a2.toInt.toNat)).toInt ≤ 16; omega) (fun b9 e9 => by rw [e102127] at e9; cases e9; show 0 ≤ (pI Y102117 b102111 (a1.toInt.toNat)).toInt ∧ (pI Y102117 b102111 (a1.toInt.toNat)).toInt ≤ 39; omega) W102121) (h102128).1 (h102128).2 rfl rfl (by decide) (Nat.le_of_ble_eq_true rfl) (by decide) dX12_slip_81 (fun r102139 Y102140 h102141 => ?_)
            obtain ⟨Iy102142, Xy102143, W102144, h102141⟩ := h102141
            have q102145 := Xy102143.keepF 0 (by decide)
            have q102146 := Xy102143.keepA e102126 (by decide) rfl (a2.toInt.toNat)
            have Xz102147 : EM [0, 20, 21, 22, 23, 24, 25, 27] a0 P Y102140 := EM.tr ha0 Xz102125 (Xy102143.mono (by decide))
            have e102148 := Xy102143.ref h102128 (by decide) e102126
            have h102149 := Xy102143.at h102128
            have h102150 := Xy102143.ar h102129
            have h102141 : -1 ≤ r102139.toInt ∧ r102139.toInt ≤ 39 := h102141
            exact ret _ _ _ _ _ _ dX12_slip_84 rfl (by decide) (by decide) ⟨Iy102142, Xz102147, W102144, (by omega)⟩
          · have h102115 : (pI Y102079 b102111 (a1.toInt.toNat)).toInt = 40 := congrArg Int32.toInt h102115
            refine g_lv (lv' := []) [] rfl ?_
            exact J49 Y102079 Iy102080 Xz102084 W102083 (by omega)
theorem dX12_slipped_0 : decode cX12_slipped 0 = .ok (.aload_n 0, 1) := by decide +kernel
theorem dX12_slipped_1 : decode cX12_slipped 1 = .ok (.iconst 0, 1) := by decide +kernel
theorem dX12_slipped_2 : decode cX12_slipped 2 = .ok (.putfield 1, 3) := by decide +kernel
theorem dX12_slipped_5 : decode cX12_slipped 5 = .ok (.aload_n 0, 1) := by decide +kernel
theorem dX12_slipped_6 : decode cX12_slipped 6 = .ok (.iload_n 1, 1) := by decide +kernel
theorem dX12_slipped_7 : decode cX12_slipped 7 = .ok (.iload_n 2, 1) := by decide +kernel
theorem dX12_slipped_8 : decode cX12_slipped 8 = .ok (.iload_n 3, 1) := by decide +kernel
theorem dX12_slipped_9 : decode cX12_slipped 9 = .ok (.invokevirtual 333, 3) := by decide +kernel
theorem dX12_slipped_12 : decode cX12_slipped 12 = .ok (.ifCond .eq 23, 3) := by decide +kernel
theorem dX12_slipped_15 : decode cX12_slipped 15 = .ok (.iload 4, 2) := by decide +kernel
theorem dX12_slipped_17 : decode cX12_slipped 17 = .ok (.iconst 0, 1) := by decide +kernel
theorem dX12_slipped_18 : decode cX12_slipped 18 = .ok (.iconst 2, 1) := by decide +kernel
theorem dX12_slipped_19 : decode cX12_slipped 19 = .ok (.invokestatic 178, 3) := by decide +kernel
theorem dX12_slipped_22 : decode cX12_slipped 22 = .ok (.ifCond .eq 13, 3) := by decide +kernel
theorem dX12_slipped_25 : decode cX12_slipped 25 = .ok (.aload_n 0, 1) := by decide +kernel
theorem dX12_slipped_26 : decode cX12_slipped 26 = .ok (.iload_n 1, 1) := by decide +kernel
theorem dX12_slipped_27 : decode cX12_slipped 27 = .ok (.iload_n 2, 1) := by decide +kernel
theorem dX12_slipped_28 : decode cX12_slipped 28 = .ok (.iload_n 3, 1) := by decide +kernel
theorem dX12_slipped_29 : decode cX12_slipped 29 = .ok (.invokevirtual 364, 3) := by decide +kernel
theorem dX12_slipped_32 : decode cX12_slipped 32 = .ok (.ifCond .ne 5, 3) := by decide +kernel
theorem dX12_slipped_35 : decode cX12_slipped 35 = .ok (.iconst (-1), 1) := by decide +kernel
theorem dX12_slipped_36 : decode cX12_slipped 36 = .ok (.ireturn, 1) := by decide +kernel
theorem dX12_slipped_37 : decode cX12_slipped 37 = .ok (.iload 4, 2) := by decide +kernel
theorem dX12_slipped_39 : decode cX12_slipped 39 = .ok (.ifCond .ne 10, 3) := by decide +kernel
theorem dX12_slipped_42 : decode cX12_slipped 42 = .ok (.aload_n 0, 1) := by decide +kernel
theorem dX12_slipped_43 : decode cX12_slipped 43 = .ok (.getfield 361, 3) := by decide +kernel
theorem dX12_slipped_46 : decode cX12_slipped 46 = .ok (.goto 42, 3) := by decide +kernel
theorem dX12_slipped_49 : decode cX12_slipped 49 = .ok (.iload 4, 2) := by decide +kernel
theorem dX12_slipped_51 : decode cX12_slipped 51 = .ok (.iconst 2, 1) := by decide +kernel
theorem dX12_slipped_52 : decode cX12_slipped 52 = .ok (.if_icmp .ne 19, 3) := by decide +kernel
theorem dX12_slipped_55 : decode cX12_slipped 55 = .ok (.aload_n 0, 1) := by decide +kernel
theorem dX12_slipped_56 : decode cX12_slipped 56 = .ok (.getfield 361, 3) := by decide +kernel
theorem dX12_slipped_59 : decode cX12_slipped 59 = .ok (.iconst 1, 1) := by decide +kernel
theorem dX12_slipped_60 : decode cX12_slipped 60 = .ok (.if_icmp .ne 7, 3) := by decide +kernel
theorem dX12_slipped_63 : decode cX12_slipped 63 = .ok (.iconst 1, 1) := by decide +kernel
theorem dX12_slipped_64 : decode cX12_slipped 64 = .ok (.goto 24, 3) := by decide +kernel
theorem dX12_slipped_67 : decode cX12_slipped 67 = .ok (.iconst 0, 1) := by decide +kernel
theorem dX12_slipped_68 : decode cX12_slipped 68 = .ok (.goto 20, 3) := by decide +kernel
theorem dX12_slipped_71 : decode cX12_slipped 71 = .ok (.aload_n 0, 1) := by decide +kernel
theorem dX12_slipped_72 : decode cX12_slipped 72 = .ok (.getfield 361, 3) := by decide +kernel
theorem dX12_slipped_75 : decode cX12_slipped 75 = .ok (.ifCond .ne 7, 3) := by decide +kernel
theorem dX12_slipped_78 : decode cX12_slipped 78 = .ok (.iconst (-1), 1) := by decide +kernel
theorem dX12_slipped_79 : decode cX12_slipped 79 = .ok (.goto 9, 3) := by decide +kernel
theorem dX12_slipped_82 : decode cX12_slipped 82 = .ok (.aload_n 0, 1) := by decide +kernel
theorem dX12_slipped_83 : decode cX12_slipped 83 = .ok (.getfield 112, 3) := by decide +kernel
theorem dX12_slipped_86 : decode cX12_slipped 86 = .ok (.iconst 0, 1) := by decide +kernel
theorem dX12_slipped_87 : decode cX12_slipped 87 = .ok (.iaload, 1) := by decide +kernel
theorem dX12_slipped_88 : decode cX12_slipped 88 = .ok (.ireturn, 1) := by decide +kernel
set_option maxHeartbeats 4000000 in
set_option maxRecDepth 100000 in
theorem s_X12_slipped {P : PP} {a0 : Nat} {a1 : Int32} {a2 : Int32} {a3 : Int32} {a4 : Int32} (I : IM P a0) (hW : MW P a0) : CtrI yX12_slipped cX12_slipped 5 (some Jvm.ClassFile.FieldType.int) ({ frames := 6, cells := 0, slots := 0, locals := 384 } : Room) 0 0 P [.ref a0, .int a1, .int a2, .int a3, .int a4] (fun r P2 => IM P2 a0 ∧ EM [0, 28, 29, 30, 31, 32, 35, 36, 37, 38, 39, 40] a0 P P2 ∧ MW P2 a0 ∧ (-1 ≤ r.toInt ∧ r.toInt ≤ 40)) := by
  refine enI (lv := [(0, .ref a0), (1, .int a1), (2, .int a2), (3, .int a3), (4, .int a4)]) (by decide) (Nat.le_of_ble_eq_true rfl) rfl (fun E D cy C Ci0 ret => ?_)
  have ha0 := I.2.1
  have J35 : ∀ (P35 : PP), (IM P35 a0) → (EM [0, 28, 29, 30, 31, 32, 35, 36, 37, 38, 39, 40] a0 P P35) → (MW P35 a0) → (0 ≤ (pI P35 a0 0).toInt ∧ (pI P35 a0 0).toInt ≤ 0) → G E ({ frames := 6, cells := 0, slots := 0, locals := 384 } : Room) D cy 5 P35 0 0 35 [] [] := by
    intro P35 I35 X35 W35 hq35_0
    have h102198 := X35.at ha0
    refine g_iconst (v := (-1)) C dX12_slipped_35 (by decide) ?_
    exact ret _ _ _ _ _ _ dX12_slipped_36 rfl (by decide) (by decide) ⟨I35, X35, W35, (by decide)⟩
  refine g_aload_n C dX12_slipped_0 rfl 0 rfl ?_
  refine g_iconst (v := 0) C dX12_slipped_1 (by decide) ?_
  refine g_putI C fi_X12_1 rfl (ha0).1 (ha0).2 dX12_slipped_2 ?_
  refine gqW (ks := [0]) (I.setI (rgOk.of rfl (by decide))) (EM.setI I (by decide)) (fun Y102199 Iy102200 Xy102201 w102202  => ?_)
  have w102202 : (pI Y102199 a0 0).toInt = 0 := w102202
  have W102203 := hW.keep I Xy102201 (by decide) (by decide) (by decide) (by decide)
  have Xz102204 : EM [0, 28, 29, 30, 31, 32, 35, 36, 37, 38, 39, 40] a0 P Y102199 := Xy102201.mono (by decide)
  have h102205 := Xy102201.at ha0
  refine g_aload_n C dX12_slipped_5 rfl 0 rfl ?_
  refine g_iload_n C dX12_slipped_6 rfl 1 rfl ?_
  refine g_iload_n C dX12_slipped_7 rfl 2 rfl ?_
  refine g_iload_n C dX12_slipped_8 rfl 3 rfl ?_
  refine g_callVI (rest := []) C mv_X12_333 [.int a1, .int a2, .int a3] (s_X12_isAsked Iy102200 W102203) (h102205).1 (h102205).2 rfl rfl (by decide) (Nat.le_of_ble_eq_true rfl) (by decide) dX12_slipped_9 (fun r102206 Y102207 h102208 => ?_)
  obtain ⟨rfl, h102208⟩ := h102208
  obtain ⟨h102208, hi102209, hi102210⟩ := h102208
  have hi102209 : r102206.toInt = 0 ∨ (((0 : Int) ≤ a1.toInt ∧ a1.toInt ≤ (3 : Int)) ∧ ((0 : Int) ≤ a2.toInt ∧ a2.toInt ≤ (1 : Int)) ∧ ((0 : Int) ≤ a3.toInt ∧ a3.toInt ≤ (1 : Int))) := hi102209
  have h102208 : 0 ≤ r102206.toInt ∧ r102206.toInt ≤ 1 := h102208
  refine b_if_eq C 35 dX12_slipped_12 (by decide) (fun h102211 => ?_) (fun h102211 => ?_)
  · have h102211 : r102206.toInt = 0 := congrArg Int32.toInt h102211
    clear hi102209
    refine g_lv (lv' := []) [] rfl ?_
    exact J35 Y102199 Iy102200 Xz102204 W102203 (by omega)
  · have h102211 : r102206.toInt ≠ 0 := ti_ne h102211
    replace hi102209 := hi102209.resolve_left (by omega)
    obtain ⟨b102212, e102213, h102214⟩ := Iy102200.fld (h102205) 10 13 2 rfl
    have hi102210 := (hi102210.resolve_left (by omega)) b102212 e102213
    have hi102210 : 0 < (pI Y102199 b102212 (a2.toInt.toNat)).toInt := hi102210
    have h102215 := Iy102200.arr e102213 rfl (a2.toInt.toNat)
    refine g_iload C dX12_slipped_15 4 rfl ?_
    refine g_iconst (v := 0) C dX12_slipped_17 (by decide) ?_
    refine g_iconst (v := 2) C dX12_slipped_18 (by decide) ?_
    refine g_callSI (b := 0) (ci := 0) (rest := []) C ms_X12_178 [.int a4, .int 0, .int 2] (s_X12_within Iy102200.1) rfl rfl (by decide) (Nat.le_of_ble_eq_true rfl) (by decide) dX12_slipped_19 (fun r102216 Y102217 h102218 => ?_)
    obtain ⟨rfl, h102218⟩ := h102218
    obtain ⟨h102218, hi102219⟩ := h102218
    have hi102219 : r102216.toInt = 0 ∨ (0 ≤ a4.toInt ∧ a4.toInt ≤ 2) := hi102219
    have h102218 : 0 ≤ r102216.toInt ∧ r102216.toInt ≤ 1 := h102218
    refine b_if_eq C 35 dX12_slipped_22 (by decide) (fun h102220 => ?_) (fun h102220 => ?_)
    · have h102220 : r102216.toInt = 0 := congrArg Int32.toInt h102220
      clear hi102219
      refine g_lv (lv' := []) [] rfl ?_
      exact J35 Y102199 Iy102200 Xz102204 W102203 (by omega)
    · have h102220 : r102216.toInt ≠ 0 := ti_ne h102220
      replace hi102219 := hi102219.resolve_left (by omega)
      refine g_aload_n C dX12_slipped_25 rfl 0 rfl ?_
      refine g_iload_n C dX12_slipped_26 rfl 1 rfl ?_
      refine g_iload_n C dX12_slipped_27 rfl 2 rfl ?_
      refine g_iload_n C dX12_slipped_28 rfl 3 rfl ?_
      refine g_callVI (rest := []) C mv_X12_364 [.int a1, .int a2, .int a3] (s_X12_findSlipped Iy102200 (by omega) (by omega) (by omega) (fun b9 e9 => by rw [e102213] at e9; cases e9; show 1 ≤ (pI Y102199 b102212 (a2.toInt.toNat)).toInt ∧ (pI Y102199 b102212 (a2.toInt.toNat)).toInt ≤ 16; omega) W102203) (h102205).1 (h102205).2 rfl rfl (by decide) (Nat.le_of_ble_eq_true rfl) (by decide) dX12_slipped_29 (fun r102221 Y102222 h102223 => ?_)
      obtain ⟨Iy102224, Xy102225, W102226, h102223⟩ := h102223
      have q102227 := Xy102225.keepF 0 (by decide)
      have q102228 := Xy102225.keepA e102213 (by decide) rfl (a2.toInt.toNat)
      have Xz102229 : EM [0, 28, 29, 30, 31, 32, 35, 36, 37, 38, 39, 40] a0 P Y102222 := EM.tr ha0 Xz102204 (Xy102225.mono (by decide))
      have e102230 := Xy102225.ref h102205 (by decide) e102213
      have h102231 := Xy102225.at h102205
      have h102232 := Xy102225.ar h102214
      have h102223 : 0 ≤ r102221.toInt ∧ r102221.toInt ≤ 1 := h102223
      refine b_if_ne C 37 dX12_slipped_32 (by decide) (fun h102233 => ?_) (fun h102233 => ?_)
      · have h102233 : r102221.toInt ≠ 0 := ti_ne h102233
        refine g_iload C dX12_slipped_37 4 rfl ?_
        refine b_if_ne C 49 dX12_slipped_39 (by decide) (fun h102234 => ?_) (fun h102234 => ?_)
        · have h102234 : a4.toInt ≠ 0 := ti_ne h102234
          refine g_iload C dX12_slipped_49 4 rfl ?_
          refine g_iconst (v := 2) C dX12_slipped_51 (by decide) ?_
          refine b_icmp_ne C 71 dX12_slipped_52 (by decide) (fun h102235 => ?_) (fun h102235 => ?_)
          · have h102235 : a4.toInt ≠ 2 := ti_ne h102235
            refine g_aload_n C dX12_slipped_71 rfl 0 rfl ?_
            refine g_getI C fi_X12_361 (by decide) (h102231).1 (h102231).2 dX12_slipped_72 ?_
            have h102236 := Iy102224.rg (h102231) 39 rfl
            refine b_if_ne C 82 dX12_slipped_75 (by decide) (fun h102237 => ?_) (fun h102237 => ?_)
            · have h102237 : (pI Y102222 a0 39).toInt ≠ 0 := ti_ne h102237
              refine g_aload_n C dX12_slipped_82 rfl 0 rfl ?_
              obtain ⟨b102238, e102239, h102240⟩ := Iy102224.fld (h102231) 40 13 40 rfl
              refine g_getR C fi_X12_112 rfl e102239 (h102231).1 (h102231).2 dX12_slipped_83 ?_
              refine g_iconst (v := 0) C dX12_slipped_86 (by decide) ?_
              refine g_iald (j := 0) C h102240.1 h102240.2.1 (IX.litn (j := 0) h102240.2.2 rfl (by decide) (by decide)) dX12_slipped_87 ?_
              have h102241 := Iy102224.arr e102239 rfl 0
              exact ret _ _ _ _ _ _ dX12_slipped_88 rfl (by decide) (by decide) ⟨Iy102224, Xz102229, W102226, (by omega)⟩
            · have h102237 : (pI Y102222 a0 39).toInt = 0 := congrArg Int32.toInt h102237
              refine g_iconst (v := (-1)) C dX12_slipped_78 (by decide) ?_
              refine g_goto C 88 dX12_slipped_79 (by decide) ?_
              exact ret _ _ _ _ _ _ dX12_slipped_88 rfl (by decide) (by decide) ⟨Iy102224, Xz102229, W102226, (by decide)⟩
          · have h102235 : a4.toInt = 2 := congrArg Int32.toInt h102235
            refine g_aload_n C dX12_slipped_55 rfl 0 rfl ?_
            refine g_getI C fi_X12_361 (by decide) (h102231).1 (h102231).2 dX12_slipped_56 ?_
            have h102242 := Iy102224.rg (h102231) 39 rfl
            refine g_iconst (v := 1) C dX12_slipped_59 (by decide) ?_
            refine b_icmp_ne C 67 dX12_slipped_60 (by decide) (fun h102243 => ?_) (fun h102243 => ?_)
            · have h102243 : (pI Y102222 a0 39).toInt ≠ 1 := ti_ne h102243
              refine g_iconst (v := 0) C dX12_slipped_67 (by decide) ?_
              refine g_goto C 88 dX12_slipped_68 (by decide) ?_
              exact ret _ _ _ _ _ _ dX12_slipped_88 rfl (by decide) (by decide) ⟨Iy102224, Xz102229, W102226, (by decide)⟩
            · have h102243 : (pI Y102222 a0 39).toInt = 1 := congrArg Int32.toInt h102243
              refine g_iconst (v := 1) C dX12_slipped_63 (by decide) ?_
              refine g_goto C 88 dX12_slipped_64 (by decide) ?_
              exact ret _ _ _ _ _ _ dX12_slipped_88 rfl (by decide) (by decide) ⟨Iy102224, Xz102229, W102226, (by decide)⟩
        · have h102234 : a4.toInt = 0 := congrArg Int32.toInt h102234
          refine g_aload_n C dX12_slipped_42 rfl 0 rfl ?_
          refine g_getI C fi_X12_361 (by decide) (h102231).1 (h102231).2 dX12_slipped_43 ?_
          have h102244 := Iy102224.rg (h102231) 39 rfl
          refine g_goto C 88 dX12_slipped_46 (by decide) ?_
          exact ret _ _ _ _ _ _ dX12_slipped_88 rfl (by decide) (by decide) ⟨Iy102224, Xz102229, W102226, (by omega)⟩
      · have h102233 : r102221.toInt = 0 := congrArg Int32.toInt h102233
        refine g_lv (lv' := []) [] rfl ?_
        exact J35 Y102222 Iy102224 Xz102229 W102226 (by omega)
theorem dX12_solves_0 : decode cX12_solves 0 = .ok (.aload_n 0, 1) := by decide +kernel
theorem dX12_solves_1 : decode cX12_solves 1 = .ok (.iconst 0, 1) := by decide +kernel
theorem dX12_solves_2 : decode cX12_solves 2 = .ok (.putfield 1, 3) := by decide +kernel
theorem dX12_solves_5 : decode cX12_solves 5 = .ok (.aload_n 0, 1) := by decide +kernel
theorem dX12_solves_6 : decode cX12_solves 6 = .ok (.iload_n 1, 1) := by decide +kernel
theorem dX12_solves_7 : decode cX12_solves 7 = .ok (.iload_n 2, 1) := by decide +kernel
theorem dX12_solves_8 : decode cX12_solves 8 = .ok (.iload_n 3, 1) := by decide +kernel
theorem dX12_solves_9 : decode cX12_solves 9 = .ok (.invokevirtual 333, 3) := by decide +kernel
theorem dX12_solves_12 : decode cX12_solves 12 = .ok (.ifCond .eq 13, 3) := by decide +kernel
theorem dX12_solves_15 : decode cX12_solves 15 = .ok (.iload 4, 2) := by decide +kernel
theorem dX12_solves_17 : decode cX12_solves 17 = .ok (.iconst 0, 1) := by decide +kernel
theorem dX12_solves_18 : decode cX12_solves 18 = .ok (.iconst 3, 1) := by decide +kernel
theorem dX12_solves_19 : decode cX12_solves 19 = .ok (.invokestatic 178, 3) := by decide +kernel
theorem dX12_solves_22 : decode cX12_solves 22 = .ok (.ifCond .ne 5, 3) := by decide +kernel
theorem dX12_solves_25 : decode cX12_solves 25 = .ok (.iconst (-1), 1) := by decide +kernel
theorem dX12_solves_26 : decode cX12_solves 26 = .ok (.ireturn, 1) := by decide +kernel
theorem dX12_solves_27 : decode cX12_solves 27 = .ok (.aload_n 0, 1) := by decide +kernel
theorem dX12_solves_28 : decode cX12_solves 28 = .ok (.invokevirtual 336, 3) := by decide +kernel
theorem dX12_solves_31 : decode cX12_solves 31 = .ok (.aload_n 0, 1) := by decide +kernel
theorem dX12_solves_32 : decode cX12_solves 32 = .ok (.iload_n 1, 1) := by decide +kernel
theorem dX12_solves_33 : decode cX12_solves 33 = .ok (.iload_n 2, 1) := by decide +kernel
theorem dX12_solves_34 : decode cX12_solves 34 = .ok (.iload_n 3, 1) := by decide +kernel
theorem dX12_solves_35 : decode cX12_solves 35 = .ok (.aload_n 0, 1) := by decide +kernel
theorem dX12_solves_36 : decode cX12_solves 36 = .ok (.getfield 69, 3) := by decide +kernel
theorem dX12_solves_39 : decode cX12_solves 39 = .ok (.iload_n 1, 1) := by decide +kernel
theorem dX12_solves_40 : decode cX12_solves 40 = .ok (.iaload, 1) := by decide +kernel
theorem dX12_solves_41 : decode cX12_solves 41 = .ok (.invokevirtual 339, 3) := by decide +kernel
theorem dX12_solves_44 : decode cX12_solves 44 = .ok (.aload_n 0, 1) := by decide +kernel
theorem dX12_solves_45 : decode cX12_solves 45 = .ok (.invokevirtual 346, 3) := by decide +kernel
theorem dX12_solves_48 : decode cX12_solves 48 = .ok (.iload 4, 2) := by decide +kernel
theorem dX12_solves_50 : decode cX12_solves 50 = .ok (.ifCond .ne 10, 3) := by decide +kernel
theorem dX12_solves_53 : decode cX12_solves 53 = .ok (.aload_n 0, 1) := by decide +kernel
theorem dX12_solves_54 : decode cX12_solves 54 = .ok (.invokevirtual 349, 3) := by decide +kernel
theorem dX12_solves_57 : decode cX12_solves 57 = .ok (.goto 47, 3) := by decide +kernel
theorem dX12_solves_60 : decode cX12_solves 60 = .ok (.iload 4, 2) := by decide +kernel
theorem dX12_solves_62 : decode cX12_solves 62 = .ok (.iconst 1, 1) := by decide +kernel
theorem dX12_solves_63 : decode cX12_solves 63 = .ok (.if_icmp .ne 18, 3) := by decide +kernel
theorem dX12_solves_66 : decode cX12_solves 66 = .ok (.aload_n 0, 1) := by decide +kernel
theorem dX12_solves_67 : decode cX12_solves 67 = .ok (.getfield 326, 3) := by decide +kernel
theorem dX12_solves_70 : decode cX12_solves 70 = .ok (.ifCond .eq 7, 3) := by decide +kernel
theorem dX12_solves_73 : decode cX12_solves 73 = .ok (.iconst 1, 1) := by decide +kernel
theorem dX12_solves_74 : decode cX12_solves 74 = .ok (.goto 30, 3) := by decide +kernel
theorem dX12_solves_77 : decode cX12_solves 77 = .ok (.iconst 0, 1) := by decide +kernel
theorem dX12_solves_78 : decode cX12_solves 78 = .ok (.goto 26, 3) := by decide +kernel
theorem dX12_solves_81 : decode cX12_solves 81 = .ok (.iload 4, 2) := by decide +kernel
theorem dX12_solves_83 : decode cX12_solves 83 = .ok (.iconst 2, 1) := by decide +kernel
theorem dX12_solves_84 : decode cX12_solves 84 = .ok (.if_icmp .ne 10, 3) := by decide +kernel
theorem dX12_solves_87 : decode cX12_solves 87 = .ok (.aload_n 0, 1) := by decide +kernel
theorem dX12_solves_88 : decode cX12_solves 88 = .ok (.getfield 324, 3) := by decide +kernel
theorem dX12_solves_91 : decode cX12_solves 91 = .ok (.goto 13, 3) := by decide +kernel
theorem dX12_solves_94 : decode cX12_solves 94 = .ok (.aload_n 0, 1) := by decide +kernel
theorem dX12_solves_95 : decode cX12_solves 95 = .ok (.iload_n 2, 1) := by decide +kernel
theorem dX12_solves_96 : decode cX12_solves 96 = .ok (.invokevirtual 238, 3) := by decide +kernel
theorem dX12_solves_99 : decode cX12_solves 99 = .ok (.aload_n 0, 1) := by decide +kernel
theorem dX12_solves_100 : decode cX12_solves 100 = .ok (.getfield 324, 3) := by decide +kernel
theorem dX12_solves_103 : decode cX12_solves 103 = .ok (.isub, 1) := by decide +kernel
theorem dX12_solves_104 : decode cX12_solves 104 = .ok (.ireturn, 1) := by decide +kernel
set_option maxHeartbeats 4000000 in
set_option maxRecDepth 100000 in
theorem s_X12_solves {P : PP} {a0 : Nat} {a1 : Int32} {a2 : Int32} {a3 : Int32} {a4 : Int32} (I : IM P a0) (hW : MW P a0) : CtrI yX12_solves cX12_solves 5 (some Jvm.ClassFile.FieldType.int) ({ frames := 5, cells := 0, slots := 0, locals := 320 } : Room) 0 0 P [.ref a0, .int a1, .int a2, .int a3, .int a4] (fun r P2 => IM P2 a0 ∧ EM [0, 28, 29, 30, 31, 32, 35, 36, 37, 38] a0 P P2 ∧ MW P2 a0 ∧ (True)) := by
  refine enI (lv := [(0, .ref a0), (1, .int a1), (2, .int a2), (3, .int a3), (4, .int a4)]) (by decide) (Nat.le_of_ble_eq_true rfl) rfl (fun E D cy C Ci0 ret => ?_)
  have ha0 := I.2.1
  have J25 : ∀ (P25 : PP), (IM P25 a0) → (EM [0, 28, 29, 30, 31, 32, 35, 36, 37, 38] a0 P P25) → (MW P25 a0) → (0 ≤ (pI P25 a0 0).toInt ∧ (pI P25 a0 0).toInt ≤ 0) → G E ({ frames := 5, cells := 0, slots := 0, locals := 320 } : Room) D cy 5 P25 0 0 25 [] [] := by
    intro P25 I25 X25 W25 hq25_0
    have h102339 := X25.at ha0
    refine g_iconst (v := (-1)) C dX12_solves_25 (by decide) ?_
    exact ret _ _ _ _ _ _ dX12_solves_26 rfl (by decide) (by decide) ⟨I25, X25, W25, trivial⟩
  refine g_aload_n C dX12_solves_0 rfl 0 rfl ?_
  refine g_iconst (v := 0) C dX12_solves_1 (by decide) ?_
  refine g_putI C fi_X12_1 rfl (ha0).1 (ha0).2 dX12_solves_2 ?_
  refine gqW (ks := [0]) (I.setI (rgOk.of rfl (by decide))) (EM.setI I (by decide)) (fun Y102340 Iy102341 Xy102342 w102343  => ?_)
  have w102343 : (pI Y102340 a0 0).toInt = 0 := w102343
  have W102344 := hW.keep I Xy102342 (by decide) (by decide) (by decide) (by decide)
  have Xz102345 : EM [0, 28, 29, 30, 31, 32, 35, 36, 37, 38] a0 P Y102340 := Xy102342.mono (by decide)
  have h102346 := Xy102342.at ha0
  refine g_aload_n C dX12_solves_5 rfl 0 rfl ?_
  refine g_iload_n C dX12_solves_6 rfl 1 rfl ?_
  refine g_iload_n C dX12_solves_7 rfl 2 rfl ?_
  refine g_iload_n C dX12_solves_8 rfl 3 rfl ?_
  refine g_callVI (rest := []) C mv_X12_333 [.int a1, .int a2, .int a3] (s_X12_isAsked Iy102341 W102344) (h102346).1 (h102346).2 rfl rfl (by decide) (Nat.le_of_ble_eq_true rfl) (by decide) dX12_solves_9 (fun r102347 Y102348 h102349 => ?_)
  obtain ⟨rfl, h102349⟩ := h102349
  obtain ⟨h102349, hi102350, hi102351⟩ := h102349
  have hi102350 : r102347.toInt = 0 ∨ (((0 : Int) ≤ a1.toInt ∧ a1.toInt ≤ (3 : Int)) ∧ ((0 : Int) ≤ a2.toInt ∧ a2.toInt ≤ (1 : Int)) ∧ ((0 : Int) ≤ a3.toInt ∧ a3.toInt ≤ (1 : Int))) := hi102350
  have h102349 : 0 ≤ r102347.toInt ∧ r102347.toInt ≤ 1 := h102349
  refine b_if_eq C 25 dX12_solves_12 (by decide) (fun h102352 => ?_) (fun h102352 => ?_)
  · have h102352 : r102347.toInt = 0 := congrArg Int32.toInt h102352
    clear hi102350
    refine g_lv (lv' := []) [] rfl ?_
    exact J25 Y102340 Iy102341 Xz102345 W102344 (by omega)
  · have h102352 : r102347.toInt ≠ 0 := ti_ne h102352
    replace hi102350 := hi102350.resolve_left (by omega)
    obtain ⟨b102353, e102354, h102355⟩ := Iy102341.fld (h102346) 10 13 2 rfl
    have hi102351 := (hi102351.resolve_left (by omega)) b102353 e102354
    have hi102351 : 0 < (pI Y102340 b102353 (a2.toInt.toNat)).toInt := hi102351
    have h102356 := Iy102341.arr e102354 rfl (a2.toInt.toNat)
    refine g_iload C dX12_solves_15 4 rfl ?_
    refine g_iconst (v := 0) C dX12_solves_17 (by decide) ?_
    refine g_iconst (v := 3) C dX12_solves_18 (by decide) ?_
    refine g_callSI (b := 0) (ci := 0) (rest := []) C ms_X12_178 [.int a4, .int 0, .int 3] (s_X12_within Iy102341.1) rfl rfl (by decide) (Nat.le_of_ble_eq_true rfl) (by decide) dX12_solves_19 (fun r102357 Y102358 h102359 => ?_)
    obtain ⟨rfl, h102359⟩ := h102359
    obtain ⟨h102359, hi102360⟩ := h102359
    have hi102360 : r102357.toInt = 0 ∨ (0 ≤ a4.toInt ∧ a4.toInt ≤ 3) := hi102360
    have h102359 : 0 ≤ r102357.toInt ∧ r102357.toInt ≤ 1 := h102359
    refine b_if_ne C 27 dX12_solves_22 (by decide) (fun h102361 => ?_) (fun h102361 => ?_)
    · have h102361 : r102357.toInt ≠ 0 := ti_ne h102361
      replace hi102360 := hi102360.resolve_left (by omega)
      refine g_aload_n C dX12_solves_27 rfl 0 rfl ?_
      refine g_callVV (rest := []) C mv_X12_336 [] (s_X12_leavesNone Iy102341 W102344) (h102346).1 (h102346).2 rfl rfl (by decide) (Nat.le_of_ble_eq_true rfl) (by decide) dX12_solves_28 (fun Y102363 h102364 => ?_)
      obtain ⟨Iy102365, Xy102366, W102367⟩ := h102364
      have q102368 := Xy102366.keepF 0 (by decide)
      have q102369 := Xy102366.keepA e102354 (by decide) rfl (a2.toInt.toNat)
      have Xz102370 : EM [0, 28, 29, 30, 31, 32, 35, 36, 37, 38] a0 P Y102363 := EM.tr ha0 Xz102345 (Xy102366.mono (by decide))
      have e102371 := Xy102366.ref h102346 (by decide) e102354
      have h102372 := Xy102366.at h102346
      have h102373 := Xy102366.ar h102355
      refine g_aload_n C dX12_solves_31 rfl 0 rfl ?_
      refine g_iload_n C dX12_solves_32 rfl 1 rfl ?_
      refine g_iload_n C dX12_solves_33 rfl 2 rfl ?_
      refine g_iload_n C dX12_solves_34 rfl 3 rfl ?_
      refine g_aload_n C dX12_solves_35 rfl 0 rfl ?_
      obtain ⟨b102374, e102375, h102376⟩ := Iy102365.fld (h102372) 20 13 20 rfl
      refine g_getR C fi_X12_69 rfl e102375 (h102372).1 (h102372).2 dX12_solves_36 ?_
      refine g_iload_n C dX12_solves_39 rfl 1 rfl ?_
      refine g_iald (j := (a1.toInt.toNat)) C h102376.1 h102376.2.1 (ix_in h102376.2.2 (by omega)) dX12_solves_40 ?_
      have h102377 := Iy102365.arr e102375 rfl (a1.toInt.toNat)
      refine g_callVV (rest := []) C mv_X12_339 [.int a1, .int a2, .int a3, .int (pI Y102363 b102374 (a1.toInt.toNat))] (s_X12_gathers Iy102365 (by omega) (by omega) (by omega) (fun b9 e9 => by rw [e102371] at e9; cases e9; show 1 ≤ (pI Y102363 b102353 (a2.toInt.toNat)).toInt ∧ (pI Y102363 b102353 (a2.toInt.toNat)).toInt ≤ 16; omega) W102367) (h102372).1 (h102372).2 rfl rfl (by decide) (Nat.le_of_ble_eq_true rfl) (by decide) dX12_solves_41 (fun Y102379 h102380 => ?_)
      obtain ⟨Iy102381, Xy102382, W102383, p102384, p102385⟩ := h102380
      have p102384 : (pI Y102379 a0 28).toInt ≤ 4 + (pI Y102363 b102374 (a1.toInt.toNat)).toInt := p102384
      have q102386 := Xy102382.keepF 0 (by decide)
      have q102387 := Xy102382.keepA e102371 (by decide) rfl (a2.toInt.toNat)
      have q102388 := Xy102382.keepA e102375 (by decide) rfl (a1.toInt.toNat)
      have Xz102389 : EM [0, 28, 29, 30, 31, 32, 35, 36, 37, 38] a0 P Y102379 := EM.tr ha0 Xz102370 (Xy102382.mono (by decide))
      have e102390 := Xy102382.ref h102372 (by decide) e102371
      have e102391 := Xy102382.ref h102372 (by decide) e102375
      have h102392 := Xy102382.at h102372
      have h102393 := Xy102382.ar h102373
      have h102394 := Xy102382.ar h102376
      obtain ⟨b102395, e102396, h102397⟩ := Iy102381.fld (h102392) 22 13 800 rfl
      have p102385 := p102385 b102395 e102396
      rw [Xz102389.2.2.2 22 (by decide) rfl b102395 (EM.refB Xz102389 ha0 e102396)] at p102385
      have p102385 : (pI Y102379 a0 28).toInt ≤ 4 + kC (pI P b102395) (40 * a1.toInt).toNat a2.toInt ((pI Y102363 b102374 (a1.toInt.toNat)).toInt : Int).toNat := p102385
      have h102398 := Iy102381.rg h102392 28 rfl
      refine g_aload_n C dX12_solves_44 rfl 0 rfl ?_
      refine g_callVV (rest := []) C mv_X12_346 [] (s_X12_findSolved Iy102381 W102383) (h102392).1 (h102392).2 rfl rfl (by decide) (Nat.le_of_ble_eq_true rfl) (by decide) dX12_solves_45 (fun Y102400 h102401 => ?_)
      obtain ⟨Iy102402, Xy102403, W102404⟩ := h102401
      have q102405 := Xy102403.keepF 0 (by decide)
      have q102406 := Xy102403.keepA e102390 (by decide) rfl (a2.toInt.toNat)
      have q102407 := Xy102403.keepA e102391 (by decide) rfl (a1.toInt.toNat)
      have q102408 := Xy102403.keepF 28 (by decide)
      have Xz102409 : EM [0, 28, 29, 30, 31, 32, 35, 36, 37, 38] a0 P Y102400 := EM.tr ha0 Xz102389 (Xy102403.mono (by decide))
      have e102410 := Xy102403.ref h102392 (by decide) e102390
      have e102411 := Xy102403.ref h102392 (by decide) e102391
      have h102412 := Xy102403.at h102392
      have h102413 := Xy102403.ar h102393
      have h102414 := Xy102403.ar h102394
      refine g_iload C dX12_solves_48 4 rfl ?_
      refine b_if_ne C 60 dX12_solves_50 (by decide) (fun h102415 => ?_) (fun h102415 => ?_)
      · have h102415 : a4.toInt ≠ 0 := ti_ne h102415
        refine g_iload C dX12_solves_60 4 rfl ?_
        refine g_iconst (v := 1) C dX12_solves_62 (by decide) ?_
        refine b_icmp_ne C 81 dX12_solves_63 (by decide) (fun h102416 => ?_) (fun h102416 => ?_)
        · have h102416 : a4.toInt ≠ 1 := ti_ne h102416
          refine g_iload C dX12_solves_81 4 rfl ?_
          refine g_iconst (v := 2) C dX12_solves_83 (by decide) ?_
          refine b_icmp_ne C 94 dX12_solves_84 (by decide) (fun h102417 => ?_) (fun h102417 => ?_)
          · have h102417 : a4.toInt ≠ 2 := ti_ne h102417
            refine g_aload_n C dX12_solves_94 rfl 0 rfl ?_
            refine g_iload_n C dX12_solves_95 rfl 2 rfl ?_
            refine g_callVI (rest := []) C mv_X12_238 [.int a2] (s_X12_allOf Iy102402 (by omega) W102404) (h102412).1 (h102412).2 rfl rfl (by decide) (Nat.le_of_ble_eq_true rfl) (by decide) dX12_solves_96 (fun r102418 Y102419 h102420 => ?_)
            obtain ⟨rfl, h102420⟩ := h102420
            obtain ⟨h102420, hi102421⟩ := h102420
            obtain ⟨b102422, e102423, h102424⟩ := Iy102402.fld (h102412) 15 13 3 rfl
            have hi102421 : (r102418.toInt = 0 ∧ (pI Y102400 b102353 (a2.toInt.toNat)).toInt = 0) ∨ r102418.toInt = (pI Y102400 b102353 (a2.toInt.toNat)).toInt + (pI Y102400 b102422 (a2.toInt.toNat)).toInt := hi102421 b102353 b102422 e102410 e102423
            have h102425 := Iy102402.arr e102423 rfl (a2.toInt.toNat)
            have h102420 : 0 ≤ r102418.toInt ∧ r102418.toInt ≤ 20 := h102420
            refine g_aload_n C dX12_solves_99 rfl 0 rfl ?_
            refine g_getI C fi_X12_324 (by decide) (h102412).1 (h102412).2 dX12_solves_100 ?_
            refine a_isub C dX12_solves_103 (fun z102426 => ?_)
            exact ret _ _ _ _ _ _ dX12_solves_104 rfl (by decide) (by decide) ⟨Iy102402, Xz102409, W102404, trivial⟩
          · have h102417 : a4.toInt = 2 := congrArg Int32.toInt h102417
            refine g_aload_n C dX12_solves_87 rfl 0 rfl ?_
            refine g_getI C fi_X12_324 (by decide) (h102412).1 (h102412).2 dX12_solves_88 ?_
            refine g_goto C 104 dX12_solves_91 (by decide) ?_
            exact ret _ _ _ _ _ _ dX12_solves_104 rfl (by decide) (by decide) ⟨Iy102402, Xz102409, W102404, trivial⟩
        · have h102416 : a4.toInt = 1 := congrArg Int32.toInt h102416
          refine g_aload_n C dX12_solves_66 rfl 0 rfl ?_
          refine g_getI C fi_X12_326 (by decide) (h102412).1 (h102412).2 dX12_solves_67 ?_
          have h102428 := Iy102402.rg (h102412) 36 rfl
          refine b_if_eq C 77 dX12_solves_70 (by decide) (fun h102429 => ?_) (fun h102429 => ?_)
          · have h102429 : (pI Y102400 a0 36).toInt = 0 := congrArg Int32.toInt h102429
            refine g_iconst (v := 0) C dX12_solves_77 (by decide) ?_
            refine g_goto C 104 dX12_solves_78 (by decide) ?_
            exact ret _ _ _ _ _ _ dX12_solves_104 rfl (by decide) (by decide) ⟨Iy102402, Xz102409, W102404, trivial⟩
          · have h102429 : (pI Y102400 a0 36).toInt ≠ 0 := ti_ne h102429
            refine g_iconst (v := 1) C dX12_solves_73 (by decide) ?_
            refine g_goto C 104 dX12_solves_74 (by decide) ?_
            exact ret _ _ _ _ _ _ dX12_solves_104 rfl (by decide) (by decide) ⟨Iy102402, Xz102409, W102404, trivial⟩
      · have h102415 : a4.toInt = 0 := congrArg Int32.toInt h102415
        refine g_aload_n C dX12_solves_53 rfl 0 rfl ?_
        refine g_callVI (rest := []) C mv_X12_349 [] (s_X12_fixedSet Iy102402 W102404) (h102412).1 (h102412).2 rfl rfl (by decide) (Nat.le_of_ble_eq_true rfl) (by decide) dX12_solves_54 (fun r102430 Y102431 h102432 => ?_)
        obtain ⟨rfl, h102432⟩ := h102432
        have h102432 : True := h102432
        refine g_goto C 104 dX12_solves_57 (by decide) ?_
        exact ret _ _ _ _ _ _ dX12_solves_104 rfl (by decide) (by decide) ⟨Iy102402, Xz102409, W102404, trivial⟩
    · have h102361 : r102357.toInt = 0 := congrArg Int32.toInt h102361
      clear hi102360
      refine g_lv (lv' := []) [] rfl ?_
      exact J25 Y102340 Iy102341 Xz102345 W102344 (by omega)
theorem dX12_soon_0 : decode cX12_soon 0 = .ok (.aload_n 0, 1) := by decide +kernel
theorem dX12_soon_1 : decode cX12_soon 1 = .ok (.iconst 0, 1) := by decide +kernel
theorem dX12_soon_2 : decode cX12_soon 2 = .ok (.putfield 1, 3) := by decide +kernel
theorem dX12_soon_5 : decode cX12_soon 5 = .ok (.iload_n 1, 1) := by decide +kernel
theorem dX12_soon_6 : decode cX12_soon 6 = .ok (.invokestatic 278, 3) := by decide +kernel
theorem dX12_soon_9 : decode cX12_soon 9 = .ok (.ifCond .eq 30, 3) := by decide +kernel
theorem dX12_soon_12 : decode cX12_soon 12 = .ok (.aload_n 0, 1) := by decide +kernel
theorem dX12_soon_13 : decode cX12_soon 13 = .ok (.iload_n 2, 1) := by decide +kernel
theorem dX12_soon_14 : decode cX12_soon 14 = .ok (.invokevirtual 192, 3) := by decide +kernel
theorem dX12_soon_17 : decode cX12_soon 17 = .ok (.ifCond .eq 22, 3) := by decide +kernel
theorem dX12_soon_20 : decode cX12_soon 20 = .ok (.aload_n 0, 1) := by decide +kernel
theorem dX12_soon_21 : decode cX12_soon 21 = .ok (.iload_n 2, 1) := by decide +kernel
theorem dX12_soon_22 : decode cX12_soon 22 = .ok (.iload_n 3, 1) := by decide +kernel
theorem dX12_soon_23 : decode cX12_soon 23 = .ok (.invokevirtual 352, 3) := by decide +kernel
theorem dX12_soon_26 : decode cX12_soon 26 = .ok (.ifCond .eq 13, 3) := by decide +kernel
theorem dX12_soon_29 : decode cX12_soon 29 = .ok (.iload 4, 2) := by decide +kernel
theorem dX12_soon_31 : decode cX12_soon 31 = .ok (.iconst 0, 1) := by decide +kernel
theorem dX12_soon_32 : decode cX12_soon 32 = .ok (.iconst 1, 1) := by decide +kernel
theorem dX12_soon_33 : decode cX12_soon 33 = .ok (.invokestatic 178, 3) := by decide +kernel
theorem dX12_soon_36 : decode cX12_soon 36 = .ok (.ifCond .ne 5, 3) := by decide +kernel
theorem dX12_soon_39 : decode cX12_soon 39 = .ok (.iconst (-1), 1) := by decide +kernel
theorem dX12_soon_40 : decode cX12_soon 40 = .ok (.ireturn, 1) := by decide +kernel
theorem dX12_soon_41 : decode cX12_soon 41 = .ok (.aload_n 0, 1) := by decide +kernel
theorem dX12_soon_42 : decode cX12_soon 42 = .ok (.invokevirtual 336, 3) := by decide +kernel
theorem dX12_soon_45 : decode cX12_soon 45 = .ok (.iconst 0, 1) := by decide +kernel
theorem dX12_soon_46 : decode cX12_soon 46 = .ok (.istore 5, 2) := by decide +kernel
theorem dX12_soon_48 : decode cX12_soon 48 = .ok (.iload 5, 2) := by decide +kernel
theorem dX12_soon_50 : decode cX12_soon 50 = .ok (.aload_n 0, 1) := by decide +kernel
theorem dX12_soon_51 : decode cX12_soon 51 = .ok (.getfield 69, 3) := by decide +kernel
theorem dX12_soon_54 : decode cX12_soon 54 = .ok (.iload_n 1, 1) := by decide +kernel
theorem dX12_soon_55 : decode cX12_soon 55 = .ok (.iaload, 1) := by decide +kernel
theorem dX12_soon_56 : decode cX12_soon 56 = .ok (.if_icmp .gt 26, 3) := by decide +kernel
theorem dX12_soon_59 : decode cX12_soon 59 = .ok (.aload_n 0, 1) := by decide +kernel
theorem dX12_soon_60 : decode cX12_soon 60 = .ok (.iload_n 1, 1) := by decide +kernel
theorem dX12_soon_61 : decode cX12_soon 61 = .ok (.iload_n 2, 1) := by decide +kernel
theorem dX12_soon_62 : decode cX12_soon 62 = .ok (.iload_n 3, 1) := by decide +kernel
theorem dX12_soon_63 : decode cX12_soon 63 = .ok (.iload 4, 2) := by decide +kernel
theorem dX12_soon_65 : decode cX12_soon 65 = .ok (.iload 5, 2) := by decide +kernel
theorem dX12_soon_67 : decode cX12_soon 67 = .ok (.invokevirtual 355, 3) := by decide +kernel
theorem dX12_soon_70 : decode cX12_soon 70 = .ok (.ifCond .lt 6, 3) := by decide +kernel
theorem dX12_soon_73 : decode cX12_soon 73 = .ok (.iload 5, 2) := by decide +kernel
theorem dX12_soon_75 : decode cX12_soon 75 = .ok (.ireturn, 1) := by decide +kernel
theorem dX12_soon_76 : decode cX12_soon 76 = .ok (.iinc 5 1, 3) := by decide +kernel
theorem dX12_soon_79 : decode cX12_soon 79 = .ok (.goto (-31), 3) := by decide +kernel
theorem dX12_soon_82 : decode cX12_soon 82 = .ok (.iconst (-1), 1) := by decide +kernel
theorem dX12_soon_83 : decode cX12_soon 83 = .ok (.ireturn, 1) := by decide +kernel
set_option maxHeartbeats 4000000 in
set_option maxRecDepth 100000 in
theorem s_X12_soon {P : PP} {a0 : Nat} {a1 : Int32} {a2 : Int32} {a3 : Int32} {a4 : Int32} (I : IM P a0) (hW : MW P a0) : CtrI yX12_soon cX12_soon 6 (some Jvm.ClassFile.FieldType.int) ({ frames := 6, cells := 0, slots := 0, locals := 384 } : Room) 0 0 P [.ref a0, .int a1, .int a2, .int a3, .int a4] (fun r P2 => IM P2 a0 ∧ EM [0, 28, 29, 30, 31, 32, 33, 34, 35, 36, 37, 38] a0 P P2 ∧ MW P2 a0 ∧ (-1 ≤ r.toInt ∧ r.toInt ≤ 40)) := by
  refine enI (lv := [(0, .ref a0), (1, .int a1), (2, .int a2), (3, .int a3), (4, .int a4)]) (by decide) (Nat.le_of_ble_eq_true rfl) rfl (fun E D cy C Ci0 ret => ?_)
  have ha0 := I.2.1
  have J48 : ∀ (n48 : Nat) (P48 : PP) (v48_5 : Int32), (41 - v48_5.toInt).toNat < n48 → (IM P48 a0) → (EM [0, 28, 29, 30, 31, 32, 33, 34, 35, 36, 37, 38] a0 P P48) → (MW P48 a0) → (0 ≤ a1.toInt ∧ a1.toInt ≤ 3) → (0 ≤ a2.toInt ∧ a2.toInt ≤ 1) → (0 ≤ a3.toInt ∧ a3.toInt ≤ 19) → (0 ≤ a4.toInt ∧ a4.toInt ≤ 1) → (0 ≤ v48_5.toInt ∧ v48_5.toInt ≤ 41) → (0 ≤ (pI P48 a0 0).toInt ∧ (pI P48 a0 0).toInt ≤ 0) → (∀ b, pR P48 a0 10 = some b → 1 ≤ (pI P48 b (a2.toInt.toNat)).toInt ∧ (pI P48 b (a2.toInt.toNat)).toInt ≤ 16) → G E ({ frames := 6, cells := 0, slots := 0, locals := 384 } : Room) D cy 6 P48 0 0 48 [(0, .ref a0), (1, .int a1), (2, .int a2), (3, .int a3), (4, .int a4), (5, .int v48_5)] [] := by
    intro n48
    induction n48 with
    | zero => intro P48 v48_5 hm48 I48 X48 W48 hv48_1 hv48_2 hv48_3 hv48_4 hv48_5 hq48_0 hq48_1; omega
    | succ n48 ih48 =>
      intro P48 v48_5 hm48 I48 X48 W48 hv48_1 hv48_2 hv48_3 hv48_4 hv48_5 hq48_0 hq48_1
      have h102926 := X48.at ha0
      obtain ⟨b102927, e102928, h102929⟩ := I48.fld (h102926) 10 13 2 rfl
      have hq48_1 := hq48_1 b102927 e102928
      refine g_iload C dX12_soon_48 5 rfl ?_
      refine g_aload_n C dX12_soon_50 rfl 0 rfl ?_
      obtain ⟨b102930, e102931, h102932⟩ := I48.fld (h102926) 20 13 20 rfl
      refine g_getR C fi_X12_69 rfl e102931 (h102926).1 (h102926).2 dX12_soon_51 ?_
      refine g_iload_n C dX12_soon_54 rfl 1 rfl ?_
      refine g_iald (j := (a1.toInt.toNat)) C h102932.1 h102932.2.1 (ix_in h102932.2.2 (by omega)) dX12_soon_55 ?_
      have h102933 := I48.arr e102931 rfl (a1.toInt.toNat)
      refine b_icmp_gt C 82 dX12_soon_56 (by decide) (fun h102934 => ?_) (fun h102934 => ?_)
      · have h102934 : (pI P48 b102930 (a1.toInt.toNat)).toInt < v48_5.toInt := h102934
        refine g_iconst (v := (-1)) C dX12_soon_82 (by decide) ?_
        exact ret _ _ _ _ _ _ dX12_soon_83 rfl (by decide) (by decide) ⟨I48, X48, W48, (by decide)⟩
      · have h102934 : v48_5.toInt ≤ (pI P48 b102930 (a1.toInt.toNat)).toInt := h102934
        refine g_aload_n C dX12_soon_59 rfl 0 rfl ?_
        refine g_iload_n C dX12_soon_60 rfl 1 rfl ?_
        refine g_iload_n C dX12_soon_61 rfl 2 rfl ?_
        refine g_iload_n C dX12_soon_62 rfl 3 rfl ?_
        refine g_iload C dX12_soon_63 4 rfl ?_
        refine g_iload C dX12_soon_65 5 rfl ?_
        refine g_callVI (rest := []) C mv_X12_355 [.int a1, .int a2, .int a3, .int a4, .int v48_5] (s_X12_readBy I48 (by omega) (by omega) (by omega) (by omega) (fun b9 e9 => by rw [e102928] at e9; cases e9; show 1 ≤ (pI P48 b102927 (a2.toInt.toNat)).toInt ∧ (pI P48 b102927 (a2.toInt.toNat)).toInt ≤ 16; omega) W48) (h102926).1 (h102926).2 rfl rfl (by decide) (Nat.le_of_ble_eq_true rfl) (by decide) dX12_soon_67 (fun r102935 Y102936 h102937 => ?_)
        obtain ⟨Iy102938, Xy102939, W102940, h102937⟩ := h102937
        have q102941 := Xy102939.keepF 0 (by decide)
        have q102942 := Xy102939.keepA e102928 (by decide) rfl (a2.toInt.toNat)
        have q102943 := Xy102939.keepA e102931 (by decide) rfl (a1.toInt.toNat)
        have Xz102944 : EM [0, 28, 29, 30, 31, 32, 33, 34, 35, 36, 37, 38] a0 P Y102936 := EM.tr ha0 X48 (Xy102939.mono (by decide))
        have e102945 := Xy102939.ref h102926 (by decide) e102928
        have e102946 := Xy102939.ref h102926 (by decide) e102931
        have h102947 := Xy102939.at h102926
        have h102948 := Xy102939.ar h102929
        have h102949 := Xy102939.ar h102932
        have h102937 : True := h102937
        have u102951 := ti_rng r102935
        refine b_if_lt C 76 dX12_soon_70 (by decide) (fun h102950 => ?_) (fun h102950 => ?_)
        · have h102950 : r102935.toInt < 0 := h102950
          refine s_iinc (lv0 := [(0, .ref a0), (1, .int a1), (2, .int a2), (3, .int a3), (4, .int a4)]) (m := 1) C dX12_soon_76 5 rfl (by decide) rfl (by decide) (by omega) (fun z102952 h102953 => ?_)
          have h102953 : z102952.toInt = v48_5.toInt + 1 := h102953
          refine g_goto C 48 dX12_soon_79 (by decide) ?_
          refine g_lv (lv' := [(0, .ref a0), (1, .int a1), (2, .int a2), (3, .int a3), (4, .int a4), (5, .int z102952)]) [1, 2, 3, 4, 5, 0] rfl ?_
          exact ih48 Y102936 z102952 (by omega) Iy102938 Xz102944 W102940 (by omega) (by omega) (by omega) (by omega) (by omega) (by omega) (fun b9 e9 => by rw [e102945] at e9; cases e9; omega)
        · have h102950 : 0 ≤ r102935.toInt := h102950
          refine g_iload C dX12_soon_73 5 rfl ?_
          exact ret _ _ _ _ _ _ dX12_soon_75 rfl (by decide) (by decide) ⟨Iy102938, Xz102944, W102940, (by omega)⟩
  have J39 : ∀ (P39 : PP), (IM P39 a0) → (EM [0, 28, 29, 30, 31, 32, 33, 34, 35, 36, 37, 38] a0 P P39) → (MW P39 a0) → (0 ≤ (pI P39 a0 0).toInt ∧ (pI P39 a0 0).toInt ≤ 0) → G E ({ frames := 6, cells := 0, slots := 0, locals := 384 } : Room) D cy 6 P39 0 0 39 [] [] := by
    intro P39 I39 X39 W39 hq39_0
    have h102954 := X39.at ha0
    refine g_iconst (v := (-1)) C dX12_soon_39 (by decide) ?_
    exact ret _ _ _ _ _ _ dX12_soon_40 rfl (by decide) (by decide) ⟨I39, X39, W39, (by decide)⟩
  refine g_aload_n C dX12_soon_0 rfl 0 rfl ?_
  refine g_iconst (v := 0) C dX12_soon_1 (by decide) ?_
  refine g_putI C fi_X12_1 rfl (ha0).1 (ha0).2 dX12_soon_2 ?_
  refine gqW (ks := [0]) (I.setI (rgOk.of rfl (by decide))) (EM.setI I (by decide)) (fun Y102955 Iy102956 Xy102957 w102958  => ?_)
  have w102958 : (pI Y102955 a0 0).toInt = 0 := w102958
  have W102959 := hW.keep I Xy102957 (by decide) (by decide) (by decide) (by decide)
  have Xz102960 : EM [0, 28, 29, 30, 31, 32, 33, 34, 35, 36, 37, 38] a0 P Y102955 := Xy102957.mono (by decide)
  have h102961 := Xy102957.at ha0
  refine g_iload_n C dX12_soon_5 rfl 1 rfl ?_
  refine g_callSI (b := 0) (ci := 0) (rest := []) C ms_X12_278 [.int a1] (s_X12_isQuarter Iy102956.1) rfl rfl (by decide) (Nat.le_of_ble_eq_true rfl) (by decide) dX12_soon_6 (fun r102962 Y102963 h102964 => ?_)
  obtain ⟨rfl, h102964⟩ := h102964
  obtain ⟨h102964, hi102965⟩ := h102964
  have hi102965 : r102962.toInt = 0 ∨ (((0 : Int) ≤ a1.toInt ∧ a1.toInt ≤ (3 : Int))) := hi102965
  have h102964 : 0 ≤ r102962.toInt ∧ r102962.toInt ≤ 1 := h102964
  refine b_if_eq C 39 dX12_soon_9 (by decide) (fun h102966 => ?_) (fun h102966 => ?_)
  · have h102966 : r102962.toInt = 0 := congrArg Int32.toInt h102966
    clear hi102965
    refine g_lv (lv' := []) [] rfl ?_
    exact J39 Y102955 Iy102956 Xz102960 W102959 (by omega)
  · have h102966 : r102962.toInt ≠ 0 := ti_ne h102966
    replace hi102965 := hi102965.resolve_left (by omega)
    refine g_aload_n C dX12_soon_12 rfl 0 rfl ?_
    refine g_iload_n C dX12_soon_13 rfl 2 rfl ?_
    refine g_callVI (rest := []) C mv_X12_192 [.int a2] (s_X12_isBook Iy102956 W102959) (h102961).1 (h102961).2 rfl rfl (by decide) (Nat.le_of_ble_eq_true rfl) (by decide) dX12_soon_14 (fun r102967 Y102968 h102969 => ?_)
    obtain ⟨rfl, h102969⟩ := h102969
    obtain ⟨h102969, hi102970, hi102971⟩ := h102969
    have hi102970 : r102967.toInt = 0 ∨ (((0 : Int) ≤ a2.toInt ∧ a2.toInt ≤ (1 : Int))) := hi102970
    have h102969 : 0 ≤ r102967.toInt ∧ r102967.toInt ≤ 1 := h102969
    refine b_if_eq C 39 dX12_soon_17 (by decide) (fun h102972 => ?_) (fun h102972 => ?_)
    · have h102972 : r102967.toInt = 0 := congrArg Int32.toInt h102972
      clear hi102970
      refine g_lv (lv' := []) [] rfl ?_
      exact J39 Y102955 Iy102956 Xz102960 W102959 (by omega)
    · have h102972 : r102967.toInt ≠ 0 := ti_ne h102972
      replace hi102970 := hi102970.resolve_left (by omega)
      obtain ⟨b102973, e102974, h102975⟩ := Iy102956.fld (h102961) 10 13 2 rfl
      have hi102971 := (hi102971.resolve_left (by omega)) b102973 e102974
      have hi102971 : 0 < (pI Y102955 b102973 (a2.toInt.toNat)).toInt := hi102971
      have h102976 := Iy102956.arr e102974 rfl (a2.toInt.toNat)
      refine g_aload_n C dX12_soon_20 rfl 0 rfl ?_
      refine g_iload_n C dX12_soon_21 rfl 2 rfl ?_
      refine g_iload_n C dX12_soon_22 rfl 3 rfl ?_
      refine g_callVI (rest := []) C mv_X12_352 [.int a2, .int a3] (s_X12_isPage Iy102956 (by omega) W102959) (h102961).1 (h102961).2 rfl rfl (by decide) (Nat.le_of_ble_eq_true rfl) (by decide) dX12_soon_23 (fun r102977 Y102978 h102979 => ?_)
      obtain ⟨rfl, h102979⟩ := h102979
      obtain ⟨h102979, hi102980⟩ := h102979
      have hi102980 : r102977.toInt = 0 ∨ (((0 : Int) ≤ a3.toInt ∧ a3.toInt ≤ (19 : Int))) := hi102980
      have h102979 : 0 ≤ r102977.toInt ∧ r102977.toInt ≤ 1 := h102979
      refine b_if_eq C 39 dX12_soon_26 (by decide) (fun h102981 => ?_) (fun h102981 => ?_)
      · have h102981 : r102977.toInt = 0 := congrArg Int32.toInt h102981
        clear hi102980
        refine g_lv (lv' := []) [] rfl ?_
        exact J39 Y102955 Iy102956 Xz102960 W102959 (by omega)
      · have h102981 : r102977.toInt ≠ 0 := ti_ne h102981
        replace hi102980 := hi102980.resolve_left (by omega)
        refine g_iload C dX12_soon_29 4 rfl ?_
        refine g_iconst (v := 0) C dX12_soon_31 (by decide) ?_
        refine g_iconst (v := 1) C dX12_soon_32 (by decide) ?_
        refine g_callSI (b := 0) (ci := 0) (rest := []) C ms_X12_178 [.int a4, .int 0, .int 1] (s_X12_within Iy102956.1) rfl rfl (by decide) (Nat.le_of_ble_eq_true rfl) (by decide) dX12_soon_33 (fun r102982 Y102983 h102984 => ?_)
        obtain ⟨rfl, h102984⟩ := h102984
        obtain ⟨h102984, hi102985⟩ := h102984
        have hi102985 : r102982.toInt = 0 ∨ (0 ≤ a4.toInt ∧ a4.toInt ≤ 1) := hi102985
        have h102984 : 0 ≤ r102982.toInt ∧ r102982.toInt ≤ 1 := h102984
        refine b_if_ne C 41 dX12_soon_36 (by decide) (fun h102986 => ?_) (fun h102986 => ?_)
        · have h102986 : r102982.toInt ≠ 0 := ti_ne h102986
          replace hi102985 := hi102985.resolve_left (by omega)
          refine g_aload_n C dX12_soon_41 rfl 0 rfl ?_
          refine g_callVV (rest := []) C mv_X12_336 [] (s_X12_leavesNone Iy102956 W102959) (h102961).1 (h102961).2 rfl rfl (by decide) (Nat.le_of_ble_eq_true rfl) (by decide) dX12_soon_42 (fun Y102988 h102989 => ?_)
          obtain ⟨Iy102990, Xy102991, W102992⟩ := h102989
          have q102993 := Xy102991.keepF 0 (by decide)
          have q102994 := Xy102991.keepA e102974 (by decide) rfl (a2.toInt.toNat)
          have Xz102995 : EM [0, 28, 29, 30, 31, 32, 33, 34, 35, 36, 37, 38] a0 P Y102988 := EM.tr ha0 Xz102960 (Xy102991.mono (by decide))
          have e102996 := Xy102991.ref h102961 (by decide) e102974
          have h102997 := Xy102991.at h102961
          have h102998 := Xy102991.ar h102975
          refine g_iconst (v := 0) C dX12_soon_45 (by decide) ?_
          refine g_istore (lv' := [(5, .int 0), (0, .ref a0), (1, .int a1), (2, .int a2), (3, .int a3), (4, .int a4)]) C dX12_soon_46 (by decide) rfl ?_
          refine g_lv (lv' := [(0, .ref a0), (1, .int a1), (2, .int a2), (3, .int a3), (4, .int a4), (5, .int 0)]) [1, 2, 3, 4, 5, 0] rfl ?_
          exact J48 _ Y102988 0 (Nat.lt_succ_self _) Iy102990 Xz102995 W102992 (by omega) (by omega) (by omega) (by omega) (by decide) (by omega) (fun b9 e9 => by rw [e102996] at e9; cases e9; omega)
        · have h102986 : r102982.toInt = 0 := congrArg Int32.toInt h102986
          clear hi102985
          refine g_lv (lv' := []) [] rfl ?_
          exact J39 Y102955 Iy102956 Xz102960 W102959 (by omega)
theorem dX12_swap_0 : decode cX12_swap 0 = .ok (.aload_n 0, 1) := by decide +kernel
theorem dX12_swap_1 : decode cX12_swap 1 = .ok (.iconst 0, 1) := by decide +kernel
theorem dX12_swap_2 : decode cX12_swap 2 = .ok (.putfield 1, 3) := by decide +kernel
theorem dX12_swap_5 : decode cX12_swap 5 = .ok (.iload_n 1, 1) := by decide +kernel
theorem dX12_swap_6 : decode cX12_swap 6 = .ok (.invokestatic 278, 3) := by decide +kernel
theorem dX12_swap_9 : decode cX12_swap 9 = .ok (.ifCond .eq 25, 3) := by decide +kernel
theorem dX12_swap_12 : decode cX12_swap 12 = .ok (.iload_n 2, 1) := by decide +kernel
theorem dX12_swap_13 : decode cX12_swap 13 = .ok (.invokestatic 278, 3) := by decide +kernel
theorem dX12_swap_16 : decode cX12_swap 16 = .ok (.ifCond .eq 18, 3) := by decide +kernel
theorem dX12_swap_19 : decode cX12_swap 19 = .ok (.iload_n 1, 1) := by decide +kernel
theorem dX12_swap_20 : decode cX12_swap 20 = .ok (.iload_n 2, 1) := by decide +kernel
theorem dX12_swap_21 : decode cX12_swap 21 = .ok (.if_icmp .eq 13, 3) := by decide +kernel
theorem dX12_swap_24 : decode cX12_swap 24 = .ok (.iload_n 3, 1) := by decide +kernel
theorem dX12_swap_25 : decode cX12_swap 25 = .ok (.iconst 0, 1) := by decide +kernel
theorem dX12_swap_26 : decode cX12_swap 26 = .ok (.bipush 40, 2) := by decide +kernel
theorem dX12_swap_28 : decode cX12_swap 28 = .ok (.invokestatic 178, 3) := by decide +kernel
theorem dX12_swap_31 : decode cX12_swap 31 = .ok (.ifCond .ne 5, 3) := by decide +kernel
theorem dX12_swap_34 : decode cX12_swap 34 = .ok (.iconst (-1), 1) := by decide +kernel
theorem dX12_swap_35 : decode cX12_swap 35 = .ok (.ireturn, 1) := by decide +kernel
theorem dX12_swap_36 : decode cX12_swap 36 = .ok (.iconst 0, 1) := by decide +kernel
theorem dX12_swap_37 : decode cX12_swap 37 = .ok (.istore 4, 2) := by decide +kernel
theorem dX12_swap_39 : decode cX12_swap 39 = .ok (.iconst 0, 1) := by decide +kernel
theorem dX12_swap_40 : decode cX12_swap 40 = .ok (.istore 5, 2) := by decide +kernel
theorem dX12_swap_42 : decode cX12_swap 42 = .ok (.iload 5, 2) := by decide +kernel
theorem dX12_swap_44 : decode cX12_swap 44 = .ok (.aload_n 0, 1) := by decide +kernel
theorem dX12_swap_45 : decode cX12_swap 45 = .ok (.getfield 69, 3) := by decide +kernel
theorem dX12_swap_48 : decode cX12_swap 48 = .ok (.iload_n 1, 1) := by decide +kernel
theorem dX12_swap_49 : decode cX12_swap 49 = .ok (.iaload, 1) := by decide +kernel
theorem dX12_swap_50 : decode cX12_swap 50 = .ok (.if_icmp .ge 107, 3) := by decide +kernel
theorem dX12_swap_53 : decode cX12_swap 53 = .ok (.iload 4, 2) := by decide +kernel
theorem dX12_swap_55 : decode cX12_swap 55 = .ok (.iload_n 3, 1) := by decide +kernel
theorem dX12_swap_56 : decode cX12_swap 56 = .ok (.if_icmp .ge 101, 3) := by decide +kernel
theorem dX12_swap_59 : decode cX12_swap 59 = .ok (.bipush 40, 2) := by decide +kernel
theorem dX12_swap_61 : decode cX12_swap 61 = .ok (.iload_n 1, 1) := by decide +kernel
theorem dX12_swap_62 : decode cX12_swap 62 = .ok (.imul, 1) := by decide +kernel
theorem dX12_swap_63 : decode cX12_swap 63 = .ok (.iload 5, 2) := by decide +kernel
theorem dX12_swap_65 : decode cX12_swap 65 = .ok (.iadd, 1) := by decide +kernel
theorem dX12_swap_66 : decode cX12_swap 66 = .ok (.istore 6, 2) := by decide +kernel
theorem dX12_swap_68 : decode cX12_swap 68 = .ok (.aload_n 0, 1) := by decide +kernel
theorem dX12_swap_69 : decode cX12_swap 69 = .ok (.getfield 69, 3) := by decide +kernel
theorem dX12_swap_72 : decode cX12_swap 72 = .ok (.iload_n 2, 1) := by decide +kernel
theorem dX12_swap_73 : decode cX12_swap 73 = .ok (.iaload, 1) := by decide +kernel
theorem dX12_swap_74 : decode cX12_swap 74 = .ok (.bipush 40, 2) := by decide +kernel
theorem dX12_swap_76 : decode cX12_swap 76 = .ok (.if_icmp .ge 27, 3) := by decide +kernel
theorem dX12_swap_79 : decode cX12_swap 79 = .ok (.aload_n 0, 1) := by decide +kernel
theorem dX12_swap_80 : decode cX12_swap 80 = .ok (.getfield 75, 3) := by decide +kernel
theorem dX12_swap_83 : decode cX12_swap 83 = .ok (.iload 6, 2) := by decide +kernel
theorem dX12_swap_85 : decode cX12_swap 85 = .ok (.iaload, 1) := by decide +kernel
theorem dX12_swap_86 : decode cX12_swap 86 = .ok (.ifCond .ge 13, 3) := by decide +kernel
theorem dX12_swap_89 : decode cX12_swap 89 = .ok (.aload_n 0, 1) := by decide +kernel
theorem dX12_swap_90 : decode cX12_swap 90 = .ok (.iload_n 2, 1) := by decide +kernel
theorem dX12_swap_91 : decode cX12_swap 91 = .ok (.invokevirtual 295, 3) := by decide +kernel
theorem dX12_swap_94 : decode cX12_swap 94 = .ok (.bipush 6, 2) := by decide +kernel
theorem dX12_swap_96 : decode cX12_swap 96 = .ok (.if_icmp .ge 7, 3) := by decide +kernel
theorem dX12_swap_99 : decode cX12_swap 99 = .ok (.iconst 1, 1) := by decide +kernel
theorem dX12_swap_100 : decode cX12_swap 100 = .ok (.goto 4, 3) := by decide +kernel
theorem dX12_swap_103 : decode cX12_swap 103 = .ok (.iconst 0, 1) := by decide +kernel
theorem dX12_swap_104 : decode cX12_swap 104 = .ok (.istore 7, 2) := by decide +kernel
theorem dX12_swap_106 : decode cX12_swap 106 = .ok (.iload 7, 2) := by decide +kernel
theorem dX12_swap_108 : decode cX12_swap 108 = .ok (.ifCond .eq 43, 3) := by decide +kernel
theorem dX12_swap_111 : decode cX12_swap 111 = .ok (.aload_n 0, 1) := by decide +kernel
theorem dX12_swap_112 : decode cX12_swap 112 = .ok (.iload_n 2, 1) := by decide +kernel
theorem dX12_swap_113 : decode cX12_swap 113 = .ok (.iload 6, 2) := by decide +kernel
theorem dX12_swap_115 : decode cX12_swap 115 = .ok (.invokevirtual 405, 3) := by decide +kernel
theorem dX12_swap_118 : decode cX12_swap 118 = .ok (.ifCond .ne 33, 3) := by decide +kernel
theorem dX12_swap_121 : decode cX12_swap 121 = .ok (.aload_n 0, 1) := by decide +kernel
theorem dX12_swap_122 : decode cX12_swap 122 = .ok (.iload 6, 2) := by decide +kernel
theorem dX12_swap_124 : decode cX12_swap 124 = .ok (.bipush 40, 2) := by decide +kernel
theorem dX12_swap_126 : decode cX12_swap 126 = .ok (.iload_n 2, 1) := by decide +kernel
theorem dX12_swap_127 : decode cX12_swap 127 = .ok (.imul, 1) := by decide +kernel
theorem dX12_swap_128 : decode cX12_swap 128 = .ok (.aload_n 0, 1) := by decide +kernel
theorem dX12_swap_129 : decode cX12_swap 129 = .ok (.getfield 69, 3) := by decide +kernel
theorem dX12_swap_132 : decode cX12_swap 132 = .ok (.iload_n 2, 1) := by decide +kernel
theorem dX12_swap_133 : decode cX12_swap 133 = .ok (.iaload, 1) := by decide +kernel
theorem dX12_swap_134 : decode cX12_swap 134 = .ok (.iadd, 1) := by decide +kernel
theorem dX12_swap_135 : decode cX12_swap 135 = .ok (.invokevirtual 274, 3) := by decide +kernel
theorem dX12_swap_138 : decode cX12_swap 138 = .ok (.aload_n 0, 1) := by decide +kernel
theorem dX12_swap_139 : decode cX12_swap 139 = .ok (.getfield 69, 3) := by decide +kernel
theorem dX12_swap_142 : decode cX12_swap 142 = .ok (.iload_n 2, 1) := by decide +kernel
theorem dX12_swap_143 : decode cX12_swap 143 = .ok (.dup2, 1) := by decide +kernel
theorem dX12_swap_144 : decode cX12_swap 144 = .ok (.iaload, 1) := by decide +kernel
theorem dX12_swap_145 : decode cX12_swap 145 = .ok (.iconst 1, 1) := by decide +kernel
theorem dX12_swap_146 : decode cX12_swap 146 = .ok (.iadd, 1) := by decide +kernel
theorem dX12_swap_147 : decode cX12_swap 147 = .ok (.iastore, 1) := by decide +kernel
theorem dX12_swap_148 : decode cX12_swap 148 = .ok (.iinc 4 1, 3) := by decide +kernel
theorem dX12_swap_151 : decode cX12_swap 151 = .ok (.iinc 5 1, 3) := by decide +kernel
theorem dX12_swap_154 : decode cX12_swap 154 = .ok (.goto (-112), 3) := by decide +kernel
theorem dX12_swap_157 : decode cX12_swap 157 = .ok (.iload 4, 2) := by decide +kernel
theorem dX12_swap_159 : decode cX12_swap 159 = .ok (.ireturn, 1) := by decide +kernel
set_option maxHeartbeats 4000000 in
set_option maxRecDepth 100000 in
theorem s_X12_swap {P : PP} {a0 : Nat} {a1 : Int32} {a2 : Int32} {a3 : Int32} (I : IM P a0) (hW : MW P a0) : CtrI yX12_swap cX12_swap 8 (some Jvm.ClassFile.FieldType.int) ({ frames := 3, cells := 0, slots := 0, locals := 192 } : Room) 0 0 P [.ref a0, .int a1, .int a2, .int a3] (fun r P2 => IM P2 a0 ∧ EM [0, 20, 21, 22, 23, 24, 25] a0 P P2 ∧ MW P2 a0 ∧ (-1 ≤ r.toInt ∧ r.toInt ≤ 40)) := by
  refine enI (lv := [(0, .ref a0), (1, .int a1), (2, .int a2), (3, .int a3)]) (by decide) (Nat.le_of_ble_eq_true rfl) rfl (fun E D cy C Ci0 ret => ?_)
  have ha0 := I.2.1
  have J157 : ∀ (P157 : PP) (v157_4 : Int32), (IM P157 a0) → (EM [0, 20, 21, 22, 23, 24, 25] a0 P P157) → (MW P157 a0) → (0 ≤ v157_4.toInt ∧ v157_4.toInt ≤ 40) → (0 ≤ (pI P157 a0 0).toInt ∧ (pI P157 a0 0).toInt ≤ 0) → G E ({ frames := 3, cells := 0, slots := 0, locals := 192 } : Room) D cy 8 P157 0 0 157 [(4, .int v157_4)] [] := by
    intro P157 v157_4 I157 X157 W157 hv157_4 hq157_0
    have h104235 := X157.at ha0
    refine g_iload C dX12_swap_157 0 rfl ?_
    exact ret _ _ _ _ _ _ dX12_swap_159 rfl (by decide) (by decide) ⟨I157, X157, W157, (by omega)⟩
  have J42 : ∀ (n42 : Nat) (P42 : PP) (v42_4 : Int32) (v42_5 : Int32), (40 - v42_5.toInt).toNat < n42 → (IM P42 a0) → (EM [0, 20, 21, 22, 23, 24, 25] a0 P P42) → (MW P42 a0) → (0 ≤ a1.toInt ∧ a1.toInt ≤ 3) → (0 ≤ a2.toInt ∧ a2.toInt ≤ 3) → (0 ≤ a3.toInt ∧ a3.toInt ≤ 40) → (0 ≤ v42_4.toInt ∧ v42_4.toInt ≤ 40) → (0 ≤ v42_5.toInt ∧ v42_5.toInt ≤ 40) → (0 ≤ (pI P42 a0 0).toInt ∧ (pI P42 a0 0).toInt ≤ 0) → G E ({ frames := 3, cells := 0, slots := 0, locals := 192 } : Room) D cy 8 P42 0 0 42 [(0, .ref a0), (1, .int a1), (2, .int a2), (3, .int a3), (4, .int v42_4), (5, .int v42_5)] [] := by
    intro n42
    induction n42 with
    | zero => intro P42 v42_4 v42_5 hm42 I42 X42 W42 hv42_1 hv42_2 hv42_3 hv42_4 hv42_5 hq42_0; omega
    | succ n42 ih42 =>
      intro P42 v42_4 v42_5 hm42 I42 X42 W42 hv42_1 hv42_2 hv42_3 hv42_4 hv42_5 hq42_0
      have h104236 := X42.at ha0
      have J151 : ∀ (P151 : PP) (v151_4 : Int32), (IM P151 a0) → (EM [0, 20, 21, 22, 23, 24, 25] a0 P P151) → (MW P151 a0) → (0 ≤ a1.toInt ∧ a1.toInt ≤ 3) → (0 ≤ a2.toInt ∧ a2.toInt ≤ 3) → (1 ≤ a3.toInt ∧ a3.toInt ≤ 40) → (0 ≤ v151_4.toInt ∧ v151_4.toInt ≤ 40) → (0 ≤ v42_5.toInt ∧ v42_5.toInt ≤ 39) → (0 ≤ (pI P151 a0 0).toInt ∧ (pI P151 a0 0).toInt ≤ 0) → G E ({ frames := 3, cells := 0, slots := 0, locals := 192 } : Room) D cy 8 P151 0 0 151 [(0, .ref a0), (1, .int a1), (2, .int a2), (3, .int a3), (4, .int v151_4), (5, .int v42_5)] [] := by
        intro P151 v151_4 I151 X151 W151 hv151_1 hv151_2 hv151_3 hv151_4 hv151_5 hq151_0
        have h104237 := X151.at ha0
        refine s_iinc (lv0 := [(0, .ref a0), (1, .int a1), (2, .int a2), (3, .int a3), (4, .int v151_4)]) (m := 1) C dX12_swap_151 5 rfl (by decide) rfl (by decide) (by omega) (fun z104238 h104239 => ?_)
        have h104239 : z104238.toInt = v42_5.toInt + 1 := h104239
        refine g_goto C 42 dX12_swap_154 (by decide) ?_
        refine g_lv (lv' := [(0, .ref a0), (1, .int a1), (2, .int a2), (3, .int a3), (4, .int v151_4), (5, .int z104238)]) [1, 2, 3, 4, 5, 0] rfl ?_
        exact ih42 P151 v151_4 z104238 (by omega) I151 X151 W151 (by omega) (by omega) (by omega) (by omega) (by omega) (by omega)
      have J104 : ∀ (v104_6 : Int32) (v104_s0 : Int32), (0 ≤ a1.toInt ∧ a1.toInt ≤ 3) → (0 ≤ a2.toInt ∧ a2.toInt ≤ 3) → (1 ≤ a3.toInt ∧ a3.toInt ≤ 40) → (0 ≤ v42_4.toInt ∧ v42_4.toInt ≤ 39) → (0 ≤ v42_5.toInt ∧ v42_5.toInt ≤ 39) → (0 ≤ v104_6.toInt ∧ v104_6.toInt ≤ 159) → (0 ≤ v104_s0.toInt ∧ v104_s0.toInt ≤ 1) → (0 ≤ (pI P42 a0 0).toInt ∧ (pI P42 a0 0).toInt ≤ 0) → (∀ b, pR P42 a0 20 = some b → 1 ≤ (pI P42 b (a1.toInt.toNat)).toInt ∧ (pI P42 b (a1.toInt.toNat)).toInt ≤ 40) → (∀ b920, pR P42 a0 20 = some b920 → v42_5.toInt < (pI P42 b920 (a1.toInt.toNat)).toInt) → (v104_6.toInt = 40 * a1.toInt + v42_5.toInt) → (∀ b920, pR P42 a0 20 = some b920 → v104_s0.toInt = 0 ∨ (pI P42 b920 (a2.toInt.toNat)).toInt ≤ 39) → G E ({ frames := 3, cells := 0, slots := 0, locals := 192 } : Room) D cy 8 P42 0 0 104 [(0, .ref a0), (1, .int a1), (2, .int a2), (3, .int a3), (4, .int v42_4), (5, .int v42_5), (6, .int v104_6)] [.int v104_s0] := by
        intro v104_6 v104_s0 hv104_1 hv104_2 hv104_3 hv104_4 hv104_5 hv104_6 hv104_s0 hq104_0 hq104_1 rel104_0 rel104_1 rel104_2
        have h104240 := X42.at ha0
        obtain ⟨b104241, e104242, h104243⟩ := I42.fld (h104240) 20 13 20 rfl
        have hq104_1 := hq104_1 b104241 e104242
        have rel104_0 := rel104_0 b104241 e104242
        have rel104_2 := rel104_2 b104241 e104242
        have h104244 := I42.arr e104242 rfl (a2.toInt.toNat)
        refine g_istore (lv' := [(7, .int v104_s0), (0, .ref a0), (1, .int a1), (2, .int a2), (3, .int a3), (4, .int v42_4), (5, .int v42_5), (6, .int v104_6)]) C dX12_swap_104 (by decide) rfl ?_
        refine g_iload C dX12_swap_106 0 rfl ?_
        refine b_if_eq C 151 dX12_swap_108 (by decide) (fun h104245 => ?_) (fun h104245 => ?_)
        · have h104245 : v104_s0.toInt = 0 := congrArg Int32.toInt h104245
          refine g_lv (lv' := [(0, .ref a0), (1, .int a1), (2, .int a2), (3, .int a3), (4, .int v42_4), (5, .int v42_5)]) [1, 2, 3, 4, 5, 6] rfl ?_
          exact J151 P42 v42_4 I42 X42 W42 (by omega) (by omega) (by omega) (by omega) (by omega) (by omega)
        · have h104245 : v104_s0.toInt ≠ 0 := ti_ne h104245
          refine g_aload_n C dX12_swap_111 rfl 1 rfl ?_
          refine g_iload_n C dX12_swap_112 rfl 3 rfl ?_
          refine g_iload C dX12_swap_113 7 rfl ?_
          refine g_callVI (rest := []) C mv_X12_405 [.int a2, .int v104_6] (s_X12_hasAlike I42 (by omega) (by omega) W42) (h104240).1 (h104240).2 rfl rfl (by decide) (Nat.le_of_ble_eq_true rfl) (by decide) dX12_swap_115 (fun r104246 Y104247 h104248 => ?_)
          obtain ⟨rfl, h104248⟩ := h104248
          have h104248 : 0 ≤ r104246.toInt ∧ r104246.toInt ≤ 1 := h104248
          refine b_if_ne C 151 dX12_swap_118 (by decide) (fun h104249 => ?_) (fun h104249 => ?_)
          · have h104249 : r104246.toInt ≠ 0 := ti_ne h104249
            refine g_lv (lv' := [(0, .ref a0), (1, .int a1), (2, .int a2), (3, .int a3), (4, .int v42_4), (5, .int v42_5)]) [1, 2, 3, 4, 5, 6] rfl ?_
            exact J151 P42 v42_4 I42 X42 W42 (by omega) (by omega) (by omega) (by omega) (by omega) (by omega)
          · have h104249 : r104246.toInt = 0 := congrArg Int32.toInt h104249
            refine g_aload_n C dX12_swap_121 rfl 1 rfl ?_
            refine g_iload C dX12_swap_122 7 rfl ?_
            refine g_bipush (v := 40) C dX12_swap_124 (by decide) ?_
            refine g_iload_n C dX12_swap_126 rfl 3 rfl ?_
            refine s_imul C dX12_swap_127 (by show -2147483648 ≤ 40 * a2.toInt ∧ 40 * a2.toInt ≤ 2147483647; omega) (fun z104250 h104251 => ?_)
            have h104251 : z104250.toInt = 40 * a2.toInt := h104251
            refine g_aload_n C dX12_swap_128 rfl 1 rfl ?_
            refine g_getR C fi_X12_69 rfl e104242 (h104240).1 (h104240).2 dX12_swap_129 ?_
            refine g_iload_n C dX12_swap_132 rfl 3 rfl ?_
            refine g_iald (j := (a2.toInt.toNat)) C h104243.1 h104243.2.1 (ix_in h104243.2.2 (by omega)) dX12_swap_133 ?_
            refine s_iadd C dX12_swap_134 (by show -2147483648 ≤ z104250.toInt + (pI P42 b104241 (a2.toInt.toNat)).toInt ∧ z104250.toInt + (pI P42 b104241 (a2.toInt.toNat)).toInt ≤ 2147483647; omega) (fun z104252 h104253 => ?_)
            have h104253 : z104252.toInt = z104250.toInt + (pI P42 b104241 (a2.toInt.toNat)).toInt := h104253
            refine g_callVV (rest := []) C mv_X12_274 [.int v104_6, .int z104252] (s_X12_moves I42 (by omega) (by omega) (by have q8 := W42.2 (a1.toInt.toNat) (v42_5.toInt.toNat) (by omega) (by omega) (by rw [szf_at e104242]; omega); rw [show v104_6.toInt.toNat = 40 * a1.toInt.toNat + (v42_5.toInt.toNat) by omega]; exact q8)) (h104240).1 (h104240).2 rfl rfl (by decide) (Nat.le_of_ble_eq_true rfl) (by decide) dX12_swap_135 (fun Y104255 h104256 => ?_)
            obtain ⟨Iy104257, Xy104258, W104259⟩ := h104256
            have q104260 := Xy104258.keepF 0 (by decide)
            have q104261 := Xy104258.keepA e104242 (by decide) rfl (a1.toInt.toNat)
            have q104262 := Xy104258.keepA e104242 (by decide) rfl (a2.toInt.toNat)
            have Xz104263 : EM [0, 20, 21, 22, 23, 24, 25] a0 P Y104255 := EM.tr ha0 X42 (Xy104258.mono (by decide))
            have e104264 := Xy104258.ref h104240 (by decide) e104242
            have h104265 := Xy104258.at h104240
            have h104266 := Xy104258.ar h104243
            have W104267 := W42.mv I42 Xy104258 (by decide) (by decide) (by decide) W104259
            have W104268 : ML Y104255 a0 (z104252.toInt.toNat) := ⟨W104267, W104259.1⟩
            refine g_aload_n C dX12_swap_138 rfl 1 rfl ?_
            refine g_getR C fi_X12_69 rfl e104264 (h104265).1 (h104265).2 dX12_swap_139 ?_
            refine g_iload_n C dX12_swap_142 rfl 3 rfl ?_
            refine g_dup2_11 C dX12_swap_143 rfl rfl ?_
            refine g_iald (j := (a2.toInt.toNat)) C h104266.1 h104266.2.1 (ix_in h104266.2.2 (by omega)) dX12_swap_144 ?_
            refine g_iconst (v := 1) C dX12_swap_145 (by decide) ?_
            refine s_iadd C dX12_swap_146 (by show -2147483648 ≤ (pI Y104255 b104241 (a2.toInt.toNat)).toInt + 1 ∧ (pI Y104255 b104241 (a2.toInt.toNat)).toInt + 1 ≤ 2147483647; omega) (fun z104269 h104270 => ?_)
            have h104270 : z104269.toInt = (pI Y104255 b104241 (a2.toInt.toNat)).toInt + 1 := h104270
            refine g_iast (j := (a2.toInt.toNat)) C h104266.1 h104266.2.1 (ix_in h104266.2.2 (by omega)) dX12_swap_147 ?_
            refine gqX (ks := [20]) (W := (fun Y9 => MW Y9 a0)) (Iy104257.setA e104264 h104266 (by decide) (arOk.of rfl (by omega))) (EM.setA Iy104257 e104264 rfl (by decide)) (W104268.grow Iy104257 e104264 (by omega) (by omega)) (fun Y104271 Iy104272 Xy104273 w104274 W104275 => ?_)
            have w104274 : (pI Y104271 b104241 (a2.toInt.toNat)).toInt = z104269.toInt := w104274
            have q104276 := Xy104273.keepF 0 (by decide)
            have Xz104277 : EM [0, 20, 21, 22, 23, 24, 25] a0 P Y104271 := EM.tr ha0 Xz104263 (Xy104273.mono (by decide))
            have e104278 := Xy104273.ref h104265 (by decide) e104264
            have h104279 := Xy104273.at h104265
            have h104280 := Xy104273.ar h104266
            refine s_iinc (lv0 := [(7, .int v104_s0), (0, .ref a0), (1, .int a1), (2, .int a2), (3, .int a3), (5, .int v42_5), (6, .int v104_6)]) (m := 1) C dX12_swap_148 5 rfl (by decide) rfl (by decide) (by omega) (fun z104281 h104282 => ?_)
            have h104282 : z104281.toInt = v42_4.toInt + 1 := h104282
            refine g_lv (lv' := [(0, .ref a0), (1, .int a1), (2, .int a2), (3, .int a3), (4, .int z104281), (5, .int v42_5)]) [2, 3, 4, 5, 0, 6] rfl ?_
            exact J151 Y104271 z104281 Iy104272 Xz104277 W104275 (by omega) (by omega) (by omega) (by omega) (by omega) (by omega)
      have J103 : ∀ (v103_6 : Int32), (0 ≤ a1.toInt ∧ a1.toInt ≤ 3) → (0 ≤ a2.toInt ∧ a2.toInt ≤ 3) → (1 ≤ a3.toInt ∧ a3.toInt ≤ 40) → (0 ≤ v42_4.toInt ∧ v42_4.toInt ≤ 39) → (0 ≤ v42_5.toInt ∧ v42_5.toInt ≤ 39) → (0 ≤ v103_6.toInt ∧ v103_6.toInt ≤ 159) → (0 ≤ (pI P42 a0 0).toInt ∧ (pI P42 a0 0).toInt ≤ 0) → (∀ b, pR P42 a0 20 = some b → 1 ≤ (pI P42 b (a1.toInt.toNat)).toInt ∧ (pI P42 b (a1.toInt.toNat)).toInt ≤ 40) → (∀ b, pR P42 a0 20 = some b → 0 ≤ (pI P42 b (a2.toInt.toNat)).toInt ∧ (pI P42 b (a2.toInt.toNat)).toInt ≤ 40) → (∀ b920, pR P42 a0 20 = some b920 → v42_5.toInt < (pI P42 b920 (a1.toInt.toNat)).toInt) → (v103_6.toInt = 40 * a1.toInt + v42_5.toInt) → G E ({ frames := 3, cells := 0, slots := 0, locals := 192 } : Room) D cy 8 P42 0 0 103 [(0, .ref a0), (1, .int a1), (2, .int a2), (3, .int a3), (4, .int v42_4), (5, .int v42_5), (6, .int v103_6)] [] := by
        intro v103_6 hv103_1 hv103_2 hv103_3 hv103_4 hv103_5 hv103_6 hq103_0 hq103_1 hq103_2 rel103_0 rel103_1
        have h104283 := X42.at ha0
        obtain ⟨b104284, e104285, h104286⟩ := I42.fld (h104283) 20 13 20 rfl
        have hq103_1 := hq103_1 b104284 e104285
        have hq103_2 := hq103_2 b104284 e104285
        have rel103_0 := rel103_0 b104284 e104285
        refine g_iconst (v := 0) C dX12_swap_103 (by decide) ?_
        exact J104 v103_6 0 (by omega) (by omega) (by omega) (by omega) (by omega) (by omega) (by decide) (by omega) (fun b9 e9 => by rw [e104285] at e9; cases e9; omega) (by intro b920 e920; rw [e104285] at e920; cases e920; show v42_5.toInt < (pI P42 b104284 (a1.toInt.toNat)).toInt; omega) (by show v103_6.toInt = 40 * a1.toInt + v42_5.toInt; omega) (by intro b920 e920; rw [e104285] at e920; cases e920; show 0 = 0 ∨ (pI P42 b104284 (a2.toInt.toNat)).toInt ≤ 39; omega)
      have J99 : ∀ (v99_6 : Int32), (0 ≤ a1.toInt ∧ a1.toInt ≤ 3) → (0 ≤ a2.toInt ∧ a2.toInt ≤ 3) → (1 ≤ a3.toInt ∧ a3.toInt ≤ 40) → (0 ≤ v42_4.toInt ∧ v42_4.toInt ≤ 39) → (0 ≤ v42_5.toInt ∧ v42_5.toInt ≤ 39) → (0 ≤ v99_6.toInt ∧ v99_6.toInt ≤ 159) → (0 ≤ (pI P42 a0 0).toInt ∧ (pI P42 a0 0).toInt ≤ 0) → (∀ b, pR P42 a0 20 = some b → 1 ≤ (pI P42 b (a1.toInt.toNat)).toInt ∧ (pI P42 b (a1.toInt.toNat)).toInt ≤ 40) → (∀ b, pR P42 a0 20 = some b → 0 ≤ (pI P42 b (a2.toInt.toNat)).toInt ∧ (pI P42 b (a2.toInt.toNat)).toInt ≤ 39) → (∀ b920, pR P42 a0 20 = some b920 → v42_5.toInt < (pI P42 b920 (a1.toInt.toNat)).toInt) → (v99_6.toInt = 40 * a1.toInt + v42_5.toInt) → (∀ b920, pR P42 a0 20 = some b920 → (pI P42 b920 (a2.toInt.toNat)).toInt ≤ 39) → G E ({ frames := 3, cells := 0, slots := 0, locals := 192 } : Room) D cy 8 P42 0 0 99 [(0, .ref a0), (1, .int a1), (2, .int a2), (3, .int a3), (4, .int v42_4), (5, .int v42_5), (6, .int v99_6)] [] := by
        intro v99_6 hv99_1 hv99_2 hv99_3 hv99_4 hv99_5 hv99_6 hq99_0 hq99_1 hq99_2 rel99_0 rel99_1 rel99_2
        have h104287 := X42.at ha0
        obtain ⟨b104288, e104289, h104290⟩ := I42.fld (h104287) 20 13 20 rfl
        have hq99_1 := hq99_1 b104288 e104289
        have hq99_2 := hq99_2 b104288 e104289
        have rel99_0 := rel99_0 b104288 e104289
        have rel99_2 := rel99_2 b104288 e104289
        refine g_iconst (v := 1) C dX12_swap_99 (by decide) ?_
        refine g_goto C 104 dX12_swap_100 (by decide) ?_
        exact J104 v99_6 1 (by omega) (by omega) (by omega) (by omega) (by omega) (by omega) (by decide) (by omega) (fun b9 e9 => by rw [e104289] at e9; cases e9; omega) (by intro b920 e920; rw [e104289] at e920; cases e920; show v42_5.toInt < (pI P42 b104288 (a1.toInt.toNat)).toInt; omega) (by show v99_6.toInt = 40 * a1.toInt + v42_5.toInt; omega) (by intro b920 e920; rw [e104289] at e920; cases e920; show 1 = 0 ∨ (pI P42 b104288 (a2.toInt.toNat)).toInt ≤ 39; omega)
      refine g_iload C dX12_swap_42 5 rfl ?_
      refine g_aload_n C dX12_swap_44 rfl 0 rfl ?_
      obtain ⟨b104291, e104292, h104293⟩ := I42.fld (h104236) 20 13 20 rfl
      refine g_getR C fi_X12_69 rfl e104292 (h104236).1 (h104236).2 dX12_swap_45 ?_
      refine g_iload_n C dX12_swap_48 rfl 1 rfl ?_
      refine g_iald (j := (a1.toInt.toNat)) C h104293.1 h104293.2.1 (ix_in h104293.2.2 (by omega)) dX12_swap_49 ?_
      have h104294 := I42.arr e104292 rfl (a1.toInt.toNat)
      refine b_icmp_ge C 157 dX12_swap_50 (by decide) (fun h104295 => ?_) (fun h104295 => ?_)
      · have h104295 : (pI P42 b104291 (a1.toInt.toNat)).toInt ≤ v42_5.toInt := h104295
        refine g_lv (lv' := [(4, .int v42_4)]) [4] rfl ?_
        exact J157 P42 v42_4 I42 X42 W42 (by omega) (by omega)
      · have h104295 : v42_5.toInt < (pI P42 b104291 (a1.toInt.toNat)).toInt := h104295
        refine g_iload C dX12_swap_53 4 rfl ?_
        refine g_iload_n C dX12_swap_55 rfl 3 rfl ?_
        refine b_icmp_ge C 157 dX12_swap_56 (by decide) (fun h104296 => ?_) (fun h104296 => ?_)
        · have h104296 : a3.toInt ≤ v42_4.toInt := h104296
          refine g_lv (lv' := [(4, .int v42_4)]) [4] rfl ?_
          exact J157 P42 v42_4 I42 X42 W42 (by omega) (by omega)
        · have h104296 : v42_4.toInt < a3.toInt := h104296
          refine g_bipush (v := 40) C dX12_swap_59 (by decide) ?_
          refine g_iload_n C dX12_swap_61 rfl 1 rfl ?_
          refine s_imul C dX12_swap_62 (by show -2147483648 ≤ 40 * a1.toInt ∧ 40 * a1.toInt ≤ 2147483647; omega) (fun z104297 h104298 => ?_)
          have h104298 : z104297.toInt = 40 * a1.toInt := h104298
          refine g_iload C dX12_swap_63 5 rfl ?_
          refine s_iadd C dX12_swap_65 (by show -2147483648 ≤ z104297.toInt + v42_5.toInt ∧ z104297.toInt + v42_5.toInt ≤ 2147483647; omega) (fun z104299 h104300 => ?_)
          have h104300 : z104299.toInt = z104297.toInt + v42_5.toInt := h104300
          refine g_istore (lv' := [(6, .int z104299), (0, .ref a0), (1, .int a1), (2, .int a2), (3, .int a3), (4, .int v42_4), (5, .int v42_5)]) C dX12_swap_66 (by decide) rfl ?_
          refine g_aload_n C dX12_swap_68 rfl 1 rfl ?_
          refine g_getR C fi_X12_69 rfl e104292 (h104236).1 (h104236).2 dX12_swap_69 ?_
          refine g_iload_n C dX12_swap_72 rfl 3 rfl ?_
          refine g_iald (j := (a2.toInt.toNat)) C h104293.1 h104293.2.1 (ix_in h104293.2.2 (by omega)) dX12_swap_73 ?_
          have h104301 := I42.arr e104292 rfl (a2.toInt.toNat)
          refine g_bipush (v := 40) C dX12_swap_74 (by decide) ?_
          refine b_icmp_ge C 103 dX12_swap_76 (by decide) (fun h104302 => ?_) (fun h104302 => ?_)
          · have h104302 : 40 ≤ (pI P42 b104291 (a2.toInt.toNat)).toInt := h104302
            refine g_lv (lv' := [(0, .ref a0), (1, .int a1), (2, .int a2), (3, .int a3), (4, .int v42_4), (5, .int v42_5), (6, .int z104299)]) [1, 2, 3, 4, 5, 6, 0] rfl ?_
            exact J103 z104299 (by omega) (by omega) (by omega) (by omega) (by omega) (by omega) (by omega) (fun b9 e9 => by rw [e104292] at e9; cases e9; omega) (fun b9 e9 => by rw [e104292] at e9; cases e9; omega) (by intro b920 e920; rw [e104292] at e920; cases e920; show v42_5.toInt < (pI P42 b104291 (a1.toInt.toNat)).toInt; omega) (by show z104299.toInt = 40 * a1.toInt + v42_5.toInt; omega)
          · have h104302 : (pI P42 b104291 (a2.toInt.toNat)).toInt < 40 := h104302
            refine g_aload_n C dX12_swap_79 rfl 1 rfl ?_
            obtain ⟨b104303, e104304, h104305⟩ := I42.fld (h104236) 22 13 800 rfl
            refine g_getR C fi_X12_75 rfl e104304 (h104236).1 (h104236).2 dX12_swap_80 ?_
            refine g_iload C dX12_swap_83 0 rfl ?_
            refine g_iald (j := (z104299.toInt.toNat)) C h104305.1 h104305.2.1 (ix_in h104305.2.2 (by omega)) dX12_swap_85 ?_
            have h104306 := I42.arr e104304 rfl (z104299.toInt.toNat)
            refine b_if_ge C 99 dX12_swap_86 (by decide) (fun h104307 => ?_) (fun h104307 => ?_)
            · have h104307 : 0 ≤ (pI P42 b104303 (z104299.toInt.toNat)).toInt := h104307
              refine g_lv (lv' := [(0, .ref a0), (1, .int a1), (2, .int a2), (3, .int a3), (4, .int v42_4), (5, .int v42_5), (6, .int z104299)]) [1, 2, 3, 4, 5, 6, 0] rfl ?_
              exact J99 z104299 (by omega) (by omega) (by omega) (by omega) (by omega) (by omega) (by omega) (fun b9 e9 => by rw [e104292] at e9; cases e9; omega) (fun b9 e9 => by rw [e104292] at e9; cases e9; omega) (by intro b920 e920; rw [e104292] at e920; cases e920; show v42_5.toInt < (pI P42 b104291 (a1.toInt.toNat)).toInt; omega) (by show z104299.toInt = 40 * a1.toInt + v42_5.toInt; omega) (by intro b920 e920; rw [e104292] at e920; cases e920; show (pI P42 b104291 (a2.toInt.toNat)).toInt ≤ 39; omega)
            · have h104307 : (pI P42 b104303 (z104299.toInt.toNat)).toInt < 0 := h104307
              refine g_aload_n C dX12_swap_89 rfl 1 rfl ?_
              refine g_iload_n C dX12_swap_90 rfl 3 rfl ?_
              refine g_callVI (rest := []) C mv_X12_295 [.int a2] (s_X12_namelessIn I42 (by omega) W42) (h104236).1 (h104236).2 rfl rfl (by decide) (Nat.le_of_ble_eq_true rfl) (by decide) dX12_swap_91 (fun r104308 Y104309 h104310 => ?_)
              obtain ⟨rfl, h104310⟩ := h104310
              have h104310 : True := h104310
              refine g_bipush (v := 6) C dX12_swap_94 (by decide) ?_
              have u104312 := ti_rng r104308
              refine b_icmp_ge C 103 dX12_swap_96 (by decide) (fun h104311 => ?_) (fun h104311 => ?_)
              · have h104311 : 6 ≤ r104308.toInt := h104311
                refine g_lv (lv' := [(0, .ref a0), (1, .int a1), (2, .int a2), (3, .int a3), (4, .int v42_4), (5, .int v42_5), (6, .int z104299)]) [1, 2, 3, 4, 5, 6, 0] rfl ?_
                exact J103 z104299 (by omega) (by omega) (by omega) (by omega) (by omega) (by omega) (by omega) (fun b9 e9 => by rw [e104292] at e9; cases e9; omega) (fun b9 e9 => by rw [e104292] at e9; cases e9; omega) (by intro b920 e920; rw [e104292] at e920; cases e920; show v42_5.toInt < (pI P42 b104291 (a1.toInt.toNat)).toInt; omega) (by show z104299.toInt = 40 * a1.toInt + v42_5.toInt; omega)
              · have h104311 : r104308.toInt < 6 := h104311
                refine g_lv (lv' := [(0, .ref a0), (1, .int a1), (2, .int a2), (3, .int a3), (4, .int v42_4), (5, .int v42_5), (6, .int z104299)]) [1, 2, 3, 4, 5, 6, 0] rfl ?_
                exact J99 z104299 (by omega) (by omega) (by omega) (by omega) (by omega) (by omega) (by omega) (fun b9 e9 => by rw [e104292] at e9; cases e9; omega) (fun b9 e9 => by rw [e104292] at e9; cases e9; omega) (by intro b920 e920; rw [e104292] at e920; cases e920; show v42_5.toInt < (pI P42 b104291 (a1.toInt.toNat)).toInt; omega) (by show z104299.toInt = 40 * a1.toInt + v42_5.toInt; omega) (by intro b920 e920; rw [e104292] at e920; cases e920; show (pI P42 b104291 (a2.toInt.toNat)).toInt ≤ 39; omega)
  have J34 : ∀ (P34 : PP), (IM P34 a0) → (EM [0, 20, 21, 22, 23, 24, 25] a0 P P34) → (MW P34 a0) → (0 ≤ (pI P34 a0 0).toInt ∧ (pI P34 a0 0).toInt ≤ 0) → G E ({ frames := 3, cells := 0, slots := 0, locals := 192 } : Room) D cy 8 P34 0 0 34 [] [] := by
    intro P34 I34 X34 W34 hq34_0
    have h104313 := X34.at ha0
    refine g_iconst (v := (-1)) C dX12_swap_34 (by decide) ?_
    exact ret _ _ _ _ _ _ dX12_swap_35 rfl (by decide) (by decide) ⟨I34, X34, W34, (by decide)⟩
  refine g_aload_n C dX12_swap_0 rfl 0 rfl ?_
  refine g_iconst (v := 0) C dX12_swap_1 (by decide) ?_
  refine g_putI C fi_X12_1 rfl (ha0).1 (ha0).2 dX12_swap_2 ?_
  refine gqW (ks := [0]) (I.setI (rgOk.of rfl (by decide))) (EM.setI I (by decide)) (fun Y104314 Iy104315 Xy104316 w104317  => ?_)
  have w104317 : (pI Y104314 a0 0).toInt = 0 := w104317
  have W104318 := hW.keep I Xy104316 (by decide) (by decide) (by decide) (by decide)
  have Xz104319 : EM [0, 20, 21, 22, 23, 24, 25] a0 P Y104314 := Xy104316.mono (by decide)
  have h104320 := Xy104316.at ha0
  refine g_iload_n C dX12_swap_5 rfl 1 rfl ?_
  refine g_callSI (b := 0) (ci := 0) (rest := []) C ms_X12_278 [.int a1] (s_X12_isQuarter Iy104315.1) rfl rfl (by decide) (Nat.le_of_ble_eq_true rfl) (by decide) dX12_swap_6 (fun r104321 Y104322 h104323 => ?_)
  obtain ⟨rfl, h104323⟩ := h104323
  obtain ⟨h104323, hi104324⟩ := h104323
  have hi104324 : r104321.toInt = 0 ∨ (((0 : Int) ≤ a1.toInt ∧ a1.toInt ≤ (3 : Int))) := hi104324
  have h104323 : 0 ≤ r104321.toInt ∧ r104321.toInt ≤ 1 := h104323
  refine b_if_eq C 34 dX12_swap_9 (by decide) (fun h104325 => ?_) (fun h104325 => ?_)
  · have h104325 : r104321.toInt = 0 := congrArg Int32.toInt h104325
    clear hi104324
    refine g_lv (lv' := []) [] rfl ?_
    exact J34 Y104314 Iy104315 Xz104319 W104318 (by omega)
  · have h104325 : r104321.toInt ≠ 0 := ti_ne h104325
    replace hi104324 := hi104324.resolve_left (by omega)
    refine g_iload_n C dX12_swap_12 rfl 2 rfl ?_
    refine g_callSI (b := 0) (ci := 0) (rest := []) C ms_X12_278 [.int a2] (s_X12_isQuarter Iy104315.1) rfl rfl (by decide) (Nat.le_of_ble_eq_true rfl) (by decide) dX12_swap_13 (fun r104326 Y104327 h104328 => ?_)
    obtain ⟨rfl, h104328⟩ := h104328
    obtain ⟨h104328, hi104329⟩ := h104328
    have hi104329 : r104326.toInt = 0 ∨ (((0 : Int) ≤ a2.toInt ∧ a2.toInt ≤ (3 : Int))) := hi104329
    have h104328 : 0 ≤ r104326.toInt ∧ r104326.toInt ≤ 1 := h104328
    refine b_if_eq C 34 dX12_swap_16 (by decide) (fun h104330 => ?_) (fun h104330 => ?_)
    · have h104330 : r104326.toInt = 0 := congrArg Int32.toInt h104330
      clear hi104329
      refine g_lv (lv' := []) [] rfl ?_
      exact J34 Y104314 Iy104315 Xz104319 W104318 (by omega)
    · have h104330 : r104326.toInt ≠ 0 := ti_ne h104330
      replace hi104329 := hi104329.resolve_left (by omega)
      refine g_iload_n C dX12_swap_19 rfl 1 rfl ?_
      refine g_iload_n C dX12_swap_20 rfl 2 rfl ?_
      refine b_icmp_eq C 34 dX12_swap_21 (by decide) (fun h104331 => ?_) (fun h104331 => ?_)
      · have h104331 : a1.toInt = a2.toInt := congrArg Int32.toInt h104331
        refine g_lv (lv' := []) [] rfl ?_
        exact J34 Y104314 Iy104315 Xz104319 W104318 (by omega)
      · have h104331 : a1.toInt ≠ a2.toInt := ti_ne h104331
        refine g_iload_n C dX12_swap_24 rfl 3 rfl ?_
        refine g_iconst (v := 0) C dX12_swap_25 (by decide) ?_
        refine g_bipush (v := 40) C dX12_swap_26 (by decide) ?_
        refine g_callSI (b := 0) (ci := 0) (rest := []) C ms_X12_178 [.int a3, .int 0, .int 40] (s_X12_within Iy104315.1) rfl rfl (by decide) (Nat.le_of_ble_eq_true rfl) (by decide) dX12_swap_28 (fun r104332 Y104333 h104334 => ?_)
        obtain ⟨rfl, h104334⟩ := h104334
        obtain ⟨h104334, hi104335⟩ := h104334
        have hi104335 : r104332.toInt = 0 ∨ (0 ≤ a3.toInt ∧ a3.toInt ≤ 40) := hi104335
        have h104334 : 0 ≤ r104332.toInt ∧ r104332.toInt ≤ 1 := h104334
        refine b_if_ne C 36 dX12_swap_31 (by decide) (fun h104336 => ?_) (fun h104336 => ?_)
        · have h104336 : r104332.toInt ≠ 0 := ti_ne h104336
          replace hi104335 := hi104335.resolve_left (by omega)
          refine g_iconst (v := 0) C dX12_swap_36 (by decide) ?_
          refine g_istore (lv' := [(4, .int 0), (0, .ref a0), (1, .int a1), (2, .int a2), (3, .int a3)]) C dX12_swap_37 (by decide) rfl ?_
          refine g_iconst (v := 0) C dX12_swap_39 (by decide) ?_
          refine g_istore (lv' := [(5, .int 0), (4, .int 0), (0, .ref a0), (1, .int a1), (2, .int a2), (3, .int a3)]) C dX12_swap_40 (by decide) rfl ?_
          refine g_lv (lv' := [(0, .ref a0), (1, .int a1), (2, .int a2), (3, .int a3), (4, .int 0), (5, .int 0)]) [2, 3, 4, 5, 1, 0] rfl ?_
          exact J42 _ Y104314 0 0 (Nat.lt_succ_self _) Iy104315 Xz104319 W104318 (by omega) (by omega) (by omega) (by decide) (by decide) (by omega)
        · have h104336 : r104332.toInt = 0 := congrArg Int32.toInt h104336
          clear hi104335
          refine g_lv (lv' := []) [] rfl ?_
          exact J34 Y104314 Iy104315 Xz104319 W104318 (by omega)
theorem dX12_tocome_0 : decode cX12_tocome 0 = .ok (.aload_n 0, 1) := by decide +kernel
theorem dX12_tocome_1 : decode cX12_tocome 1 = .ok (.iconst 0, 1) := by decide +kernel
theorem dX12_tocome_2 : decode cX12_tocome 2 = .ok (.putfield 1, 3) := by decide +kernel
theorem dX12_tocome_5 : decode cX12_tocome 5 = .ok (.iload_n 1, 1) := by decide +kernel
theorem dX12_tocome_6 : decode cX12_tocome 6 = .ok (.invokestatic 278, 3) := by decide +kernel
theorem dX12_tocome_9 : decode cX12_tocome 9 = .ok (.ifCond .eq 20, 3) := by decide +kernel
theorem dX12_tocome_12 : decode cX12_tocome 12 = .ok (.aload_n 0, 1) := by decide +kernel
theorem dX12_tocome_13 : decode cX12_tocome 13 = .ok (.iload_n 2, 1) := by decide +kernel
theorem dX12_tocome_14 : decode cX12_tocome 14 = .ok (.invokevirtual 192, 3) := by decide +kernel
theorem dX12_tocome_17 : decode cX12_tocome 17 = .ok (.ifCond .eq 12, 3) := by decide +kernel
theorem dX12_tocome_20 : decode cX12_tocome 20 = .ok (.iload_n 3, 1) := by decide +kernel
theorem dX12_tocome_21 : decode cX12_tocome 21 = .ok (.iconst 0, 1) := by decide +kernel
theorem dX12_tocome_22 : decode cX12_tocome 22 = .ok (.iconst 1, 1) := by decide +kernel
theorem dX12_tocome_23 : decode cX12_tocome 23 = .ok (.invokestatic 178, 3) := by decide +kernel
theorem dX12_tocome_26 : decode cX12_tocome 26 = .ok (.ifCond .ne 5, 3) := by decide +kernel
theorem dX12_tocome_29 : decode cX12_tocome 29 = .ok (.iconst (-1), 1) := by decide +kernel
theorem dX12_tocome_30 : decode cX12_tocome 30 = .ok (.ireturn, 1) := by decide +kernel
theorem dX12_tocome_31 : decode cX12_tocome 31 = .ok (.aload_n 0, 1) := by decide +kernel
theorem dX12_tocome_32 : decode cX12_tocome 32 = .ok (.invokevirtual 336, 3) := by decide +kernel
theorem dX12_tocome_35 : decode cX12_tocome 35 = .ok (.iconst (-1), 1) := by decide +kernel
theorem dX12_tocome_36 : decode cX12_tocome 36 = .ok (.istore 4, 2) := by decide +kernel
theorem dX12_tocome_38 : decode cX12_tocome 38 = .ok (.iconst 0, 1) := by decide +kernel
theorem dX12_tocome_39 : decode cX12_tocome 39 = .ok (.istore 5, 2) := by decide +kernel
theorem dX12_tocome_41 : decode cX12_tocome 41 = .ok (.iload 5, 2) := by decide +kernel
theorem dX12_tocome_43 : decode cX12_tocome 43 = .ok (.sipush 2048, 3) := by decide +kernel
theorem dX12_tocome_46 : decode cX12_tocome 46 = .ok (.if_icmp .ge 47, 3) := by decide +kernel
theorem dX12_tocome_49 : decode cX12_tocome 49 = .ok (.iload 4, 2) := by decide +kernel
theorem dX12_tocome_51 : decode cX12_tocome 51 = .ok (.ifCond .lt 16, 3) := by decide +kernel
theorem dX12_tocome_54 : decode cX12_tocome 54 = .ok (.iload 5, 2) := by decide +kernel
theorem dX12_tocome_56 : decode cX12_tocome 56 = .ok (.invokestatic 264, 3) := by decide +kernel
theorem dX12_tocome_59 : decode cX12_tocome 59 = .ok (.iload 4, 2) := by decide +kernel
theorem dX12_tocome_61 : decode cX12_tocome 61 = .ok (.invokestatic 264, 3) := by decide +kernel
theorem dX12_tocome_64 : decode cX12_tocome 64 = .ok (.if_icmp .ge 23, 3) := by decide +kernel
theorem dX12_tocome_67 : decode cX12_tocome 67 = .ok (.aload_n 0, 1) := by decide +kernel
theorem dX12_tocome_68 : decode cX12_tocome 68 = .ok (.iload_n 1, 1) := by decide +kernel
theorem dX12_tocome_69 : decode cX12_tocome 69 = .ok (.iload_n 2, 1) := by decide +kernel
theorem dX12_tocome_70 : decode cX12_tocome 70 = .ok (.iload 5, 2) := by decide +kernel
theorem dX12_tocome_72 : decode cX12_tocome 72 = .ok (.invokevirtual 374, 3) := by decide +kernel
theorem dX12_tocome_75 : decode cX12_tocome 75 = .ok (.ifCond .eq 8, 3) := by decide +kernel
theorem dX12_tocome_78 : decode cX12_tocome 78 = .ok (.iload 5, 2) := by decide +kernel
theorem dX12_tocome_80 : decode cX12_tocome 80 = .ok (.goto 5, 3) := by decide +kernel
theorem dX12_tocome_83 : decode cX12_tocome 83 = .ok (.iload 4, 2) := by decide +kernel
theorem dX12_tocome_85 : decode cX12_tocome 85 = .ok (.istore 4, 2) := by decide +kernel
theorem dX12_tocome_87 : decode cX12_tocome 87 = .ok (.iinc 5 1, 3) := by decide +kernel
theorem dX12_tocome_90 : decode cX12_tocome 90 = .ok (.goto (-49), 3) := by decide +kernel
theorem dX12_tocome_93 : decode cX12_tocome 93 = .ok (.iload 4, 2) := by decide +kernel
theorem dX12_tocome_95 : decode cX12_tocome 95 = .ok (.ifCond .ge 7, 3) := by decide +kernel
theorem dX12_tocome_98 : decode cX12_tocome 98 = .ok (.iconst (-1), 1) := by decide +kernel
theorem dX12_tocome_99 : decode cX12_tocome 99 = .ok (.goto 17, 3) := by decide +kernel
theorem dX12_tocome_102 : decode cX12_tocome 102 = .ok (.iload_n 3, 1) := by decide +kernel
theorem dX12_tocome_103 : decode cX12_tocome 103 = .ok (.ifCond .ne 11, 3) := by decide +kernel
theorem dX12_tocome_106 : decode cX12_tocome 106 = .ok (.iload 4, 2) := by decide +kernel
theorem dX12_tocome_108 : decode cX12_tocome 108 = .ok (.invokestatic 264, 3) := by decide +kernel
theorem dX12_tocome_111 : decode cX12_tocome 111 = .ok (.goto 5, 3) := by decide +kernel
theorem dX12_tocome_114 : decode cX12_tocome 114 = .ok (.iload 4, 2) := by decide +kernel
theorem dX12_tocome_116 : decode cX12_tocome 116 = .ok (.ireturn, 1) := by decide +kernel
set_option maxHeartbeats 4000000 in
set_option maxRecDepth 100000 in
theorem s_X12_tocome {P : PP} {a0 : Nat} {a1 : Int32} {a2 : Int32} {a3 : Int32} (I : IM P a0) (hW : MW P a0) : CtrI yX12_tocome cX12_tocome 6 (some Jvm.ClassFile.FieldType.int) ({ frames := 6, cells := 0, slots := 0, locals := 384 } : Room) 0 0 P [.ref a0, .int a1, .int a2, .int a3] (fun r P2 => IM P2 a0 ∧ EM [0, 28, 29, 30, 31, 32, 35, 36, 37, 38] a0 P P2 ∧ MW P2 a0 ∧ (-1 ≤ r.toInt ∧ r.toInt ≤ 9999)) := by
  refine enI (lv := [(0, .ref a0), (1, .int a1), (2, .int a2), (3, .int a3)]) (by decide) (Nat.le_of_ble_eq_true rfl) rfl (fun E D cy C Ci0 ret => ?_)
  have ha0 := I.2.1
  have J41 : ∀ (n41 : Nat) (P41 : PP) (v41_4 : Int32) (v41_5 : Int32), (9999 - v41_5.toInt).toNat < n41 → (IM P41 a0) → (EM [0, 28, 29, 30, 31, 32, 35, 36, 37, 38] a0 P P41) → (MW P41 a0) → (0 ≤ a1.toInt ∧ a1.toInt ≤ 3) → (0 ≤ a2.toInt ∧ a2.toInt ≤ 1) → (0 ≤ a3.toInt ∧ a3.toInt ≤ 1) → (-1 ≤ v41_4.toInt ∧ v41_4.toInt ≤ 9999) → (0 ≤ v41_5.toInt ∧ v41_5.toInt ≤ 9999) → (0 ≤ (pI P41 a0 0).toInt ∧ (pI P41 a0 0).toInt ≤ 0) → (∀ b, pR P41 a0 10 = some b → 1 ≤ (pI P41 b (a2.toInt.toNat)).toInt ∧ (pI P41 b (a2.toInt.toNat)).toInt ≤ 16) → G E ({ frames := 6, cells := 0, slots := 0, locals := 384 } : Room) D cy 6 P41 0 0 41 [(0, .ref a0), (1, .int a1), (2, .int a2), (3, .int a3), (4, .int v41_4), (5, .int v41_5)] [] := by
    intro n41
    induction n41 with
    | zero => intro P41 v41_4 v41_5 hm41 I41 X41 W41 hv41_1 hv41_2 hv41_3 hv41_4 hv41_5 hq41_0 hq41_1; omega
    | succ n41 ih41 =>
      intro P41 v41_4 v41_5 hm41 I41 X41 W41 hv41_1 hv41_2 hv41_3 hv41_4 hv41_5 hq41_0 hq41_1
      have h105684 := X41.at ha0
      obtain ⟨b105685, e105686, h105687⟩ := I41.fld (h105684) 10 13 2 rfl
      have hq41_1 := hq41_1 b105685 e105686
      have J87 : ∀ (P87 : PP) (v87_4 : Int32), (IM P87 a0) → (EM [0, 28, 29, 30, 31, 32, 35, 36, 37, 38] a0 P P87) → (MW P87 a0) → (0 ≤ a1.toInt ∧ a1.toInt ≤ 3) → (0 ≤ a2.toInt ∧ a2.toInt ≤ 1) → (0 ≤ a3.toInt ∧ a3.toInt ≤ 1) → (-1 ≤ v87_4.toInt ∧ v87_4.toInt ≤ 9999) → (0 ≤ v41_5.toInt ∧ v41_5.toInt ≤ 2047) → (0 ≤ (pI P87 a0 0).toInt ∧ (pI P87 a0 0).toInt ≤ 0) → (∀ b, pR P87 a0 10 = some b → 1 ≤ (pI P87 b (a2.toInt.toNat)).toInt ∧ (pI P87 b (a2.toInt.toNat)).toInt ≤ 16) → G E ({ frames := 6, cells := 0, slots := 0, locals := 384 } : Room) D cy 6 P87 0 0 87 [(0, .ref a0), (1, .int a1), (2, .int a2), (3, .int a3), (4, .int v87_4), (5, .int v41_5)] [] := by
        intro P87 v87_4 I87 X87 W87 hv87_1 hv87_2 hv87_3 hv87_4 hv87_5 hq87_0 hq87_1
        have h105688 := X87.at ha0
        obtain ⟨b105689, e105690, h105691⟩ := I87.fld (h105688) 10 13 2 rfl
        have hq87_1 := hq87_1 b105689 e105690
        refine s_iinc (lv0 := [(0, .ref a0), (1, .int a1), (2, .int a2), (3, .int a3), (4, .int v87_4)]) (m := 1) C dX12_tocome_87 5 rfl (by decide) rfl (by decide) (by omega) (fun z105692 h105693 => ?_)
        have h105693 : z105692.toInt = v41_5.toInt + 1 := h105693
        refine g_goto C 41 dX12_tocome_90 (by decide) ?_
        refine g_lv (lv' := [(0, .ref a0), (1, .int a1), (2, .int a2), (3, .int a3), (4, .int v87_4), (5, .int z105692)]) [1, 2, 3, 4, 5, 0] rfl ?_
        exact ih41 P87 v87_4 z105692 (by omega) I87 X87 W87 (by omega) (by omega) (by omega) (by omega) (by omega) (by omega) (fun b9 e9 => by rw [e105690] at e9; cases e9; omega)
      have J85 : ∀ (P85 : PP) (v85_s0 : Int32), (IM P85 a0) → (EM [0, 28, 29, 30, 31, 32, 35, 36, 37, 38] a0 P P85) → (MW P85 a0) → (0 ≤ a1.toInt ∧ a1.toInt ≤ 3) → (0 ≤ a2.toInt ∧ a2.toInt ≤ 1) → (0 ≤ a3.toInt ∧ a3.toInt ≤ 1) → (0 ≤ v41_5.toInt ∧ v41_5.toInt ≤ 2047) → (-1 ≤ v85_s0.toInt ∧ v85_s0.toInt ≤ 9999) → (0 ≤ (pI P85 a0 0).toInt ∧ (pI P85 a0 0).toInt ≤ 0) → (∀ b, pR P85 a0 10 = some b → 1 ≤ (pI P85 b (a2.toInt.toNat)).toInt ∧ (pI P85 b (a2.toInt.toNat)).toInt ≤ 16) → G E ({ frames := 6, cells := 0, slots := 0, locals := 384 } : Room) D cy 6 P85 0 0 85 [(0, .ref a0), (1, .int a1), (2, .int a2), (3, .int a3), (5, .int v41_5)] [.int v85_s0] := by
        intro P85 v85_s0 I85 X85 W85 hv85_1 hv85_2 hv85_3 hv85_5 hv85_s0 hq85_0 hq85_1
        have h105694 := X85.at ha0
        obtain ⟨b105695, e105696, h105697⟩ := I85.fld (h105694) 10 13 2 rfl
        have hq85_1 := hq85_1 b105695 e105696
        refine g_istore (lv' := [(4, .int v85_s0), (0, .ref a0), (1, .int a1), (2, .int a2), (3, .int a3), (5, .int v41_5)]) C dX12_tocome_85 (by decide) rfl ?_
        refine g_lv (lv' := [(0, .ref a0), (1, .int a1), (2, .int a2), (3, .int a3), (4, .int v85_s0), (5, .int v41_5)]) [1, 2, 3, 4, 0, 5] rfl ?_
        exact J87 P85 v85_s0 I85 X85 W85 (by omega) (by omega) (by omega) (by omega) (by omega) (by omega) (fun b9 e9 => by rw [e105696] at e9; cases e9; omega)
      have J67 : (0 ≤ a1.toInt ∧ a1.toInt ≤ 3) → (0 ≤ a2.toInt ∧ a2.toInt ≤ 1) → (0 ≤ a3.toInt ∧ a3.toInt ≤ 1) → (0 ≤ v41_5.toInt ∧ v41_5.toInt ≤ 2047) → (0 ≤ (pI P41 a0 0).toInt ∧ (pI P41 a0 0).toInt ≤ 0) → (∀ b, pR P41 a0 10 = some b → 1 ≤ (pI P41 b (a2.toInt.toNat)).toInt ∧ (pI P41 b (a2.toInt.toNat)).toInt ≤ 16) → G E ({ frames := 6, cells := 0, slots := 0, locals := 384 } : Room) D cy 6 P41 0 0 67 [(0, .ref a0), (1, .int a1), (2, .int a2), (3, .int a3), (4, .int v41_4), (5, .int v41_5)] [] := by
        intro hv67_1 hv67_2 hv67_3 hv67_5 hq67_0 hq67_1
        have h105698 := X41.at ha0
        obtain ⟨b105699, e105700, h105701⟩ := I41.fld (h105698) 10 13 2 rfl
        have hq67_1 := hq67_1 b105699 e105700
        refine g_aload_n C dX12_tocome_67 rfl 0 rfl ?_
        refine g_iload_n C dX12_tocome_68 rfl 1 rfl ?_
        refine g_iload_n C dX12_tocome_69 rfl 2 rfl ?_
        refine g_iload C dX12_tocome_70 5 rfl ?_
        refine g_callVI (rest := []) C mv_X12_374 [.int a1, .int a2, .int v41_5] (s_X12_isAllWith I41 (by omega) (by omega) (fun b9 e9 => by rw [e105700] at e9; cases e9; show 1 ≤ (pI P41 b105699 (a2.toInt.toNat)).toInt ∧ (pI P41 b105699 (a2.toInt.toNat)).toInt ≤ 16; omega) W41) (h105698).1 (h105698).2 rfl rfl (by decide) (Nat.le_of_ble_eq_true rfl) (by decide) dX12_tocome_72 (fun r105702 Y105703 h105704 => ?_)
        obtain ⟨Iy105705, Xy105706, W105707, h105704⟩ := h105704
        have q105708 := Xy105706.keepF 0 (by decide)
        have q105709 := Xy105706.keepA e105700 (by decide) rfl (a2.toInt.toNat)
        have Xz105710 : EM [0, 28, 29, 30, 31, 32, 35, 36, 37, 38] a0 P Y105703 := EM.tr ha0 X41 (Xy105706.mono (by decide))
        have e105711 := Xy105706.ref h105698 (by decide) e105700
        have h105712 := Xy105706.at h105698
        have h105713 := Xy105706.ar h105701
        have h105704 : 0 ≤ r105702.toInt ∧ r105702.toInt ≤ 1 := h105704
        refine b_if_eq C 83 dX12_tocome_75 (by decide) (fun h105714 => ?_) (fun h105714 => ?_)
        · have h105714 : r105702.toInt = 0 := congrArg Int32.toInt h105714
          refine g_iload C dX12_tocome_83 4 rfl ?_
          refine g_lv (lv' := [(0, .ref a0), (1, .int a1), (2, .int a2), (3, .int a3), (5, .int v41_5)]) [0, 1, 2, 3, 5] rfl ?_
          exact J85 Y105703 v41_4 Iy105705 Xz105710 W105707 (by omega) (by omega) (by omega) (by omega) (by omega) (by omega) (fun b9 e9 => by rw [e105711] at e9; cases e9; omega)
        · have h105714 : r105702.toInt ≠ 0 := ti_ne h105714
          refine g_iload C dX12_tocome_78 5 rfl ?_
          refine g_goto C 85 dX12_tocome_80 (by decide) ?_
          refine g_lv (lv' := [(0, .ref a0), (1, .int a1), (2, .int a2), (3, .int a3), (5, .int v41_5)]) [0, 1, 2, 3, 5] rfl ?_
          exact J85 Y105703 v41_5 Iy105705 Xz105710 W105707 (by omega) (by omega) (by omega) (by omega) (by omega) (by omega) (fun b9 e9 => by rw [e105711] at e9; cases e9; omega)
      refine g_iload C dX12_tocome_41 5 rfl ?_
      refine g_sipush (v := 2048) C dX12_tocome_43 (by decide) ?_
      refine b_icmp_ge C 93 dX12_tocome_46 (by decide) (fun h105715 => ?_) (fun h105715 => ?_)
      · have h105715 : 2048 ≤ v41_5.toInt := h105715
        refine g_iload C dX12_tocome_93 4 rfl ?_
        refine b_if_ge C 102 dX12_tocome_95 (by decide) (fun h105716 => ?_) (fun h105716 => ?_)
        · have h105716 : 0 ≤ v41_4.toInt := h105716
          refine g_iload_n C dX12_tocome_102 rfl 3 rfl ?_
          refine b_if_ne C 114 dX12_tocome_103 (by decide) (fun h105717 => ?_) (fun h105717 => ?_)
          · have h105717 : a3.toInt ≠ 0 := ti_ne h105717
            refine g_iload C dX12_tocome_114 4 rfl ?_
            exact ret _ _ _ _ _ _ dX12_tocome_116 rfl (by decide) (by decide) ⟨I41, X41, W41, (by omega)⟩
          · have h105717 : a3.toInt = 0 := congrArg Int32.toInt h105717
            refine g_iload C dX12_tocome_106 4 rfl ?_
            refine g_callSI (b := 0) (ci := 0) (rest := []) C ms_X12_264 [.int v41_4] (s_X12_bits I41.1) rfl rfl (by decide) (Nat.le_of_ble_eq_true rfl) (by decide) dX12_tocome_108 (fun r105718 Y105719 h105720 => ?_)
            obtain ⟨rfl, h105720⟩ := h105720
            obtain ⟨h105720, hi105721⟩ := h105720
            have hi105721 : r105718.toInt = 0 ∨ v41_4.toInt ≠ 0 := hi105721
            have h105720 : 0 ≤ r105718.toInt ∧ r105718.toInt ≤ 20 := h105720
            refine g_goto C 116 dX12_tocome_111 (by decide) ?_
            exact ret _ _ _ _ _ _ dX12_tocome_116 rfl (by decide) (by decide) ⟨I41, X41, W41, (by omega)⟩
        · have h105716 : v41_4.toInt < 0 := h105716
          refine g_iconst (v := (-1)) C dX12_tocome_98 (by decide) ?_
          refine g_goto C 116 dX12_tocome_99 (by decide) ?_
          exact ret _ _ _ _ _ _ dX12_tocome_116 rfl (by decide) (by decide) ⟨I41, X41, W41, (by decide)⟩
      · have h105715 : v41_5.toInt < 2048 := h105715
        refine g_iload C dX12_tocome_49 4 rfl ?_
        refine b_if_lt C 67 dX12_tocome_51 (by decide) (fun h105722 => ?_) (fun h105722 => ?_)
        · have h105722 : v41_4.toInt < 0 := h105722
          exact J67 (by omega) (by omega) (by omega) (by omega) (by omega) (fun b9 e9 => by rw [e105686] at e9; cases e9; omega)
        · have h105722 : 0 ≤ v41_4.toInt := h105722
          refine g_iload C dX12_tocome_54 5 rfl ?_
          refine g_callSI (b := 0) (ci := 0) (rest := []) C ms_X12_264 [.int v41_5] (s_X12_bits I41.1) rfl rfl (by decide) (Nat.le_of_ble_eq_true rfl) (by decide) dX12_tocome_56 (fun r105723 Y105724 h105725 => ?_)
          obtain ⟨rfl, h105725⟩ := h105725
          obtain ⟨h105725, hi105726⟩ := h105725
          have hi105726 : r105723.toInt = 0 ∨ v41_5.toInt ≠ 0 := hi105726
          have h105725 : 0 ≤ r105723.toInt ∧ r105723.toInt ≤ 20 := h105725
          refine g_iload C dX12_tocome_59 4 rfl ?_
          refine g_callSI (b := 0) (ci := 0) (rest := [.int r105723]) C ms_X12_264 [.int v41_4] (s_X12_bits I41.1) rfl rfl (by decide) (Nat.le_of_ble_eq_true rfl) (by decide) dX12_tocome_61 (fun r105727 Y105728 h105729 => ?_)
          obtain ⟨rfl, h105729⟩ := h105729
          obtain ⟨h105729, hi105730⟩ := h105729
          have hi105730 : r105727.toInt = 0 ∨ v41_4.toInt ≠ 0 := hi105730
          have h105729 : 0 ≤ r105727.toInt ∧ r105727.toInt ≤ 20 := h105729
          refine b_icmp_ge C 87 dX12_tocome_64 (by decide) (fun h105731 => ?_) (fun h105731 => ?_)
          · have h105731 : r105727.toInt ≤ r105723.toInt := h105731
            exact J87 P41 v41_4 I41 X41 W41 (by omega) (by omega) (by omega) (by omega) (by omega) (by omega) (fun b9 e9 => by rw [e105686] at e9; cases e9; omega)
          · have h105731 : r105723.toInt < r105727.toInt := h105731
            exact J67 (by omega) (by omega) (by omega) (by omega) (by omega) (fun b9 e9 => by rw [e105686] at e9; cases e9; omega)
  have J29 : ∀ (P29 : PP), (IM P29 a0) → (EM [0, 28, 29, 30, 31, 32, 35, 36, 37, 38] a0 P P29) → (MW P29 a0) → (0 ≤ (pI P29 a0 0).toInt ∧ (pI P29 a0 0).toInt ≤ 0) → G E ({ frames := 6, cells := 0, slots := 0, locals := 384 } : Room) D cy 6 P29 0 0 29 [] [] := by
    intro P29 I29 X29 W29 hq29_0
    have h105732 := X29.at ha0
    refine g_iconst (v := (-1)) C dX12_tocome_29 (by decide) ?_
    exact ret _ _ _ _ _ _ dX12_tocome_30 rfl (by decide) (by decide) ⟨I29, X29, W29, (by decide)⟩
  refine g_aload_n C dX12_tocome_0 rfl 0 rfl ?_
  refine g_iconst (v := 0) C dX12_tocome_1 (by decide) ?_
  refine g_putI C fi_X12_1 rfl (ha0).1 (ha0).2 dX12_tocome_2 ?_
  refine gqW (ks := [0]) (I.setI (rgOk.of rfl (by decide))) (EM.setI I (by decide)) (fun Y105733 Iy105734 Xy105735 w105736  => ?_)
  have w105736 : (pI Y105733 a0 0).toInt = 0 := w105736
  have W105737 := hW.keep I Xy105735 (by decide) (by decide) (by decide) (by decide)
  have Xz105738 : EM [0, 28, 29, 30, 31, 32, 35, 36, 37, 38] a0 P Y105733 := Xy105735.mono (by decide)
  have h105739 := Xy105735.at ha0
  refine g_iload_n C dX12_tocome_5 rfl 1 rfl ?_
  refine g_callSI (b := 0) (ci := 0) (rest := []) C ms_X12_278 [.int a1] (s_X12_isQuarter Iy105734.1) rfl rfl (by decide) (Nat.le_of_ble_eq_true rfl) (by decide) dX12_tocome_6 (fun r105740 Y105741 h105742 => ?_)
  obtain ⟨rfl, h105742⟩ := h105742
  obtain ⟨h105742, hi105743⟩ := h105742
  have hi105743 : r105740.toInt = 0 ∨ (((0 : Int) ≤ a1.toInt ∧ a1.toInt ≤ (3 : Int))) := hi105743
  have h105742 : 0 ≤ r105740.toInt ∧ r105740.toInt ≤ 1 := h105742
  refine b_if_eq C 29 dX12_tocome_9 (by decide) (fun h105744 => ?_) (fun h105744 => ?_)
  · have h105744 : r105740.toInt = 0 := congrArg Int32.toInt h105744
    clear hi105743
    refine g_lv (lv' := []) [] rfl ?_
    exact J29 Y105733 Iy105734 Xz105738 W105737 (by omega)
  · have h105744 : r105740.toInt ≠ 0 := ti_ne h105744
    replace hi105743 := hi105743.resolve_left (by omega)
    refine g_aload_n C dX12_tocome_12 rfl 0 rfl ?_
    refine g_iload_n C dX12_tocome_13 rfl 2 rfl ?_
    refine g_callVI (rest := []) C mv_X12_192 [.int a2] (s_X12_isBook Iy105734 W105737) (h105739).1 (h105739).2 rfl rfl (by decide) (Nat.le_of_ble_eq_true rfl) (by decide) dX12_tocome_14 (fun r105745 Y105746 h105747 => ?_)
    obtain ⟨rfl, h105747⟩ := h105747
    obtain ⟨h105747, hi105748, hi105749⟩ := h105747
    have hi105748 : r105745.toInt = 0 ∨ (((0 : Int) ≤ a2.toInt ∧ a2.toInt ≤ (1 : Int))) := hi105748
    have h105747 : 0 ≤ r105745.toInt ∧ r105745.toInt ≤ 1 := h105747
    refine b_if_eq C 29 dX12_tocome_17 (by decide) (fun h105750 => ?_) (fun h105750 => ?_)
    · have h105750 : r105745.toInt = 0 := congrArg Int32.toInt h105750
      clear hi105748
      refine g_lv (lv' := []) [] rfl ?_
      exact J29 Y105733 Iy105734 Xz105738 W105737 (by omega)
    · have h105750 : r105745.toInt ≠ 0 := ti_ne h105750
      replace hi105748 := hi105748.resolve_left (by omega)
      obtain ⟨b105751, e105752, h105753⟩ := Iy105734.fld (h105739) 10 13 2 rfl
      have hi105749 := (hi105749.resolve_left (by omega)) b105751 e105752
      have hi105749 : 0 < (pI Y105733 b105751 (a2.toInt.toNat)).toInt := hi105749
      have h105754 := Iy105734.arr e105752 rfl (a2.toInt.toNat)
      refine g_iload_n C dX12_tocome_20 rfl 3 rfl ?_
      refine g_iconst (v := 0) C dX12_tocome_21 (by decide) ?_
      refine g_iconst (v := 1) C dX12_tocome_22 (by decide) ?_
      refine g_callSI (b := 0) (ci := 0) (rest := []) C ms_X12_178 [.int a3, .int 0, .int 1] (s_X12_within Iy105734.1) rfl rfl (by decide) (Nat.le_of_ble_eq_true rfl) (by decide) dX12_tocome_23 (fun r105755 Y105756 h105757 => ?_)
      obtain ⟨rfl, h105757⟩ := h105757
      obtain ⟨h105757, hi105758⟩ := h105757
      have hi105758 : r105755.toInt = 0 ∨ (0 ≤ a3.toInt ∧ a3.toInt ≤ 1) := hi105758
      have h105757 : 0 ≤ r105755.toInt ∧ r105755.toInt ≤ 1 := h105757
      refine b_if_ne C 31 dX12_tocome_26 (by decide) (fun h105759 => ?_) (fun h105759 => ?_)
      · have h105759 : r105755.toInt ≠ 0 := ti_ne h105759
        replace hi105758 := hi105758.resolve_left (by omega)
        refine g_aload_n C dX12_tocome_31 rfl 0 rfl ?_
        refine g_callVV (rest := []) C mv_X12_336 [] (s_X12_leavesNone Iy105734 W105737) (h105739).1 (h105739).2 rfl rfl (by decide) (Nat.le_of_ble_eq_true rfl) (by decide) dX12_tocome_32 (fun Y105761 h105762 => ?_)
        obtain ⟨Iy105763, Xy105764, W105765⟩ := h105762
        have q105766 := Xy105764.keepF 0 (by decide)
        have q105767 := Xy105764.keepA e105752 (by decide) rfl (a2.toInt.toNat)
        have Xz105768 : EM [0, 28, 29, 30, 31, 32, 35, 36, 37, 38] a0 P Y105761 := EM.tr ha0 Xz105738 (Xy105764.mono (by decide))
        have e105769 := Xy105764.ref h105739 (by decide) e105752
        have h105770 := Xy105764.at h105739
        have h105771 := Xy105764.ar h105753
        refine g_iconst (v := (-1)) C dX12_tocome_35 (by decide) ?_
        refine g_istore (lv' := [(4, .int (-1)), (0, .ref a0), (1, .int a1), (2, .int a2), (3, .int a3)]) C dX12_tocome_36 (by decide) rfl ?_
        refine g_iconst (v := 0) C dX12_tocome_38 (by decide) ?_
        refine g_istore (lv' := [(5, .int 0), (4, .int (-1)), (0, .ref a0), (1, .int a1), (2, .int a2), (3, .int a3)]) C dX12_tocome_39 (by decide) rfl ?_
        refine g_lv (lv' := [(0, .ref a0), (1, .int a1), (2, .int a2), (3, .int a3), (4, .int (-1)), (5, .int 0)]) [2, 3, 4, 5, 1, 0] rfl ?_
        exact J41 _ Y105761 (-1) 0 (Nat.lt_succ_self _) Iy105763 Xz105768 W105765 (by omega) (by omega) (by omega) (by decide) (by decide) (by omega) (fun b9 e9 => by rw [e105769] at e9; cases e9; omega)
      · have h105759 : r105755.toInt = 0 := congrArg Int32.toInt h105759
        clear hi105758
        refine g_lv (lv' := []) [] rfl ?_
        exact J29 Y105733 Iy105734 Xz105738 W105737 (by omega)
theorem dX12_told_0 : decode cX12_told 0 = .ok (.aload_n 0, 1) := by decide +kernel
theorem dX12_told_1 : decode cX12_told 1 = .ok (.iconst 0, 1) := by decide +kernel
theorem dX12_told_2 : decode cX12_told 2 = .ok (.putfield 1, 3) := by decide +kernel
theorem dX12_told_5 : decode cX12_told 5 = .ok (.aload_n 0, 1) := by decide +kernel
theorem dX12_told_6 : decode cX12_told 6 = .ok (.iload_n 1, 1) := by decide +kernel
theorem dX12_told_7 : decode cX12_told 7 = .ok (.invokevirtual 192, 3) := by decide +kernel
theorem dX12_told_10 : decode cX12_told 10 = .ok (.ifCond .eq 27, 3) := by decide +kernel
theorem dX12_told_13 : decode cX12_told 13 = .ok (.iload_n 2, 1) := by decide +kernel
theorem dX12_told_14 : decode cX12_told 14 = .ok (.iconst 0, 1) := by decide +kernel
theorem dX12_told_15 : decode cX12_told 15 = .ok (.aload_n 0, 1) := by decide +kernel
theorem dX12_told_16 : decode cX12_told 16 = .ok (.iload_n 1, 1) := by decide +kernel
theorem dX12_told_17 : decode cX12_told 17 = .ok (.invokevirtual 238, 3) := by decide +kernel
theorem dX12_told_20 : decode cX12_told 20 = .ok (.iconst 1, 1) := by decide +kernel
theorem dX12_told_21 : decode cX12_told 21 = .ok (.isub, 1) := by decide +kernel
theorem dX12_told_22 : decode cX12_told 22 = .ok (.invokestatic 178, 3) := by decide +kernel
theorem dX12_told_25 : decode cX12_told 25 = .ok (.ifCond .eq 12, 3) := by decide +kernel
theorem dX12_told_28 : decode cX12_told 28 = .ok (.aload_n 0, 1) := by decide +kernel
theorem dX12_told_29 : decode cX12_told 29 = .ok (.iload_n 1, 1) := by decide +kernel
theorem dX12_told_30 : decode cX12_told 30 = .ok (.iload_n 2, 1) := by decide +kernel
theorem dX12_told_31 : decode cX12_told 31 = .ok (.invokevirtual 271, 3) := by decide +kernel
theorem dX12_valueOf_0 : decode cX12_valueOf 0 = .ok (.iload_n 2, 1) := by decide +kernel
theorem dX12_valueOf_1 : decode cX12_valueOf 1 = .ok (.aload_n 0, 1) := by decide +kernel
theorem dX12_valueOf_2 : decode cX12_valueOf 2 = .ok (.getfield 45, 3) := by decide +kernel
theorem dX12_valueOf_5 : decode cX12_valueOf 5 = .ok (.iload_n 1, 1) := by decide +kernel
theorem dX12_valueOf_6 : decode cX12_valueOf 6 = .ok (.iaload, 1) := by decide +kernel
theorem dX12_valueOf_7 : decode cX12_valueOf 7 = .ok (.if_icmp .ge 15, 3) := by decide +kernel
theorem dX12_valueOf_10 : decode cX12_valueOf 10 = .ok (.aload_n 0, 1) := by decide +kernel
theorem dX12_valueOf_11 : decode cX12_valueOf 11 = .ok (.getfield 48, 3) := by decide +kernel
theorem dX12_valueOf_14 : decode cX12_valueOf 14 = .ok (.bipush 16, 2) := by decide +kernel
theorem dX12_valueOf_16 : decode cX12_valueOf 16 = .ok (.iload_n 1, 1) := by decide +kernel
theorem dX12_valueOf_17 : decode cX12_valueOf 17 = .ok (.imul, 1) := by decide +kernel
theorem dX12_valueOf_18 : decode cX12_valueOf 18 = .ok (.iload_n 2, 1) := by decide +kernel
theorem dX12_valueOf_19 : decode cX12_valueOf 19 = .ok (.iadd, 1) := by decide +kernel
theorem dX12_valueOf_20 : decode cX12_valueOf 20 = .ok (.iaload, 1) := by decide +kernel
theorem dX12_valueOf_21 : decode cX12_valueOf 21 = .ok (.ireturn, 1) := by decide +kernel
theorem dX12_valueOf_22 : decode cX12_valueOf 22 = .ok (.aload_n 0, 1) := by decide +kernel
theorem dX12_valueOf_23 : decode cX12_valueOf 23 = .ok (.iload_n 1, 1) := by decide +kernel
theorem dX12_valueOf_24 : decode cX12_valueOf 24 = .ok (.aload_n 0, 1) := by decide +kernel
theorem dX12_valueOf_25 : decode cX12_valueOf 25 = .ok (.getfield 63, 3) := by decide +kernel
theorem dX12_valueOf_28 : decode cX12_valueOf 28 = .ok (.iconst 4, 1) := by decide +kernel
theorem dX12_valueOf_29 : decode cX12_valueOf 29 = .ok (.iload_n 1, 1) := by decide +kernel
theorem dX12_valueOf_30 : decode cX12_valueOf 30 = .ok (.imul, 1) := by decide +kernel
theorem dX12_valueOf_31 : decode cX12_valueOf 31 = .ok (.iload_n 2, 1) := by decide +kernel
theorem dX12_valueOf_32 : decode cX12_valueOf 32 = .ok (.iadd, 1) := by decide +kernel
theorem dX12_valueOf_33 : decode cX12_valueOf 33 = .ok (.aload_n 0, 1) := by decide +kernel
theorem dX12_valueOf_34 : decode cX12_valueOf 34 = .ok (.getfield 45, 3) := by decide +kernel
theorem dX12_valueOf_37 : decode cX12_valueOf 37 = .ok (.iload_n 1, 1) := by decide +kernel
theorem dX12_valueOf_38 : decode cX12_valueOf 38 = .ok (.iaload, 1) := by decide +kernel
theorem dX12_valueOf_39 : decode cX12_valueOf 39 = .ok (.isub, 1) := by decide +kernel
theorem dX12_valueOf_40 : decode cX12_valueOf 40 = .ok (.iaload, 1) := by decide +kernel
theorem dX12_valueOf_41 : decode cX12_valueOf 41 = .ok (.invokevirtual 223, 3) := by decide +kernel
theorem dX12_valueOf_44 : decode cX12_valueOf 44 = .ok (.ireturn, 1) := by decide +kernel
set_option maxHeartbeats 4000000 in
set_option maxRecDepth 100000 in
theorem s_X12_valueOf {P : PP} {a0 : Nat} {a1 : Int32} {a2 : Int32} (I : IM P a0) (ha1 : 0 ≤ a1.toInt ∧ a1.toInt ≤ 1) (ha2 : 0 ≤ a2.toInt ∧ a2.toInt ≤ 19) (hW : MW P a0) (hv : ∀ b c, pR P a0 10 = some b → pR P a0 15 = some c → a2.toInt < (pI P b (a1.toInt.toNat)).toInt + (pI P c (a1.toInt.toNat)).toInt) : CtrI yX12_valueOf cX12_valueOf 3 (some Jvm.ClassFile.FieldType.int) ({ frames := 2, cells := 0, slots := 0, locals := 128 } : Room) 0 0 P [.ref a0, .int a1, .int a2] (fun r P2 => P = P2 ∧ (True)) := by
  refine enI (lv := [(0, .ref a0), (1, .int a1), (2, .int a2)]) (by decide) (Nat.le_of_ble_eq_true rfl) rfl (fun E D cy C Ci0 ret => ?_)
  have ha0 := I.2.1
  refine g_iload_n C dX12_valueOf_0 rfl 2 rfl ?_
  refine g_aload_n C dX12_valueOf_1 rfl 0 rfl ?_
  obtain ⟨b105832, e105833, h105834⟩ := I.fld (ha0) 10 13 2 rfl
  refine g_getR C fi_X12_45 rfl e105833 (ha0).1 (ha0).2 dX12_valueOf_2 ?_
  refine g_iload_n C dX12_valueOf_5 rfl 1 rfl ?_
  refine g_iald (j := (a1.toInt.toNat)) C h105834.1 h105834.2.1 (ix_in h105834.2.2 (by omega)) dX12_valueOf_6 ?_
  have h105835 := I.arr e105833 rfl (a1.toInt.toNat)
  refine b_icmp_ge C 22 dX12_valueOf_7 (by decide) (fun h105836 => ?_) (fun h105836 => ?_)
  · have h105836 : (pI P b105832 (a1.toInt.toNat)).toInt ≤ a2.toInt := h105836
    obtain ⟨b105837, e105838, h105839⟩ := I.fld (ha0) 15 13 3 rfl
    have hv := hv b105832 b105837 e105833 e105838
    have h105840 := I.arr e105838 rfl (a1.toInt.toNat)
    refine g_aload_n C dX12_valueOf_22 rfl 0 rfl ?_
    refine g_iload_n C dX12_valueOf_23 rfl 1 rfl ?_
    refine g_aload_n C dX12_valueOf_24 rfl 0 rfl ?_
    obtain ⟨b105841, e105842, h105843⟩ := I.fld (ha0) 16 13 12 rfl
    refine g_getR C fi_X12_63 rfl e105842 (ha0).1 (ha0).2 dX12_valueOf_25 ?_
    refine g_iconst (v := 4) C dX12_valueOf_28 (by decide) ?_
    refine g_iload_n C dX12_valueOf_29 rfl 1 rfl ?_
    refine s_imul C dX12_valueOf_30 (by show -2147483648 ≤ 4 * a1.toInt ∧ 4 * a1.toInt ≤ 2147483647; omega) (fun z105844 h105845 => ?_)
    have h105845 : z105844.toInt = 4 * a1.toInt := h105845
    refine g_iload_n C dX12_valueOf_31 rfl 2 rfl ?_
    refine s_iadd C dX12_valueOf_32 (by show -2147483648 ≤ z105844.toInt + a2.toInt ∧ z105844.toInt + a2.toInt ≤ 2147483647; omega) (fun z105846 h105847 => ?_)
    have h105847 : z105846.toInt = z105844.toInt + a2.toInt := h105847
    refine g_aload_n C dX12_valueOf_33 rfl 0 rfl ?_
    refine g_getR C fi_X12_45 rfl e105833 (ha0).1 (ha0).2 dX12_valueOf_34 ?_
    refine g_iload_n C dX12_valueOf_37 rfl 1 rfl ?_
    refine g_iald (j := (a1.toInt.toNat)) C h105834.1 h105834.2.1 (ix_in h105834.2.2 (by omega)) dX12_valueOf_38 ?_
    refine s_isub C dX12_valueOf_39 (by show -2147483648 ≤ z105846.toInt - (pI P b105832 (a1.toInt.toNat)).toInt ∧ z105846.toInt - (pI P b105832 (a1.toInt.toNat)).toInt ≤ 2147483647; omega) (fun z105848 h105849 => ?_)
    have h105849 : z105848.toInt = z105846.toInt - (pI P b105832 (a1.toInt.toNat)).toInt := h105849
    refine g_iald (j := (z105848.toInt.toNat)) C h105843.1 h105843.2.1 (ix_in h105843.2.2 (by omega)) dX12_valueOf_40 ?_
    refine g_callVI (rest := []) C mv_X12_223 [.int a1, .int (pI P b105841 (z105848.toInt.toNat))] (s_X12_sumOf I (by omega) hW) (ha0).1 (ha0).2 rfl rfl (by decide) (Nat.le_of_ble_eq_true rfl) (by decide) dX12_valueOf_41 (fun r105850 Y105851 h105852 => ?_)
    obtain ⟨rfl, h105852⟩ := h105852
    have h105852 : True := h105852
    exact ret _ _ _ _ _ _ dX12_valueOf_44 rfl (by decide) (by decide) ⟨rfl, trivial⟩
  · have h105836 : a2.toInt < (pI P b105832 (a1.toInt.toNat)).toInt := h105836
    refine g_aload_n C dX12_valueOf_10 rfl 0 rfl ?_
    obtain ⟨b105853, e105854, h105855⟩ := I.fld (ha0) 11 13 32 rfl
    refine g_getR C fi_X12_48 rfl e105854 (ha0).1 (ha0).2 dX12_valueOf_11 ?_
    refine g_bipush (v := 16) C dX12_valueOf_14 (by decide) ?_
    refine g_iload_n C dX12_valueOf_16 rfl 1 rfl ?_
    refine s_imul C dX12_valueOf_17 (by show -2147483648 ≤ 16 * a1.toInt ∧ 16 * a1.toInt ≤ 2147483647; omega) (fun z105856 h105857 => ?_)
    have h105857 : z105856.toInt = 16 * a1.toInt := h105857
    refine g_iload_n C dX12_valueOf_18 rfl 2 rfl ?_
    refine s_iadd C dX12_valueOf_19 (by show -2147483648 ≤ z105856.toInt + a2.toInt ∧ z105856.toInt + a2.toInt ≤ 2147483647; omega) (fun z105858 h105859 => ?_)
    have h105859 : z105858.toInt = z105856.toInt + a2.toInt := h105859
    refine g_iald (j := (z105858.toInt.toNat)) C h105855.1 h105855.2.1 (ix_in h105855.2.2 (by omega)) dX12_valueOf_20 ?_
    exact ret _ _ _ _ _ _ dX12_valueOf_21 rfl (by decide) (by decide) ⟨rfl, trivial⟩
theorem dX12_told_34 : decode cX12_told 34 = .ok (.goto 4, 3) := by decide +kernel
theorem dX12_told_37 : decode cX12_told 37 = .ok (.iconst (-1), 1) := by decide +kernel
theorem dX12_told_38 : decode cX12_told 38 = .ok (.ireturn, 1) := by decide +kernel
set_option maxHeartbeats 4000000 in
set_option maxRecDepth 100000 in
theorem s_X12_told {P : PP} {a0 : Nat} {a1 : Int32} {a2 : Int32} (I : IM P a0) (hW : MW P a0) : CtrI yX12_told cX12_told 3 (some Jvm.ClassFile.FieldType.int) ({ frames := 3, cells := 0, slots := 0, locals := 192 } : Room) 0 0 P [.ref a0, .int a1, .int a2] (fun r P2 => IM P2 a0 ∧ EM [0] a0 P P2 ∧ MW P2 a0 ∧ (True)) := by
  refine enI (lv := [(0, .ref a0), (1, .int a1), (2, .int a2)]) (by decide) (Nat.le_of_ble_eq_true rfl) rfl (fun E D cy C Ci0 ret => ?_)
  have ha0 := I.2.1
  have J37 : ∀ (P37 : PP), (IM P37 a0) → (EM [0] a0 P P37) → (MW P37 a0) → (0 ≤ (pI P37 a0 0).toInt ∧ (pI P37 a0 0).toInt ≤ 0) → G E ({ frames := 3, cells := 0, slots := 0, locals := 192 } : Room) D cy 3 P37 0 0 37 [] [] := by
    intro P37 I37 X37 W37 hq37_0
    have h105896 := X37.at ha0
    refine g_iconst (v := (-1)) C dX12_told_37 (by decide) ?_
    exact ret _ _ _ _ _ _ dX12_told_38 rfl (by decide) (by decide) ⟨I37, X37, W37, trivial⟩
  refine g_aload_n C dX12_told_0 rfl 0 rfl ?_
  refine g_iconst (v := 0) C dX12_told_1 (by decide) ?_
  refine g_putI C fi_X12_1 rfl (ha0).1 (ha0).2 dX12_told_2 ?_
  refine gqW (ks := [0]) (I.setI (rgOk.of rfl (by decide))) (EM.setI I (by decide)) (fun Y105897 Iy105898 Xy105899 w105900  => ?_)
  have w105900 : (pI Y105897 a0 0).toInt = 0 := w105900
  have W105901 := hW.keep I Xy105899 (by decide) (by decide) (by decide) (by decide)
  have Xz105902 : EM [0] a0 P Y105897 := Xy105899.mono (by decide)
  have h105903 := Xy105899.at ha0
  refine g_aload_n C dX12_told_5 rfl 0 rfl ?_
  refine g_iload_n C dX12_told_6 rfl 1 rfl ?_
  refine g_callVI (rest := []) C mv_X12_192 [.int a1] (s_X12_isBook Iy105898 W105901) (h105903).1 (h105903).2 rfl rfl (by decide) (Nat.le_of_ble_eq_true rfl) (by decide) dX12_told_7 (fun r105904 Y105905 h105906 => ?_)
  obtain ⟨rfl, h105906⟩ := h105906
  obtain ⟨h105906, hi105907, hi105908⟩ := h105906
  have hi105907 : r105904.toInt = 0 ∨ (((0 : Int) ≤ a1.toInt ∧ a1.toInt ≤ (1 : Int))) := hi105907
  have h105906 : 0 ≤ r105904.toInt ∧ r105904.toInt ≤ 1 := h105906
  refine b_if_eq C 37 dX12_told_10 (by decide) (fun h105909 => ?_) (fun h105909 => ?_)
  · have h105909 : r105904.toInt = 0 := congrArg Int32.toInt h105909
    clear hi105907
    refine g_lv (lv' := []) [] rfl ?_
    exact J37 Y105897 Iy105898 Xz105902 W105901 (by omega)
  · have h105909 : r105904.toInt ≠ 0 := ti_ne h105909
    replace hi105907 := hi105907.resolve_left (by omega)
    obtain ⟨b105910, e105911, h105912⟩ := Iy105898.fld (h105903) 10 13 2 rfl
    have hi105908 := (hi105908.resolve_left (by omega)) b105910 e105911
    have hi105908 : 0 < (pI Y105897 b105910 (a1.toInt.toNat)).toInt := hi105908
    have h105913 := Iy105898.arr e105911 rfl (a1.toInt.toNat)
    refine g_iload_n C dX12_told_13 rfl 2 rfl ?_
    refine g_iconst (v := 0) C dX12_told_14 (by decide) ?_
    refine g_aload_n C dX12_told_15 rfl 0 rfl ?_
    refine g_iload_n C dX12_told_16 rfl 1 rfl ?_
    refine g_callVI (rest := [.int 0, .int a2]) C mv_X12_238 [.int a1] (s_X12_allOf Iy105898 (by omega) W105901) (h105903).1 (h105903).2 rfl rfl (by decide) (Nat.le_of_ble_eq_true rfl) (by decide) dX12_told_17 (fun r105914 Y105915 h105916 => ?_)
    obtain ⟨rfl, h105916⟩ := h105916
    obtain ⟨h105916, hi105917⟩ := h105916
    obtain ⟨b105918, e105919, h105920⟩ := Iy105898.fld (h105903) 15 13 3 rfl
    have hi105917 : (r105914.toInt = 0 ∧ (pI Y105897 b105910 (a1.toInt.toNat)).toInt = 0) ∨ r105914.toInt = (pI Y105897 b105910 (a1.toInt.toNat)).toInt + (pI Y105897 b105918 (a1.toInt.toNat)).toInt := hi105917 b105910 b105918 e105911 e105919
    have h105921 := Iy105898.arr e105919 rfl (a1.toInt.toNat)
    have h105916 : 0 ≤ r105914.toInt ∧ r105914.toInt ≤ 20 := h105916
    refine g_iconst (v := 1) C dX12_told_20 (by decide) ?_
    refine s_isub C dX12_told_21 (by show -2147483648 ≤ r105914.toInt - 1 ∧ r105914.toInt - 1 ≤ 2147483647; omega) (fun z105922 h105923 => ?_)
    have h105923 : z105922.toInt = r105914.toInt - 1 := h105923
    refine g_callSI (b := 0) (ci := 0) (rest := []) C ms_X12_178 [.int a2, .int 0, .int z105922] (s_X12_within Iy105898.1) rfl rfl (by decide) (Nat.le_of_ble_eq_true rfl) (by decide) dX12_told_22 (fun r105924 Y105925 h105926 => ?_)
    obtain ⟨rfl, h105926⟩ := h105926
    obtain ⟨h105926, hi105927⟩ := h105926
    have hi105927 : r105924.toInt = 0 ∨ (0 ≤ a2.toInt ∧ a2.toInt ≤ z105922.toInt) := hi105927
    have h105926 : 0 ≤ r105924.toInt ∧ r105924.toInt ≤ 1 := h105926
    refine b_if_eq C 37 dX12_told_25 (by decide) (fun h105928 => ?_) (fun h105928 => ?_)
    · have h105928 : r105924.toInt = 0 := congrArg Int32.toInt h105928
      clear hi105927
      refine g_lv (lv' := []) [] rfl ?_
      exact J37 Y105897 Iy105898 Xz105902 W105901 (by omega)
    · have h105928 : r105924.toInt ≠ 0 := ti_ne h105928
      replace hi105927 := hi105927.resolve_left (by omega)
      refine g_aload_n C dX12_told_28 rfl 0 rfl ?_
      refine g_iload_n C dX12_told_29 rfl 1 rfl ?_
      refine g_iload_n C dX12_told_30 rfl 2 rfl ?_
      refine g_callVI (rest := []) C mv_X12_271 [.int a1, .int a2] (s_X12_valueOf Iy105898 (by omega) (by omega) W105901 (fun b9 c9 e9 f9 => by rw [e105911] at e9; cases e9; rw [e105919] at f9; cases f9; show a2.toInt < (pI Y105897 b105910 (a1.toInt.toNat)).toInt + (pI Y105897 b105918 (a1.toInt.toNat)).toInt; omega)) (h105903).1 (h105903).2 rfl rfl (by decide) (Nat.le_of_ble_eq_true rfl) (by decide) dX12_told_31 (fun r105929 Y105930 h105931 => ?_)
      obtain ⟨rfl, h105931⟩ := h105931
      have h105931 : True := h105931
      refine g_goto C 38 dX12_told_34 (by decide) ?_
      exact ret _ _ _ _ _ _ dX12_told_38 rfl (by decide) (by decide) ⟨Iy105898, Xz105902, W105901, trivial⟩
theorem dX12_town_0 : decode cX12_town 0 = .ok (.aload_n 0, 1) := by decide +kernel
theorem dX12_town_1 : decode cX12_town 1 = .ok (.iconst 0, 1) := by decide +kernel
theorem dX12_town_2 : decode cX12_town 2 = .ok (.putfield 1, 3) := by decide +kernel
theorem dX12_town_5 : decode cX12_town 5 = .ok (.aload_n 0, 1) := by decide +kernel
theorem dX12_town_6 : decode cX12_town 6 = .ok (.iload_n 1, 1) := by decide +kernel
theorem dX12_town_7 : decode cX12_town 7 = .ok (.invokevirtual 192, 3) := by decide +kernel
theorem dX12_town_10 : decode cX12_town 10 = .ok (.ifCond .eq 13, 3) := by decide +kernel
theorem dX12_town_13 : decode cX12_town 13 = .ok (.iload_n 2, 1) := by decide +kernel
theorem dX12_town_14 : decode cX12_town 14 = .ok (.iconst 0, 1) := by decide +kernel
theorem dX12_town_15 : decode cX12_town 15 = .ok (.bipush 100, 2) := by decide +kernel
theorem dX12_town_17 : decode cX12_town 17 = .ok (.invokestatic 178, 3) := by decide +kernel
theorem dX12_town_20 : decode cX12_town 20 = .ok (.ifCond .ne 5, 3) := by decide +kernel
theorem dX12_town_23 : decode cX12_town 23 = .ok (.iconst (-1), 1) := by decide +kernel
theorem dX12_town_24 : decode cX12_town 24 = .ok (.ireturn, 1) := by decide +kernel
theorem dX12_town_25 : decode cX12_town 25 = .ok (.iconst 0, 1) := by decide +kernel
theorem dX12_town_26 : decode cX12_town 26 = .ok (.istore_n 3, 1) := by decide +kernel
theorem dX12_town_27 : decode cX12_town 27 = .ok (.iload_n 3, 1) := by decide +kernel
theorem dX12_town_28 : decode cX12_town 28 = .ok (.iconst 4, 1) := by decide +kernel
theorem dX12_town_29 : decode cX12_town 29 = .ok (.if_icmp .ge 21, 3) := by decide +kernel
theorem dX12_town_32 : decode cX12_town 32 = .ok (.aload_n 0, 1) := by decide +kernel
theorem dX12_town_33 : decode cX12_town 33 = .ok (.getfield 133, 3) := by decide +kernel
theorem dX12_town_36 : decode cX12_town 36 = .ok (.iload_n 3, 1) := by decide +kernel
theorem dX12_town_37 : decode cX12_town 37 = .ok (.aload_n 0, 1) := by decide +kernel
theorem dX12_town_38 : decode cX12_town 38 = .ok (.iload_n 3, 1) := by decide +kernel
theorem dX12_town_39 : decode cX12_town 39 = .ok (.iload_n 1, 1) := by decide +kernel
theorem dX12_town_40 : decode cX12_town 40 = .ok (.invokevirtual 408, 3) := by decide +kernel
theorem dX12_town_43 : decode cX12_town 43 = .ok (.iastore, 1) := by decide +kernel
theorem dX12_town_44 : decode cX12_town 44 = .ok (.iinc 3 1, 3) := by decide +kernel
theorem dX12_town_47 : decode cX12_town 47 = .ok (.goto (-20), 3) := by decide +kernel
theorem dX12_town_50 : decode cX12_town 50 = .ok (.iconst 0, 1) := by decide +kernel
theorem dX12_town_51 : decode cX12_town 51 = .ok (.istore_n 3, 1) := by decide +kernel
theorem dX12_town_52 : decode cX12_town 52 = .ok (.iload_n 3, 1) := by decide +kernel
theorem dX12_town_53 : decode cX12_town 53 = .ok (.bipush 60, 2) := by decide +kernel
theorem dX12_town_55 : decode cX12_town 55 = .ok (.if_icmp .gt 70, 3) := by decide +kernel
theorem dX12_town_58 : decode cX12_town 58 = .ok (.iconst 0, 1) := by decide +kernel
theorem dX12_town_59 : decode cX12_town 59 = .ok (.istore 4, 2) := by decide +kernel
theorem dX12_town_61 : decode cX12_town 61 = .ok (.iconst 0, 1) := by decide +kernel
theorem dX12_town_62 : decode cX12_town 62 = .ok (.istore 5, 2) := by decide +kernel
theorem dX12_town_64 : decode cX12_town 64 = .ok (.iload 5, 2) := by decide +kernel
theorem dX12_town_66 : decode cX12_town 66 = .ok (.iconst 4, 1) := by decide +kernel
theorem dX12_town_67 : decode cX12_town 67 = .ok (.if_icmp .ge 36, 3) := by decide +kernel
theorem dX12_town_70 : decode cX12_town 70 = .ok (.iload 4, 2) := by decide +kernel
theorem dX12_town_72 : decode cX12_town 72 = .ok (.aload_n 0, 1) := by decide +kernel
theorem dX12_town_73 : decode cX12_town 73 = .ok (.getfield 133, 3) := by decide +kernel
theorem dX12_town_76 : decode cX12_town 76 = .ok (.iload 5, 2) := by decide +kernel
theorem dX12_town_78 : decode cX12_town 78 = .ok (.iaload, 1) := by decide +kernel
theorem dX12_town_79 : decode cX12_town 79 = .ok (.iload_n 3, 1) := by decide +kernel
theorem dX12_town_80 : decode cX12_town 80 = .ok (.if_icmp .gt 13, 3) := by decide +kernel
theorem dX12_town_83 : decode cX12_town 83 = .ok (.aload_n 0, 1) := by decide +kernel
theorem dX12_town_84 : decode cX12_town 84 = .ok (.getfield 130, 3) := by decide +kernel
theorem dX12_town_87 : decode cX12_town 87 = .ok (.iload 5, 2) := by decide +kernel
theorem dX12_town_89 : decode cX12_town 89 = .ok (.iaload, 1) := by decide +kernel
theorem dX12_town_90 : decode cX12_town 90 = .ok (.goto 4, 3) := by decide +kernel
theorem dX12_town_93 : decode cX12_town 93 = .ok (.iconst 0, 1) := by decide +kernel
theorem dX12_town_94 : decode cX12_town 94 = .ok (.iadd, 1) := by decide +kernel
theorem dX12_town_95 : decode cX12_town 95 = .ok (.istore 4, 2) := by decide +kernel
theorem dX12_town_97 : decode cX12_town 97 = .ok (.iinc 5 1, 3) := by decide +kernel
theorem dX12_town_100 : decode cX12_town 100 = .ok (.goto (-36), 3) := by decide +kernel
theorem dX12_town_103 : decode cX12_town 103 = .ok (.bipush 100, 2) := by decide +kernel
theorem dX12_town_105 : decode cX12_town 105 = .ok (.iload 4, 2) := by decide +kernel
theorem dX12_town_107 : decode cX12_town 107 = .ok (.imul, 1) := by decide +kernel
theorem dX12_town_108 : decode cX12_town 108 = .ok (.iload_n 2, 1) := by decide +kernel
theorem dX12_town_109 : decode cX12_town 109 = .ok (.aload_n 0, 1) := by decide +kernel
theorem dX12_town_110 : decode cX12_town 110 = .ok (.invokevirtual 411, 3) := by decide +kernel
theorem dX12_town_113 : decode cX12_town 113 = .ok (.imul, 1) := by decide +kernel
theorem dX12_town_114 : decode cX12_town 114 = .ok (.if_icmp .lt 5, 3) := by decide +kernel
theorem dX12_town_117 : decode cX12_town 117 = .ok (.iload_n 3, 1) := by decide +kernel
theorem dX12_town_118 : decode cX12_town 118 = .ok (.ireturn, 1) := by decide +kernel
theorem dX12_town_119 : decode cX12_town 119 = .ok (.iinc 3 1, 3) := by decide +kernel
theorem dX12_town_122 : decode cX12_town 122 = .ok (.goto (-70), 3) := by decide +kernel
theorem dX12_town_125 : decode cX12_town 125 = .ok (.iconst (-1), 1) := by decide +kernel
theorem dX12_town_126 : decode cX12_town 126 = .ok (.ireturn, 1) := by decide +kernel
set_option maxHeartbeats 4000000 in
set_option maxRecDepth 100000 in
theorem s_X12_town {P : PP} {a0 : Nat} {a1 : Int32} {a2 : Int32} (I : IM P a0) (hW : MW P a0) : CtrI yX12_town cX12_town 6 (some Jvm.ClassFile.FieldType.int) ({ frames := 5, cells := 0, slots := 0, locals := 320 } : Room) 0 0 P [.ref a0, .int a1, .int a2] (fun r P2 => IM P2 a0 ∧ EM [0, 28, 29, 30, 31, 35, 36, 37, 38, 47] a0 P P2 ∧ MW P2 a0 ∧ (-1 ≤ r.toInt ∧ r.toInt ≤ 60)) := by
  refine enI (lv := [(0, .ref a0), (1, .int a1), (2, .int a2)]) (by decide) (Nat.le_of_ble_eq_true rfl) rfl (fun E D cy C Ci0 ret => ?_)
  have ha0 := I.2.1
  have J52 : ∀ (n52 : Nat) (P52 : PP) (v52_3 : Int32), (61 - v52_3.toInt).toNat < n52 → (IM P52 a0) → (EM [0, 28, 29, 30, 31, 35, 36, 37, 38, 47] a0 P P52) → (MW P52 a0) → (0 ≤ a2.toInt ∧ a2.toInt ≤ 100) → (0 ≤ v52_3.toInt ∧ v52_3.toInt ≤ 61) → (0 ≤ (pI P52 a0 0).toInt ∧ (pI P52 a0 0).toInt ≤ 0) → (∀ b, pR P52 a0 10 = some b → 1 ≤ (pI P52 b (a1.toInt.toNat)).toInt ∧ (pI P52 b (a1.toInt.toNat)).toInt ≤ 16) → G E ({ frames := 5, cells := 0, slots := 0, locals := 320 } : Room) D cy 6 P52 0 0 52 [(0, .ref a0), (2, .int a2), (3, .int v52_3)] [] := by
    intro n52
    induction n52 with
    | zero => intro P52 v52_3 hm52 I52 X52 W52 hv52_2 hv52_3 hq52_0 hq52_1; omega
    | succ n52 ih52 =>
      intro P52 v52_3 hm52 I52 X52 W52 hv52_2 hv52_3 hq52_0 hq52_1
      have h107050 := X52.at ha0
      obtain ⟨b107051, e107052, h107053⟩ := I52.fld (h107050) 10 13 2 rfl
      have hq52_1 := hq52_1 b107051 e107052
      have J64 : ∀ (n64 : Nat) (v64_4 : Int32) (v64_5 : Int32), (4 - v64_5.toInt).toNat < n64 → (0 ≤ a2.toInt ∧ a2.toInt ≤ 100) → (0 ≤ v52_3.toInt ∧ v52_3.toInt ≤ 60) → (0 ≤ v64_5.toInt ∧ v64_5.toInt ≤ 4) → (0 ≤ (pI P52 a0 0).toInt ∧ (pI P52 a0 0).toInt ≤ 0) → (∀ b, pR P52 a0 10 = some b → 1 ≤ (pI P52 b (a1.toInt.toNat)).toInt ∧ (pI P52 b (a1.toInt.toNat)).toInt ≤ 16) → G E ({ frames := 5, cells := 0, slots := 0, locals := 320 } : Room) D cy 6 P52 0 0 64 [(0, .ref a0), (2, .int a2), (3, .int v52_3), (4, .int v64_4), (5, .int v64_5)] [] := by
        intro n64
        induction n64 with
        | zero => intro v64_4 v64_5 hm64 hv64_2 hv64_3 hv64_5 hq64_0 hq64_1; omega
        | succ n64 ih64 =>
          intro v64_4 v64_5 hm64 hv64_2 hv64_3 hv64_5 hq64_0 hq64_1
          have h107054 := X52.at ha0
          obtain ⟨b107055, e107056, h107057⟩ := I52.fld (h107054) 10 13 2 rfl
          have hq64_1 := hq64_1 b107055 e107056
          have J94 : ∀ (v94_s0 : Int32), (0 ≤ a2.toInt ∧ a2.toInt ≤ 100) → (0 ≤ v52_3.toInt ∧ v52_3.toInt ≤ 60) → (0 ≤ v64_5.toInt ∧ v64_5.toInt ≤ 3) → (0 ≤ (pI P52 a0 0).toInt ∧ (pI P52 a0 0).toInt ≤ 0) → (∀ b, pR P52 a0 10 = some b → 1 ≤ (pI P52 b (a1.toInt.toNat)).toInt ∧ (pI P52 b (a1.toInt.toNat)).toInt ≤ 16) → (∀ b, pR P52 a0 47 = some b → (pI P52 b (v64_5.toInt.toNat)).toInt ≤ 2147483647) → G E ({ frames := 5, cells := 0, slots := 0, locals := 320 } : Room) D cy 6 P52 0 0 94 [(0, .ref a0), (2, .int a2), (3, .int v52_3), (5, .int v64_5)] [.int v94_s0, .int v64_4] := by
            intro v94_s0 hv94_2 hv94_3 hv94_5 hq94_0 hq94_1 hq94_2
            have h107058 := X52.at ha0
            obtain ⟨b107059, e107060, h107061⟩ := I52.fld (h107058) 10 13 2 rfl
            have hq94_1 := hq94_1 b107059 e107060
            obtain ⟨b107062, e107063, h107064⟩ := I52.fld (h107058) 47 13 4 rfl
            have hq94_2 := hq94_2 b107062 e107063
            refine a_iadd C dX12_town_94 (fun z107065 => ?_)
            refine g_istore (lv' := [(4, .int z107065), (0, .ref a0), (2, .int a2), (3, .int v52_3), (5, .int v64_5)]) C dX12_town_95 (by decide) rfl ?_
            refine s_iinc (lv0 := [(4, .int z107065), (0, .ref a0), (2, .int a2), (3, .int v52_3)]) (m := 1) C dX12_town_97 4 rfl (by decide) rfl (by decide) (by omega) (fun z107067 h107068 => ?_)
            have h107068 : z107067.toInt = v64_5.toInt + 1 := h107068
            refine g_goto C 64 dX12_town_100 (by decide) ?_
            refine g_lv (lv' := [(0, .ref a0), (2, .int a2), (3, .int v52_3), (4, .int z107065), (5, .int z107067)]) [2, 3, 4, 1, 0] rfl ?_
            exact ih64 z107065 z107067 (by omega) (by omega) (by omega) (by omega) (by omega) (fun b9 e9 => by rw [e107060] at e9; cases e9; omega)
          refine g_iload C dX12_town_64 4 rfl ?_
          refine g_iconst (v := 4) C dX12_town_66 (by decide) ?_
          refine b_icmp_ge C 103 dX12_town_67 (by decide) (fun h107069 => ?_) (fun h107069 => ?_)
          · have h107069 : 4 ≤ v64_5.toInt := h107069
            refine g_bipush (v := 100) C dX12_town_103 (by decide) ?_
            refine g_iload C dX12_town_105 3 rfl ?_
            refine a_imul C dX12_town_107 (fun z107070 => ?_)
            refine g_iload_n C dX12_town_108 rfl 1 rfl ?_
            refine g_aload_n C dX12_town_109 rfl 0 rfl ?_
            refine g_callVI (rest := [.int a2, .int z107070]) C mv_X12_411 [] (s_X12_allHouses I52 W52) (h107054).1 (h107054).2 rfl rfl (by decide) (Nat.le_of_ble_eq_true rfl) (by decide) dX12_town_110 (fun r107072 Y107073 h107074 => ?_)
            obtain ⟨rfl, h107074⟩ := h107074
            have h107074 : True := h107074
            refine a_imul C dX12_town_113 (fun z107075 => ?_)
            have u107078 := ti_rng z107070
            have u107079 := ti_rng z107075
            refine b_icmp_lt C 119 dX12_town_114 (by decide) (fun h107077 => ?_) (fun h107077 => ?_)
            · have h107077 : z107070.toInt < z107075.toInt := h107077
              refine s_iinc (lv0 := [(0, .ref a0), (2, .int a2), (4, .int v64_4), (5, .int v64_5)]) (m := 1) C dX12_town_119 2 rfl (by decide) rfl (by decide) (by omega) (fun z107080 h107081 => ?_)
              have h107081 : z107080.toInt = v52_3.toInt + 1 := h107081
              refine g_goto C 52 dX12_town_122 (by decide) ?_
              refine g_lv (lv' := [(0, .ref a0), (2, .int a2), (3, .int z107080)]) [1, 2, 0] rfl ?_
              exact ih52 P52 z107080 (by omega) I52 X52 W52 (by omega) (by omega) (by omega) (fun b9 e9 => by rw [e107056] at e9; cases e9; omega)
            · have h107077 : z107075.toInt ≤ z107070.toInt := h107077
              refine g_iload_n C dX12_town_117 rfl 2 rfl ?_
              exact ret _ _ _ _ _ _ dX12_town_118 rfl (by decide) (by decide) ⟨I52, X52, W52, (by omega)⟩
          · have h107069 : v64_5.toInt < 4 := h107069
            refine g_iload C dX12_town_70 3 rfl ?_
            refine g_aload_n C dX12_town_72 rfl 0 rfl ?_
            obtain ⟨b107082, e107083, h107084⟩ := I52.fld (h107054) 47 13 4 rfl
            refine g_getR C fi_X12_133 rfl e107083 (h107054).1 (h107054).2 dX12_town_73 ?_
            refine g_iload C dX12_town_76 4 rfl ?_
            refine g_iald (j := (v64_5.toInt.toNat)) C h107084.1 h107084.2.1 (ix_in h107084.2.2 (by omega)) dX12_town_78 ?_
            refine g_iload_n C dX12_town_79 rfl 2 rfl ?_
            have u107086 := ti_rng (pI P52 b107082 (v64_5.toInt.toNat))
            refine b_icmp_gt C 93 dX12_town_80 (by decide) (fun h107085 => ?_) (fun h107085 => ?_)
            · have h107085 : v52_3.toInt < (pI P52 b107082 (v64_5.toInt.toNat)).toInt := h107085
              refine g_iconst (v := 0) C dX12_town_93 (by decide) ?_
              refine g_lv (lv' := [(0, .ref a0), (2, .int a2), (3, .int v52_3), (5, .int v64_5)]) [0, 1, 2, 4] rfl ?_
              exact J94 0 (by omega) (by omega) (by omega) (by omega) (fun b9 e9 => by rw [e107056] at e9; cases e9; omega) (fun b9 e9 => by rw [e107083] at e9; cases e9; omega)
            · have h107085 : (pI P52 b107082 (v64_5.toInt.toNat)).toInt ≤ v52_3.toInt := h107085
              refine g_aload_n C dX12_town_83 rfl 0 rfl ?_
              obtain ⟨b107087, e107088, h107089⟩ := I52.fld (h107054) 46 13 4 rfl
              refine g_getR C fi_X12_130 rfl e107088 (h107054).1 (h107054).2 dX12_town_84 ?_
              refine g_iload C dX12_town_87 4 rfl ?_
              refine g_iald (j := (v64_5.toInt.toNat)) C h107089.1 h107089.2.1 (ix_in h107089.2.2 (by omega)) dX12_town_89 ?_
              refine g_goto C 94 dX12_town_90 (by decide) ?_
              refine g_lv (lv' := [(0, .ref a0), (2, .int a2), (3, .int v52_3), (5, .int v64_5)]) [0, 1, 2, 4] rfl ?_
              exact J94 (pI P52 b107087 (v64_5.toInt.toNat)) (by omega) (by omega) (by omega) (by omega) (fun b9 e9 => by rw [e107056] at e9; cases e9; omega) (fun b9 e9 => by rw [e107083] at e9; cases e9; omega)
      refine g_iload_n C dX12_town_52 rfl 2 rfl ?_
      refine g_bipush (v := 60) C dX12_town_53 (by decide) ?_
      refine b_icmp_gt C 125 dX12_town_55 (by decide) (fun h107090 => ?_) (fun h107090 => ?_)
      · have h107090 : 60 < v52_3.toInt := h107090
        refine g_iconst (v := (-1)) C dX12_town_125 (by decide) ?_
        exact ret _ _ _ _ _ _ dX12_town_126 rfl (by decide) (by decide) ⟨I52, X52, W52, (by decide)⟩
      · have h107090 : v52_3.toInt ≤ 60 := h107090
        refine g_iconst (v := 0) C dX12_town_58 (by decide) ?_
        refine g_istore (lv' := [(4, .int 0), (0, .ref a0), (2, .int a2), (3, .int v52_3)]) C dX12_town_59 (by decide) rfl ?_
        refine g_iconst (v := 0) C dX12_town_61 (by decide) ?_
        refine g_istore (lv' := [(5, .int 0), (4, .int 0), (0, .ref a0), (2, .int a2), (3, .int v52_3)]) C dX12_town_62 (by decide) rfl ?_
        refine g_lv (lv' := [(0, .ref a0), (2, .int a2), (3, .int v52_3), (4, .int 0), (5, .int 0)]) [2, 3, 4, 1, 0] rfl ?_
        exact J64 _ 0 0 (Nat.lt_succ_self _) (by omega) (by omega) (by decide) (by omega) (fun b9 e9 => by rw [e107052] at e9; cases e9; omega)
  have J27 : ∀ (n27 : Nat) (P27 : PP) (v27_3 : Int32), (4 - v27_3.toInt).toNat < n27 → (IM P27 a0) → (EM [0, 28, 29, 30, 31, 35, 36, 37, 38, 47] a0 P P27) → (MW P27 a0) → (0 ≤ a1.toInt ∧ a1.toInt ≤ 1) → (0 ≤ a2.toInt ∧ a2.toInt ≤ 100) → (0 ≤ v27_3.toInt ∧ v27_3.toInt ≤ 4) → (0 ≤ (pI P27 a0 0).toInt ∧ (pI P27 a0 0).toInt ≤ 0) → (∀ b, pR P27 a0 10 = some b → 1 ≤ (pI P27 b (a1.toInt.toNat)).toInt ∧ (pI P27 b (a1.toInt.toNat)).toInt ≤ 16) → G E ({ frames := 5, cells := 0, slots := 0, locals := 320 } : Room) D cy 6 P27 0 0 27 [(0, .ref a0), (1, .int a1), (2, .int a2), (3, .int v27_3)] [] := by
    intro n27
    induction n27 with
    | zero => intro P27 v27_3 hm27 I27 X27 W27 hv27_1 hv27_2 hv27_3 hq27_0 hq27_1; omega
    | succ n27 ih27 =>
      intro P27 v27_3 hm27 I27 X27 W27 hv27_1 hv27_2 hv27_3 hq27_0 hq27_1
      have h107091 := X27.at ha0
      obtain ⟨b107092, e107093, h107094⟩ := I27.fld (h107091) 10 13 2 rfl
      have hq27_1 := hq27_1 b107092 e107093
      refine g_iload_n C dX12_town_27 rfl 3 rfl ?_
      refine g_iconst (v := 4) C dX12_town_28 (by decide) ?_
      refine b_icmp_ge C 50 dX12_town_29 (by decide) (fun h107095 => ?_) (fun h107095 => ?_)
      · have h107095 : 4 ≤ v27_3.toInt := h107095
        refine g_iconst (v := 0) C dX12_town_50 (by decide) ?_
        refine g_istore_n (lv' := [(3, .int 0), (0, .ref a0), (1, .int a1), (2, .int a2)]) C dX12_town_51 rfl (by decide) rfl ?_
        refine g_lv (lv' := [(0, .ref a0), (2, .int a2), (3, .int 0)]) [1, 3, 0] rfl ?_
        exact J52 _ P27 0 (Nat.lt_succ_self _) I27 X27 W27 (by omega) (by decide) (by omega) (fun b9 e9 => by rw [e107093] at e9; cases e9; omega)
      · have h107095 : v27_3.toInt < 4 := h107095
        refine g_aload_n C dX12_town_32 rfl 0 rfl ?_
        obtain ⟨b107096, e107097, h107098⟩ := I27.fld (h107091) 47 13 4 rfl
        refine g_getR C fi_X12_133 rfl e107097 (h107091).1 (h107091).2 dX12_town_33 ?_
        refine g_iload_n C dX12_town_36 rfl 3 rfl ?_
        refine g_aload_n C dX12_town_37 rfl 0 rfl ?_
        refine g_iload_n C dX12_town_38 rfl 3 rfl ?_
        refine g_iload_n C dX12_town_39 rfl 1 rfl ?_
        refine g_callVI (rest := [.int v27_3, .ref b107096]) C mv_X12_408 [.int v27_3, .int a1] (s_X12_needsOf I27 (by omega) (by omega) (fun b9 e9 => by rw [e107093] at e9; cases e9; show 1 ≤ (pI P27 b107092 (a1.toInt.toNat)).toInt ∧ (pI P27 b107092 (a1.toInt.toNat)).toInt ≤ 16; omega) W27) (h107091).1 (h107091).2 rfl rfl (by decide) (Nat.le_of_ble_eq_true rfl) (by decide) dX12_town_40 (fun r107099 Y107100 h107101 => ?_)
        obtain ⟨Iy107102, Xy107103, W107104, h107101⟩ := h107101
        have q107105 := Xy107103.keepF 0 (by decide)
        have q107106 := Xy107103.keepA e107093 (by decide) rfl (a1.toInt.toNat)
        have Xz107107 : EM [0, 28, 29, 30, 31, 35, 36, 37, 38, 47] a0 P Y107100 := EM.tr ha0 X27 (Xy107103.mono (by decide))
        have e107108 := Xy107103.ref h107091 (by decide) e107093
        have e107109 := Xy107103.ref h107091 (by decide) e107097
        have h107110 := Xy107103.at h107091
        have h107111 := Xy107103.ar h107094
        have h107112 := Xy107103.ar h107098
        have h107101 : 0 ≤ r107099.toInt ∧ r107099.toInt ≤ 61 := h107101
        refine g_iast (j := (v27_3.toInt.toNat)) C h107112.1 h107112.2.1 (ix_in h107112.2.2 (by omega)) dX12_town_43 ?_
        refine gqW (ks := [47]) (Iy107102.setA e107109 h107112 (by decide) (arOk.none rfl)) (EM.setA Iy107102 e107109 rfl (by decide)) (fun Y107113 Iy107114 Xy107115 w107116  => ?_)
        have w107116 : (pI Y107113 b107096 (v27_3.toInt.toNat)).toInt = r107099.toInt := w107116
        have q107117 := Xy107115.keepF 0 (by decide)
        have q107118 := Xy107115.keepA e107108 (by decide) rfl (a1.toInt.toNat)
        have W107119 := W107104.keep Iy107102 Xy107115 (by decide) (by decide) (by decide) (by decide)
        have Xz107120 : EM [0, 28, 29, 30, 31, 35, 36, 37, 38, 47] a0 P Y107113 := EM.tr ha0 Xz107107 (Xy107115.mono (by decide))
        have e107121 := Xy107115.ref h107110 (by decide) e107108
        have e107122 := Xy107115.ref h107110 (by decide) e107109
        have h107123 := Xy107115.at h107110
        have h107124 := Xy107115.ar h107111
        have h107125 := Xy107115.ar h107112
        refine s_iinc (lv0 := [(0, .ref a0), (1, .int a1), (2, .int a2)]) (m := 1) C dX12_town_44 3 rfl (by decide) rfl (by decide) (by omega) (fun z107126 h107127 => ?_)
        have h107127 : z107126.toInt = v27_3.toInt + 1 := h107127
        refine g_goto C 27 dX12_town_47 (by decide) ?_
        refine g_lv (lv' := [(0, .ref a0), (1, .int a1), (2, .int a2), (3, .int z107126)]) [1, 2, 3, 0] rfl ?_
        exact ih27 Y107113 z107126 (by omega) Iy107114 Xz107120 W107119 (by omega) (by omega) (by omega) (by omega) (fun b9 e9 => by rw [e107121] at e9; cases e9; omega)
  have J23 : ∀ (P23 : PP), (IM P23 a0) → (EM [0, 28, 29, 30, 31, 35, 36, 37, 38, 47] a0 P P23) → (MW P23 a0) → (0 ≤ (pI P23 a0 0).toInt ∧ (pI P23 a0 0).toInt ≤ 0) → G E ({ frames := 5, cells := 0, slots := 0, locals := 320 } : Room) D cy 6 P23 0 0 23 [] [] := by
    intro P23 I23 X23 W23 hq23_0
    have h107128 := X23.at ha0
    refine g_iconst (v := (-1)) C dX12_town_23 (by decide) ?_
    exact ret _ _ _ _ _ _ dX12_town_24 rfl (by decide) (by decide) ⟨I23, X23, W23, (by decide)⟩
  refine g_aload_n C dX12_town_0 rfl 0 rfl ?_
  refine g_iconst (v := 0) C dX12_town_1 (by decide) ?_
  refine g_putI C fi_X12_1 rfl (ha0).1 (ha0).2 dX12_town_2 ?_
  refine gqW (ks := [0]) (I.setI (rgOk.of rfl (by decide))) (EM.setI I (by decide)) (fun Y107129 Iy107130 Xy107131 w107132  => ?_)
  have w107132 : (pI Y107129 a0 0).toInt = 0 := w107132
  have W107133 := hW.keep I Xy107131 (by decide) (by decide) (by decide) (by decide)
  have Xz107134 : EM [0, 28, 29, 30, 31, 35, 36, 37, 38, 47] a0 P Y107129 := Xy107131.mono (by decide)
  have h107135 := Xy107131.at ha0
  refine g_aload_n C dX12_town_5 rfl 0 rfl ?_
  refine g_iload_n C dX12_town_6 rfl 1 rfl ?_
  refine g_callVI (rest := []) C mv_X12_192 [.int a1] (s_X12_isBook Iy107130 W107133) (h107135).1 (h107135).2 rfl rfl (by decide) (Nat.le_of_ble_eq_true rfl) (by decide) dX12_town_7 (fun r107136 Y107137 h107138 => ?_)
  obtain ⟨rfl, h107138⟩ := h107138
  obtain ⟨h107138, hi107139, hi107140⟩ := h107138
  have hi107139 : r107136.toInt = 0 ∨ (((0 : Int) ≤ a1.toInt ∧ a1.toInt ≤ (1 : Int))) := hi107139
  have h107138 : 0 ≤ r107136.toInt ∧ r107136.toInt ≤ 1 := h107138
  refine b_if_eq C 23 dX12_town_10 (by decide) (fun h107141 => ?_) (fun h107141 => ?_)
  · have h107141 : r107136.toInt = 0 := congrArg Int32.toInt h107141
    clear hi107139
    refine g_lv (lv' := []) [] rfl ?_
    exact J23 Y107129 Iy107130 Xz107134 W107133 (by omega)
  · have h107141 : r107136.toInt ≠ 0 := ti_ne h107141
    replace hi107139 := hi107139.resolve_left (by omega)
    obtain ⟨b107142, e107143, h107144⟩ := Iy107130.fld (h107135) 10 13 2 rfl
    have hi107140 := (hi107140.resolve_left (by omega)) b107142 e107143
    have hi107140 : 0 < (pI Y107129 b107142 (a1.toInt.toNat)).toInt := hi107140
    have h107145 := Iy107130.arr e107143 rfl (a1.toInt.toNat)
    refine g_iload_n C dX12_town_13 rfl 2 rfl ?_
    refine g_iconst (v := 0) C dX12_town_14 (by decide) ?_
    refine g_bipush (v := 100) C dX12_town_15 (by decide) ?_
    refine g_callSI (b := 0) (ci := 0) (rest := []) C ms_X12_178 [.int a2, .int 0, .int 100] (s_X12_within Iy107130.1) rfl rfl (by decide) (Nat.le_of_ble_eq_true rfl) (by decide) dX12_town_17 (fun r107146 Y107147 h107148 => ?_)
    obtain ⟨rfl, h107148⟩ := h107148
    obtain ⟨h107148, hi107149⟩ := h107148
    have hi107149 : r107146.toInt = 0 ∨ (0 ≤ a2.toInt ∧ a2.toInt ≤ 100) := hi107149
    have h107148 : 0 ≤ r107146.toInt ∧ r107146.toInt ≤ 1 := h107148
    refine b_if_ne C 25 dX12_town_20 (by decide) (fun h107150 => ?_) (fun h107150 => ?_)
    · have h107150 : r107146.toInt ≠ 0 := ti_ne h107150
      replace hi107149 := hi107149.resolve_left (by omega)
      refine g_iconst (v := 0) C dX12_town_25 (by decide) ?_
      refine g_istore_n (lv' := [(3, .int 0), (0, .ref a0), (1, .int a1), (2, .int a2)]) C dX12_town_26 rfl (by decide) rfl ?_
      refine g_lv (lv' := [(0, .ref a0), (1, .int a1), (2, .int a2), (3, .int 0)]) [1, 2, 3, 0] rfl ?_
      exact J27 _ Y107129 0 (Nat.lt_succ_self _) Iy107130 Xz107134 W107133 (by omega) (by omega) (by decide) (by omega) (fun b9 e9 => by rw [e107143] at e9; cases e9; omega)
    · have h107150 : r107146.toInt = 0 := congrArg Int32.toInt h107150
      clear hi107149
      refine g_lv (lv' := []) [] rfl ?_
      exact J23 Y107129 Iy107130 Xz107134 W107133 (by omega)
