theorem dX12_degree_0 : decode cX12_degree 0 = .ok (.aload_n 0, 1) := by decide +kernel
theorem dX12_degree_1 : decode cX12_degree 1 = .ok (.iconst 0, 1) := by decide +kernel
theorem dX12_degree_2 : decode cX12_degree 2 = .ok (.putfield 1, 3) := by decide +kernel
theorem dX12_degree_5 : decode cX12_degree 5 = .ok (.aload_n 0, 1) := by decide +kernel
theorem dX12_degree_6 : decode cX12_degree 6 = .ok (.iload_n 1, 1) := by decide +kernel
theorem dX12_degree_7 : decode cX12_degree 7 = .ok (.iload_n 2, 1) := by decide +kernel
theorem dX12_degree_8 : decode cX12_degree 8 = .ok (.iload 4, 2) := by decide +kernel
theorem dX12_degree_10 : decode cX12_degree 10 = .ok (.invokevirtual 377, 3) := by decide +kernel
theorem dX12_degree_13 : decode cX12_degree 13 = .ok (.ifCond .eq 12, 3) := by decide +kernel
theorem dX12_degree_16 : decode cX12_degree 16 = .ok (.iload_n 3, 1) := by decide +kernel
theorem dX12_degree_17 : decode cX12_degree 17 = .ok (.iconst 0, 1) := by decide +kernel
theorem dX12_degree_18 : decode cX12_degree 18 = .ok (.iload_n 2, 1) := by decide +kernel
theorem dX12_degree_19 : decode cX12_degree 19 = .ok (.invokestatic 178, 3) := by decide +kernel
theorem dX12_degree_22 : decode cX12_degree 22 = .ok (.ifCond .ne 5, 3) := by decide +kernel
theorem dX12_degree_25 : decode cX12_degree 25 = .ok (.iconst (-1), 1) := by decide +kernel
theorem dX12_degree_26 : decode cX12_degree 26 = .ok (.ireturn, 1) := by decide +kernel
theorem dX12_degree_27 : decode cX12_degree 27 = .ok (.iconst 0, 1) := by decide +kernel
theorem dX12_degree_28 : decode cX12_degree 28 = .ok (.istore 5, 2) := by decide +kernel
theorem dX12_degree_30 : decode cX12_degree 30 = .ok (.iload 5, 2) := by decide +kernel
theorem dX12_degree_32 : decode cX12_degree 32 = .ok (.bipush 21, 2) := by decide +kernel
theorem dX12_degree_34 : decode cX12_degree 34 = .ok (.if_icmp .ge 41, 3) := by decide +kernel
theorem dX12_degree_37 : decode cX12_degree 37 = .ok (.aload_n 0, 1) := by decide +kernel
theorem dX12_degree_38 : decode cX12_degree 38 = .ok (.getfield 124, 3) := by decide +kernel
theorem dX12_degree_41 : decode cX12_degree 41 = .ok (.iload 5, 2) := by decide +kernel
theorem dX12_degree_43 : decode cX12_degree 43 = .ok (.aload_n 0, 1) := by decide +kernel
theorem dX12_degree_44 : decode cX12_degree 44 = .ok (.getfield 51, 3) := by decide +kernel
theorem dX12_degree_47 : decode cX12_degree 47 = .ok (.bipush 21, 2) := by decide +kernel
theorem dX12_degree_49 : decode cX12_degree 49 = .ok (.iload_n 1, 1) := by decide +kernel
theorem dX12_degree_50 : decode cX12_degree 50 = .ok (.imul, 1) := by decide +kernel
theorem dX12_degree_51 : decode cX12_degree 51 = .ok (.iload 5, 2) := by decide +kernel
theorem dX12_degree_53 : decode cX12_degree 53 = .ok (.iadd, 1) := by decide +kernel
theorem dX12_degree_54 : decode cX12_degree 54 = .ok (.iaload, 1) := by decide +kernel
theorem dX12_degree_55 : decode cX12_degree 55 = .ok (.iastore, 1) := by decide +kernel
theorem dX12_degree_56 : decode cX12_degree 56 = .ok (.aload_n 0, 1) := by decide +kernel
theorem dX12_degree_57 : decode cX12_degree 57 = .ok (.getfield 51, 3) := by decide +kernel
theorem dX12_degree_60 : decode cX12_degree 60 = .ok (.bipush 21, 2) := by decide +kernel
theorem dX12_degree_62 : decode cX12_degree 62 = .ok (.iload_n 1, 1) := by decide +kernel
theorem dX12_degree_63 : decode cX12_degree 63 = .ok (.imul, 1) := by decide +kernel
theorem dX12_degree_64 : decode cX12_degree 64 = .ok (.iload 5, 2) := by decide +kernel
theorem dX12_degree_66 : decode cX12_degree 66 = .ok (.iadd, 1) := by decide +kernel
theorem dX12_degree_67 : decode cX12_degree 67 = .ok (.iconst (-1), 1) := by decide +kernel
theorem dX12_degree_68 : decode cX12_degree 68 = .ok (.iastore, 1) := by decide +kernel
theorem dX12_degree_69 : decode cX12_degree 69 = .ok (.iinc 5 1, 3) := by decide +kernel
theorem dX12_degree_72 : decode cX12_degree 72 = .ok (.goto (-42), 3) := by decide +kernel
theorem dX12_degree_75 : decode cX12_degree 75 = .ok (.iconst (-1), 1) := by decide +kernel
theorem dX12_degree_76 : decode cX12_degree 76 = .ok (.istore 5, 2) := by decide +kernel
theorem dX12_degree_78 : decode cX12_degree 78 = .ok (.iconst (-1), 1) := by decide +kernel
theorem dX12_degree_79 : decode cX12_degree 79 = .ok (.istore 6, 2) := by decide +kernel
theorem dX12_degree_81 : decode cX12_degree 81 = .ok (.iconst 1, 1) := by decide +kernel
theorem dX12_degree_82 : decode cX12_degree 82 = .ok (.istore 7, 2) := by decide +kernel
theorem dX12_degree_84 : decode cX12_degree 84 = .ok (.iload 7, 2) := by decide +kernel
theorem dX12_degree_86 : decode cX12_degree 86 = .ok (.aload_n 0, 1) := by decide +kernel
theorem dX12_degree_87 : decode cX12_degree 87 = .ok (.iload_n 1, 1) := by decide +kernel
theorem dX12_degree_88 : decode cX12_degree 88 = .ok (.invokevirtual 238, 3) := by decide +kernel
theorem dX12_degree_91 : decode cX12_degree 91 = .ok (.if_icmp .gt 67, 3) := by decide +kernel
theorem dX12_degree_94 : decode cX12_degree 94 = .ok (.aload_n 0, 1) := by decide +kernel
theorem dX12_degree_95 : decode cX12_degree 95 = .ok (.getfield 51, 3) := by decide +kernel
theorem dX12_degree_98 : decode cX12_degree 98 = .ok (.bipush 21, 2) := by decide +kernel
theorem dX12_degree_100 : decode cX12_degree 100 = .ok (.iload_n 1, 1) := by decide +kernel
theorem dX12_degree_101 : decode cX12_degree 101 = .ok (.imul, 1) := by decide +kernel
theorem dX12_degree_102 : decode cX12_degree 102 = .ok (.iload 7, 2) := by decide +kernel
theorem dX12_degree_104 : decode cX12_degree 104 = .ok (.iadd, 1) := by decide +kernel
theorem dX12_degree_105 : decode cX12_degree 105 = .ok (.iconst 1, 1) := by decide +kernel
theorem dX12_degree_106 : decode cX12_degree 106 = .ok (.iastore, 1) := by decide +kernel
theorem dX12_degree_107 : decode cX12_degree 107 = .ok (.aload_n 0, 1) := by decide +kernel
theorem dX12_degree_108 : decode cX12_degree 108 = .ok (.iload_n 1, 1) := by decide +kernel
theorem dX12_degree_109 : decode cX12_degree 109 = .ok (.iload_n 2, 1) := by decide +kernel
theorem dX12_degree_110 : decode cX12_degree 110 = .ok (.invokevirtual 380, 3) := by decide +kernel
theorem dX12_degree_113 : decode cX12_degree 113 = .ok (.aload_n 0, 1) := by decide +kernel
theorem dX12_degree_114 : decode cX12_degree 114 = .ok (.iload_n 1, 1) := by decide +kernel
theorem dX12_degree_115 : decode cX12_degree 115 = .ok (.iload_n 2, 1) := by decide +kernel
theorem dX12_degree_116 : decode cX12_degree 116 = .ok (.iload_n 3, 1) := by decide +kernel
theorem dX12_degree_117 : decode cX12_degree 117 = .ok (.iload 4, 2) := by decide +kernel
theorem dX12_degree_119 : decode cX12_degree 119 = .ok (.invokevirtual 383, 3) := by decide +kernel
theorem dX12_degree_122 : decode cX12_degree 122 = .ok (.istore 8, 2) := by decide +kernel
theorem dX12_degree_124 : decode cX12_degree 124 = .ok (.aload_n 0, 1) := by decide +kernel
theorem dX12_degree_125 : decode cX12_degree 125 = .ok (.getfield 51, 3) := by decide +kernel
theorem dX12_degree_128 : decode cX12_degree 128 = .ok (.bipush 21, 2) := by decide +kernel
theorem dX12_degree_130 : decode cX12_degree 130 = .ok (.iload_n 1, 1) := by decide +kernel
theorem dX12_degree_131 : decode cX12_degree 131 = .ok (.imul, 1) := by decide +kernel
theorem dX12_degree_132 : decode cX12_degree 132 = .ok (.iload 7, 2) := by decide +kernel
theorem dX12_degree_134 : decode cX12_degree 134 = .ok (.iadd, 1) := by decide +kernel
theorem dX12_degree_135 : decode cX12_degree 135 = .ok (.iconst (-1), 1) := by decide +kernel
theorem dX12_degree_136 : decode cX12_degree 136 = .ok (.iastore, 1) := by decide +kernel
theorem dX12_degree_137 : decode cX12_degree 137 = .ok (.iload 8, 2) := by decide +kernel
theorem dX12_degree_139 : decode cX12_degree 139 = .ok (.iload 6, 2) := by decide +kernel
theorem dX12_degree_141 : decode cX12_degree 141 = .ok (.if_icmp .le 11, 3) := by decide +kernel
theorem dX12_degree_144 : decode cX12_degree 144 = .ok (.iload 8, 2) := by decide +kernel
theorem dX12_degree_146 : decode cX12_degree 146 = .ok (.istore 6, 2) := by decide +kernel
theorem dX12_degree_148 : decode cX12_degree 148 = .ok (.iload 7, 2) := by decide +kernel
theorem dX12_degree_150 : decode cX12_degree 150 = .ok (.istore 5, 2) := by decide +kernel
theorem dX12_degree_152 : decode cX12_degree 152 = .ok (.iinc 7 1, 3) := by decide +kernel
theorem dX12_degree_155 : decode cX12_degree 155 = .ok (.goto (-71), 3) := by decide +kernel
theorem dX12_degree_158 : decode cX12_degree 158 = .ok (.iconst 0, 1) := by decide +kernel
theorem dX12_degree_159 : decode cX12_degree 159 = .ok (.istore 7, 2) := by decide +kernel
theorem dX12_degree_161 : decode cX12_degree 161 = .ok (.iload 7, 2) := by decide +kernel
theorem dX12_degree_163 : decode cX12_degree 163 = .ok (.bipush 21, 2) := by decide +kernel
theorem dX12_degree_165 : decode cX12_degree 165 = .ok (.if_icmp .ge 28, 3) := by decide +kernel
theorem dX12_degree_168 : decode cX12_degree 168 = .ok (.aload_n 0, 1) := by decide +kernel
theorem dX12_degree_169 : decode cX12_degree 169 = .ok (.getfield 51, 3) := by decide +kernel
theorem dX12_degree_172 : decode cX12_degree 172 = .ok (.bipush 21, 2) := by decide +kernel
theorem dX12_degree_174 : decode cX12_degree 174 = .ok (.iload_n 1, 1) := by decide +kernel
theorem dX12_degree_175 : decode cX12_degree 175 = .ok (.imul, 1) := by decide +kernel
theorem dX12_degree_176 : decode cX12_degree 176 = .ok (.iload 7, 2) := by decide +kernel
theorem dX12_degree_178 : decode cX12_degree 178 = .ok (.iadd, 1) := by decide +kernel
theorem dX12_degree_179 : decode cX12_degree 179 = .ok (.aload_n 0, 1) := by decide +kernel
theorem dX12_degree_180 : decode cX12_degree 180 = .ok (.getfield 124, 3) := by decide +kernel
theorem dX12_degree_183 : decode cX12_degree 183 = .ok (.iload 7, 2) := by decide +kernel
theorem dX12_degree_185 : decode cX12_degree 185 = .ok (.iaload, 1) := by decide +kernel
theorem dX12_degree_186 : decode cX12_degree 186 = .ok (.iastore, 1) := by decide +kernel
theorem dX12_degree_187 : decode cX12_degree 187 = .ok (.iinc 7 1, 3) := by decide +kernel
theorem dX12_degree_190 : decode cX12_degree 190 = .ok (.goto (-29), 3) := by decide +kernel
theorem dX12_degree_193 : decode cX12_degree 193 = .ok (.iload 5, 2) := by decide +kernel
theorem dX12_degree_195 : decode cX12_degree 195 = .ok (.ireturn, 1) := by decide +kernel
set_option maxHeartbeats 4000000 in
set_option maxRecDepth 100000 in
theorem s_X12_degree {P : PP} {a0 : Nat} {a1 : Int32} {a2 : Int32} {a3 : Int32} {a4 : Int32} (I : IM P a0) (hW : MW P a0) : CtrI yX12_degree cX12_degree 9 (some Jvm.ClassFile.FieldType.int) ({ frames := 5, cells := 0, slots := 0, locals := 320 } : Room) 0 0 P [.ref a0, .int a1, .int a2, .int a3, .int a4] (fun r P2 => IM P2 a0 ∧ EM [0, 12, 28, 29, 30, 31, 33, 34, 35, 36, 37, 38, 43, 44] a0 P P2 ∧ MW P2 a0 ∧ (-1 ≤ r.toInt ∧ r.toInt ≤ 20)) := by
  refine enI (lv := [(0, .ref a0), (1, .int a1), (2, .int a2), (3, .int a3), (4, .int a4)]) (by decide) (Nat.le_of_ble_eq_true rfl) rfl (fun E D cy C Ci0 ret => ?_)
  have ha0 := I.2.1
  have J161 : ∀ (n161 : Nat) (P161 : PP) (v161_5 : Int32) (v161_7 : Int32), (21 - v161_7.toInt).toNat < n161 → (IM P161 a0) → (EM [0, 12, 28, 29, 30, 31, 33, 34, 35, 36, 37, 38, 43, 44] a0 P P161) → (MW P161 a0) → (0 ≤ a1.toInt ∧ a1.toInt ≤ 1) → (-1 ≤ v161_5.toInt ∧ v161_5.toInt ≤ 20) → (0 ≤ v161_7.toInt ∧ v161_7.toInt ≤ 21) → (0 ≤ (pI P161 a0 0).toInt ∧ (pI P161 a0 0).toInt ≤ 0) → (∀ b, pR P161 a0 10 = some b → 1 ≤ (pI P161 b (a1.toInt.toNat)).toInt ∧ (pI P161 b (a1.toInt.toNat)).toInt ≤ 16) → G E ({ frames := 5, cells := 0, slots := 0, locals := 320 } : Room) D cy 9 P161 0 0 161 [(0, .ref a0), (1, .int a1), (5, .int v161_5), (7, .int v161_7)] [] := by
    intro n161
    induction n161 with
    | zero => intro P161 v161_5 v161_7 hm161 I161 X161 W161 hv161_1 hv161_5 hv161_7 hq161_0 hq161_1; omega
    | succ n161 ih161 =>
      intro P161 v161_5 v161_7 hm161 I161 X161 W161 hv161_1 hv161_5 hv161_7 hq161_0 hq161_1
      have h57808 := X161.at ha0
      obtain ⟨b57809, e57810, h57811⟩ := I161.fld (h57808) 10 13 2 rfl
      have hq161_1 := hq161_1 b57809 e57810
      refine g_iload C dX12_degree_161 3 rfl ?_
      refine g_bipush (v := 21) C dX12_degree_163 (by decide) ?_
      refine b_icmp_ge C 193 dX12_degree_165 (by decide) (fun h57812 => ?_) (fun h57812 => ?_)
      · have h57812 : 21 ≤ v161_7.toInt := h57812
        refine g_iload C dX12_degree_193 2 rfl ?_
        exact ret _ _ _ _ _ _ dX12_degree_195 rfl (by decide) (by decide) ⟨I161, X161, W161, (by omega)⟩
      · have h57812 : v161_7.toInt < 21 := h57812
        refine g_aload_n C dX12_degree_168 rfl 0 rfl ?_
        obtain ⟨b57813, e57814, h57815⟩ := I161.fld (h57808) 12 13 63 rfl
        refine g_getR C fi_X12_51 rfl e57814 (h57808).1 (h57808).2 dX12_degree_169 ?_
        refine g_bipush (v := 21) C dX12_degree_172 (by decide) ?_
        refine g_iload_n C dX12_degree_174 rfl 1 rfl ?_
        refine s_imul C dX12_degree_175 (by show -2147483648 ≤ 21 * a1.toInt ∧ 21 * a1.toInt ≤ 2147483647; omega) (fun z57816 h57817 => ?_)
        have h57817 : z57816.toInt = 21 * a1.toInt := h57817
        refine g_iload C dX12_degree_176 3 rfl ?_
        refine s_iadd C dX12_degree_178 (by show -2147483648 ≤ z57816.toInt + v161_7.toInt ∧ z57816.toInt + v161_7.toInt ≤ 2147483647; omega) (fun z57818 h57819 => ?_)
        have h57819 : z57818.toInt = z57816.toInt + v161_7.toInt := h57819
        refine g_aload_n C dX12_degree_179 rfl 0 rfl ?_
        obtain ⟨b57820, e57821, h57822⟩ := I161.fld (h57808) 44 13 21 rfl
        refine g_getR C fi_X12_124 rfl e57821 (h57808).1 (h57808).2 dX12_degree_180 ?_
        refine g_iload C dX12_degree_183 3 rfl ?_
        refine g_iald (j := (v161_7.toInt.toNat)) C h57822.1 h57822.2.1 (ix_in h57822.2.2 (by omega)) dX12_degree_185 ?_
        have h57823 := I161.arr e57821 rfl (v161_7.toInt.toNat)
        refine g_iast (j := (z57818.toInt.toNat)) C h57815.1 h57815.2.1 (ix_in h57815.2.2 (by omega)) dX12_degree_186 ?_
        refine gqW (ks := [12]) (I161.setA e57814 h57815 (by decide) (arOk.of rfl (by omega))) (EM.setA I161 e57814 rfl (by decide)) (fun Y57824 Iy57825 Xy57826 w57827  => ?_)
        have w57827 : (pI Y57824 b57813 (z57818.toInt.toNat)).toInt = (pI P161 b57820 (v161_7.toInt.toNat)).toInt := w57827
        have q57828 := Xy57826.keepF 0 (by decide)
        have q57829 := Xy57826.keepA e57810 (by decide) rfl (a1.toInt.toNat)
        have q57830 := Xy57826.keepA e57821 (by decide) rfl (v161_7.toInt.toNat)
        have W57831 := W161.keep I161 Xy57826 (by decide) (by decide) (by decide) (by decide)
        have Xz57832 : EM [0, 12, 28, 29, 30, 31, 33, 34, 35, 36, 37, 38, 43, 44] a0 P Y57824 := EM.tr ha0 X161 (Xy57826.mono (by decide))
        have e57833 := Xy57826.ref h57808 (by decide) e57810
        have e57834 := Xy57826.ref h57808 (by decide) e57814
        have e57835 := Xy57826.ref h57808 (by decide) e57821
        have h57836 := Xy57826.at h57808
        have h57837 := Xy57826.ar h57811
        have h57838 := Xy57826.ar h57815
        have h57839 := Xy57826.ar h57822
        refine s_iinc (lv0 := [(0, .ref a0), (1, .int a1), (5, .int v161_5)]) (m := 1) C dX12_degree_187 3 rfl (by decide) rfl (by decide) (by omega) (fun z57840 h57841 => ?_)
        have h57841 : z57840.toInt = v161_7.toInt + 1 := h57841
        refine g_goto C 161 dX12_degree_190 (by decide) ?_
        refine g_lv (lv' := [(0, .ref a0), (1, .int a1), (5, .int v161_5), (7, .int z57840)]) [1, 2, 3, 0] rfl ?_
        exact ih161 Y57824 v161_5 z57840 (by omega) Iy57825 Xz57832 W57831 (by omega) (by omega) (by omega) (by omega) (fun b9 e9 => by rw [e57833] at e9; cases e9; omega)
  have J84 : ∀ (n84 : Nat) (P84 : PP) (v84_5 : Int32) (v84_6 : Int32) (v84_7 : Int32), (21 - v84_7.toInt).toNat < n84 → (IM P84 a0) → (EM [0, 12, 28, 29, 30, 31, 33, 34, 35, 36, 37, 38, 43, 44] a0 P P84) → (MW P84 a0) → (0 ≤ a1.toInt ∧ a1.toInt ≤ 1) → (1 ≤ a2.toInt ∧ a2.toInt ≤ 11) → (0 ≤ a3.toInt ∧ a3.toInt ≤ 11) → (0 ≤ a4.toInt ∧ a4.toInt ≤ 1) → (-1 ≤ v84_5.toInt ∧ v84_5.toInt ≤ 20) → (-1 ≤ v84_6.toInt) → (1 ≤ v84_7.toInt ∧ v84_7.toInt ≤ 21) → (0 ≤ (pI P84 a0 0).toInt ∧ (pI P84 a0 0).toInt ≤ 0) → (∀ b, pR P84 a0 10 = some b → 1 ≤ (pI P84 b (a1.toInt.toNat)).toInt ∧ (pI P84 b (a1.toInt.toNat)).toInt ≤ 16) → G E ({ frames := 5, cells := 0, slots := 0, locals := 320 } : Room) D cy 9 P84 0 0 84 [(0, .ref a0), (1, .int a1), (2, .int a2), (3, .int a3), (4, .int a4), (5, .int v84_5), (6, .int v84_6), (7, .int v84_7)] [] := by
    intro n84
    induction n84 with
    | zero => intro P84 v84_5 v84_6 v84_7 hm84 I84 X84 W84 hv84_1 hv84_2 hv84_3 hv84_4 hv84_5 hv84_6 hv84_7 hq84_0 hq84_1; omega
    | succ n84 ih84 =>
      intro P84 v84_5 v84_6 v84_7 hm84 I84 X84 W84 hv84_1 hv84_2 hv84_3 hv84_4 hv84_5 hv84_6 hv84_7 hq84_0 hq84_1
      have h57842 := X84.at ha0
      obtain ⟨b57843, e57844, h57845⟩ := I84.fld (h57842) 10 13 2 rfl
      have hq84_1 := hq84_1 b57843 e57844
      have J152 : ∀ (P152 : PP) (v152_5 : Int32) (v152_6 : Int32), (IM P152 a0) → (EM [0, 12, 28, 29, 30, 31, 33, 34, 35, 36, 37, 38, 43, 44] a0 P P152) → (MW P152 a0) → (0 ≤ a1.toInt ∧ a1.toInt ≤ 1) → (1 ≤ a2.toInt ∧ a2.toInt ≤ 11) → (0 ≤ a3.toInt ∧ a3.toInt ≤ 11) → (0 ≤ a4.toInt ∧ a4.toInt ≤ 1) → (-1 ≤ v152_5.toInt ∧ v152_5.toInt ≤ 20) → (-1 ≤ v152_6.toInt) → (1 ≤ v84_7.toInt ∧ v84_7.toInt ≤ 20) → (0 ≤ (pI P152 a0 0).toInt ∧ (pI P152 a0 0).toInt ≤ 0) → (∀ b, pR P152 a0 10 = some b → 1 ≤ (pI P152 b (a1.toInt.toNat)).toInt ∧ (pI P152 b (a1.toInt.toNat)).toInt ≤ 16) → G E ({ frames := 5, cells := 0, slots := 0, locals := 320 } : Room) D cy 9 P152 0 0 152 [(0, .ref a0), (1, .int a1), (2, .int a2), (3, .int a3), (4, .int a4), (5, .int v152_5), (6, .int v152_6), (7, .int v84_7)] [] := by
        intro P152 v152_5 v152_6 I152 X152 W152 hv152_1 hv152_2 hv152_3 hv152_4 hv152_5 hv152_6 hv152_7 hq152_0 hq152_1
        have h57846 := X152.at ha0
        obtain ⟨b57847, e57848, h57849⟩ := I152.fld (h57846) 10 13 2 rfl
        have hq152_1 := hq152_1 b57847 e57848
        refine s_iinc (lv0 := [(0, .ref a0), (1, .int a1), (2, .int a2), (3, .int a3), (4, .int a4), (5, .int v152_5), (6, .int v152_6)]) (m := 1) C dX12_degree_152 7 rfl (by decide) rfl (by decide) (by omega) (fun z57850 h57851 => ?_)
        have h57851 : z57850.toInt = v84_7.toInt + 1 := h57851
        refine g_goto C 84 dX12_degree_155 (by decide) ?_
        refine g_lv (lv' := [(0, .ref a0), (1, .int a1), (2, .int a2), (3, .int a3), (4, .int a4), (5, .int v152_5), (6, .int v152_6), (7, .int z57850)]) [1, 2, 3, 4, 5, 6, 7, 0] rfl ?_
        exact ih84 P152 v152_5 v152_6 z57850 (by omega) I152 X152 W152 (by omega) (by omega) (by omega) (by omega) (by omega) (by omega) (by omega) (by omega) (fun b9 e9 => by rw [e57848] at e9; cases e9; omega)
      refine g_iload C dX12_degree_84 7 rfl ?_
      refine g_aload_n C dX12_degree_86 rfl 0 rfl ?_
      refine g_iload_n C dX12_degree_87 rfl 1 rfl ?_
      refine g_callVI (rest := [.int v84_7]) C mv_X12_238 [.int a1] (s_X12_allOf I84 (by omega) W84) (h57842).1 (h57842).2 rfl rfl (by decide) (Nat.le_of_ble_eq_true rfl) (by decide) dX12_degree_88 (fun r57852 Y57853 h57854 => ?_)
      obtain ⟨rfl, h57854⟩ := h57854
      obtain ⟨h57854, hi57855⟩ := h57854
      obtain ⟨b57856, e57857, h57858⟩ := I84.fld (h57842) 15 13 3 rfl
      have hi57855 : (r57852.toInt = 0 ∧ (pI P84 b57843 (a1.toInt.toNat)).toInt = 0) ∨ r57852.toInt = (pI P84 b57843 (a1.toInt.toNat)).toInt + (pI P84 b57856 (a1.toInt.toNat)).toInt := hi57855 b57843 b57856 e57844 e57857
      have h57859 := I84.arr e57857 rfl (a1.toInt.toNat)
      have h57854 : 0 ≤ r57852.toInt ∧ r57852.toInt ≤ 20 := h57854
      refine b_icmp_gt C 158 dX12_degree_91 (by decide) (fun h57860 => ?_) (fun h57860 => ?_)
      · have h57860 : r57852.toInt < v84_7.toInt := h57860
        refine g_iconst (v := 0) C dX12_degree_158 (by decide) ?_
        refine g_istore (lv' := [(7, .int 0), (0, .ref a0), (1, .int a1), (2, .int a2), (3, .int a3), (4, .int a4), (5, .int v84_5), (6, .int v84_6)]) C dX12_degree_159 (by decide) rfl ?_
        refine g_lv (lv' := [(0, .ref a0), (1, .int a1), (5, .int v84_5), (7, .int 0)]) [1, 2, 6, 0] rfl ?_
        exact J161 _ P84 v84_5 0 (Nat.lt_succ_self _) I84 X84 W84 (by omega) (by omega) (by decide) (by omega) (fun b9 e9 => by rw [e57844] at e9; cases e9; omega)
      · have h57860 : v84_7.toInt ≤ r57852.toInt := h57860
        refine g_aload_n C dX12_degree_94 rfl 0 rfl ?_
        obtain ⟨b57861, e57862, h57863⟩ := I84.fld (h57842) 12 13 63 rfl
        refine g_getR C fi_X12_51 rfl e57862 (h57842).1 (h57842).2 dX12_degree_95 ?_
        refine g_bipush (v := 21) C dX12_degree_98 (by decide) ?_
        refine g_iload_n C dX12_degree_100 rfl 1 rfl ?_
        refine s_imul C dX12_degree_101 (by show -2147483648 ≤ 21 * a1.toInt ∧ 21 * a1.toInt ≤ 2147483647; omega) (fun z57864 h57865 => ?_)
        have h57865 : z57864.toInt = 21 * a1.toInt := h57865
        refine g_iload C dX12_degree_102 7 rfl ?_
        refine s_iadd C dX12_degree_104 (by show -2147483648 ≤ z57864.toInt + v84_7.toInt ∧ z57864.toInt + v84_7.toInt ≤ 2147483647; omega) (fun z57866 h57867 => ?_)
        have h57867 : z57866.toInt = z57864.toInt + v84_7.toInt := h57867
        refine g_iconst (v := 1) C dX12_degree_105 (by decide) ?_
        refine g_iast (j := (z57866.toInt.toNat)) C h57863.1 h57863.2.1 (ix_in h57863.2.2 (by omega)) dX12_degree_106 ?_
        refine gqW (ks := [12]) (I84.setA e57862 h57863 (by decide) (arOk.of rfl (by decide))) (EM.setA I84 e57862 rfl (by decide)) (fun Y57868 Iy57869 Xy57870 w57871  => ?_)
        have w57871 : (pI Y57868 b57861 (z57866.toInt.toNat)).toInt = 1 := w57871
        have q57872 := Xy57870.keepF 0 (by decide)
        have q57873 := Xy57870.keepA e57844 (by decide) rfl (a1.toInt.toNat)
        have q57874 := Xy57870.keepA e57857 (by decide) rfl (a1.toInt.toNat)
        have W57875 := W84.keep I84 Xy57870 (by decide) (by decide) (by decide) (by decide)
        have Xz57876 : EM [0, 12, 28, 29, 30, 31, 33, 34, 35, 36, 37, 38, 43, 44] a0 P Y57868 := EM.tr ha0 X84 (Xy57870.mono (by decide))
        have e57877 := Xy57870.ref h57842 (by decide) e57844
        have e57878 := Xy57870.ref h57842 (by decide) e57857
        have e57879 := Xy57870.ref h57842 (by decide) e57862
        have h57880 := Xy57870.at h57842
        have h57881 := Xy57870.ar h57845
        have h57882 := Xy57870.ar h57858
        have h57883 := Xy57870.ar h57863
        refine g_aload_n C dX12_degree_107 rfl 0 rfl ?_
        refine g_iload_n C dX12_degree_108 rfl 1 rfl ?_
        refine g_iload_n C dX12_degree_109 rfl 2 rfl ?_
        refine g_callVV (rest := []) C mv_X12_380 [.int a1, .int a2] (s_X12_keepsSets Iy57869 (by omega) (by omega) (fun b9 e9 => by rw [e57877] at e9; cases e9; show 1 ≤ (pI Y57868 b57843 (a1.toInt.toNat)).toInt ∧ (pI Y57868 b57843 (a1.toInt.toNat)).toInt ≤ 16; omega) W57875) (h57880).1 (h57880).2 rfl rfl (by decide) (Nat.le_of_ble_eq_true rfl) (by decide) dX12_degree_110 (fun Y57885 h57886 => ?_)
        obtain ⟨Iy57887, Xy57888, W57889⟩ := h57886
        have q57890 := Xy57888.keepF 0 (by decide)
        have q57891 := Xy57888.keepA e57877 (by decide) rfl (a1.toInt.toNat)
        have q57892 := Xy57888.keepA e57878 (by decide) rfl (a1.toInt.toNat)
        have q57893 := Xy57888.keepA e57879 (by decide) rfl (z57866.toInt.toNat)
        have Xz57894 : EM [0, 12, 28, 29, 30, 31, 33, 34, 35, 36, 37, 38, 43, 44] a0 P Y57885 := EM.tr ha0 Xz57876 (Xy57888.mono (by decide))
        have e57895 := Xy57888.ref h57880 (by decide) e57877
        have e57896 := Xy57888.ref h57880 (by decide) e57878
        have e57897 := Xy57888.ref h57880 (by decide) e57879
        have h57898 := Xy57888.at h57880
        have h57899 := Xy57888.ar h57881
        have h57900 := Xy57888.ar h57882
        have h57901 := Xy57888.ar h57883
        refine g_aload_n C dX12_degree_113 rfl 0 rfl ?_
        refine g_iload_n C dX12_degree_114 rfl 1 rfl ?_
        refine g_iload_n C dX12_degree_115 rfl 2 rfl ?_
        refine g_iload_n C dX12_degree_116 rfl 3 rfl ?_
        refine g_iload C dX12_degree_117 4 rfl ?_
        refine g_callVI (rest := []) C mv_X12_383 [.int a1, .int a2, .int a3, .int a4] (s_X12_chancesOf Iy57887 (by omega) (by omega) (fun b9 e9 => by rw [e57895] at e9; cases e9; show 1 ≤ (pI Y57885 b57843 (a1.toInt.toNat)).toInt ∧ (pI Y57885 b57843 (a1.toInt.toNat)).toInt ≤ 16; omega) W57889) (h57898).1 (h57898).2 rfl rfl (by decide) (Nat.le_of_ble_eq_true rfl) (by decide) dX12_degree_119 (fun r57902 Y57903 h57904 => ?_)
        obtain ⟨Iy57905, Xy57906, W57907, h57904⟩ := h57904
        have q57908 := Xy57906.keepF 0 (by decide)
        have q57909 := Xy57906.keepA e57895 (by decide) rfl (a1.toInt.toNat)
        have q57910 := Xy57906.keepA e57896 (by decide) rfl (a1.toInt.toNat)
        have q57911 := Xy57906.keepA e57897 (by decide) rfl (z57866.toInt.toNat)
        have Xz57912 : EM [0, 12, 28, 29, 30, 31, 33, 34, 35, 36, 37, 38, 43, 44] a0 P Y57903 := EM.tr ha0 Xz57894 (Xy57906.mono (by decide))
        have e57913 := Xy57906.ref h57898 (by decide) e57895
        have e57914 := Xy57906.ref h57898 (by decide) e57896
        have e57915 := Xy57906.ref h57898 (by decide) e57897
        have h57916 := Xy57906.at h57898
        have h57917 := Xy57906.ar h57899
        have h57918 := Xy57906.ar h57900
        have h57919 := Xy57906.ar h57901
        have h57904 : True := h57904
        refine g_istore (lv' := [(8, .int r57902), (0, .ref a0), (1, .int a1), (2, .int a2), (3, .int a3), (4, .int a4), (5, .int v84_5), (6, .int v84_6), (7, .int v84_7)]) C dX12_degree_122 (by decide) rfl ?_
        refine g_aload_n C dX12_degree_124 rfl 1 rfl ?_
        refine g_getR C fi_X12_51 rfl e57915 (h57916).1 (h57916).2 dX12_degree_125 ?_
        refine g_bipush (v := 21) C dX12_degree_128 (by decide) ?_
        refine g_iload_n C dX12_degree_130 rfl 2 rfl ?_
        refine s_imul C dX12_degree_131 (by show -2147483648 ≤ 21 * a1.toInt ∧ 21 * a1.toInt ≤ 2147483647; omega) (fun z57920 h57921 => ?_)
        have h57921 : z57920.toInt = 21 * a1.toInt := h57921
        refine g_iload C dX12_degree_132 8 rfl ?_
        refine s_iadd C dX12_degree_134 (by show -2147483648 ≤ z57920.toInt + v84_7.toInt ∧ z57920.toInt + v84_7.toInt ≤ 2147483647; omega) (fun z57922 h57923 => ?_)
        have h57923 : z57922.toInt = z57920.toInt + v84_7.toInt := h57923
        refine g_iconst (v := (-1)) C dX12_degree_135 (by decide) ?_
        refine g_iast (j := (z57922.toInt.toNat)) C h57919.1 h57919.2.1 (ix_in h57919.2.2 (by omega)) dX12_degree_136 ?_
        refine gqW (ks := [12]) (Iy57905.setA e57915 h57919 (by decide) (arOk.of rfl (by decide))) (EM.setA Iy57905 e57915 rfl (by decide)) (fun Y57924 Iy57925 Xy57926 w57927  => ?_)
        have w57927 : (pI Y57924 b57861 (z57922.toInt.toNat)).toInt = (-1) := w57927
        have q57928 := Xy57926.keepF 0 (by decide)
        have q57929 := Xy57926.keepA e57913 (by decide) rfl (a1.toInt.toNat)
        have q57930 := Xy57926.keepA e57914 (by decide) rfl (a1.toInt.toNat)
        have W57931 := W57907.keep Iy57905 Xy57926 (by decide) (by decide) (by decide) (by decide)
        have Xz57932 : EM [0, 12, 28, 29, 30, 31, 33, 34, 35, 36, 37, 38, 43, 44] a0 P Y57924 := EM.tr ha0 Xz57912 (Xy57926.mono (by decide))
        have e57933 := Xy57926.ref h57916 (by decide) e57913
        have e57934 := Xy57926.ref h57916 (by decide) e57914
        have e57935 := Xy57926.ref h57916 (by decide) e57915
        have h57936 := Xy57926.at h57916
        have h57937 := Xy57926.ar h57917
        have h57938 := Xy57926.ar h57918
        have h57939 := Xy57926.ar h57919
        refine g_iload C dX12_degree_137 0 rfl ?_
        refine g_iload C dX12_degree_139 7 rfl ?_
        have u57941 := ti_rng r57902
        have u57942 := ti_rng v84_6
        refine b_icmp_le C 152 dX12_degree_141 (by decide) (fun h57940 => ?_) (fun h57940 => ?_)
        · have h57940 : r57902.toInt ≤ v84_6.toInt := h57940
          refine g_lv (lv' := [(0, .ref a0), (1, .int a1), (2, .int a2), (3, .int a3), (4, .int a4), (5, .int v84_5), (6, .int v84_6), (7, .int v84_7)]) [1, 2, 3, 4, 5, 6, 7, 8] rfl ?_
          exact J152 Y57924 v84_5 v84_6 Iy57925 Xz57932 W57931 (by omega) (by omega) (by omega) (by omega) (by omega) (by omega) (by omega) (by omega) (fun b9 e9 => by rw [e57933] at e9; cases e9; omega)
        · have h57940 : v84_6.toInt < r57902.toInt := h57940
          refine g_iload C dX12_degree_144 0 rfl ?_
          refine g_istore (lv' := [(6, .int r57902), (8, .int r57902), (0, .ref a0), (1, .int a1), (2, .int a2), (3, .int a3), (4, .int a4), (5, .int v84_5), (7, .int v84_7)]) C dX12_degree_146 (by decide) rfl ?_
          refine g_iload C dX12_degree_148 8 rfl ?_
          refine g_istore (lv' := [(5, .int v84_7), (6, .int r57902), (8, .int r57902), (0, .ref a0), (1, .int a1), (2, .int a2), (3, .int a3), (4, .int a4), (7, .int v84_7)]) C dX12_degree_150 (by decide) rfl ?_
          refine g_lv (lv' := [(0, .ref a0), (1, .int a1), (2, .int a2), (3, .int a3), (4, .int a4), (5, .int v84_7), (6, .int r57902), (7, .int v84_7)]) [3, 4, 5, 6, 7, 0, 1, 8] rfl ?_
          exact J152 Y57924 v84_7 r57902 Iy57925 Xz57932 W57931 (by omega) (by omega) (by omega) (by omega) (by omega) (by omega) (by omega) (by omega) (fun b9 e9 => by rw [e57933] at e9; cases e9; omega)
  have J30 : ∀ (n30 : Nat) (P30 : PP) (v30_5 : Int32), (21 - v30_5.toInt).toNat < n30 → (IM P30 a0) → (EM [0, 12, 28, 29, 30, 31, 33, 34, 35, 36, 37, 38, 43, 44] a0 P P30) → (MW P30 a0) → (0 ≤ a1.toInt ∧ a1.toInt ≤ 1) → (1 ≤ a2.toInt ∧ a2.toInt ≤ 11) → (0 ≤ a3.toInt ∧ a3.toInt ≤ 11) → (0 ≤ a4.toInt ∧ a4.toInt ≤ 1) → (0 ≤ v30_5.toInt ∧ v30_5.toInt ≤ 21) → (0 ≤ (pI P30 a0 0).toInt ∧ (pI P30 a0 0).toInt ≤ 0) → (∀ b, pR P30 a0 10 = some b → 1 ≤ (pI P30 b (a1.toInt.toNat)).toInt ∧ (pI P30 b (a1.toInt.toNat)).toInt ≤ 16) → G E ({ frames := 5, cells := 0, slots := 0, locals := 320 } : Room) D cy 9 P30 0 0 30 [(0, .ref a0), (1, .int a1), (2, .int a2), (3, .int a3), (4, .int a4), (5, .int v30_5)] [] := by
    intro n30
    induction n30 with
    | zero => intro P30 v30_5 hm30 I30 X30 W30 hv30_1 hv30_2 hv30_3 hv30_4 hv30_5 hq30_0 hq30_1; omega
    | succ n30 ih30 =>
      intro P30 v30_5 hm30 I30 X30 W30 hv30_1 hv30_2 hv30_3 hv30_4 hv30_5 hq30_0 hq30_1
      have h57943 := X30.at ha0
      obtain ⟨b57944, e57945, h57946⟩ := I30.fld (h57943) 10 13 2 rfl
      have hq30_1 := hq30_1 b57944 e57945
      refine g_iload C dX12_degree_30 5 rfl ?_
      refine g_bipush (v := 21) C dX12_degree_32 (by decide) ?_
      refine b_icmp_ge C 75 dX12_degree_34 (by decide) (fun h57947 => ?_) (fun h57947 => ?_)
      · have h57947 : 21 ≤ v30_5.toInt := h57947
        refine g_iconst (v := (-1)) C dX12_degree_75 (by decide) ?_
        refine g_istore (lv' := [(5, .int (-1)), (0, .ref a0), (1, .int a1), (2, .int a2), (3, .int a3), (4, .int a4)]) C dX12_degree_76 (by decide) rfl ?_
        refine g_iconst (v := (-1)) C dX12_degree_78 (by decide) ?_
        refine g_istore (lv' := [(6, .int (-1)), (5, .int (-1)), (0, .ref a0), (1, .int a1), (2, .int a2), (3, .int a3), (4, .int a4)]) C dX12_degree_79 (by decide) rfl ?_
        refine g_iconst (v := 1) C dX12_degree_81 (by decide) ?_
        refine g_istore (lv' := [(7, .int 1), (6, .int (-1)), (5, .int (-1)), (0, .ref a0), (1, .int a1), (2, .int a2), (3, .int a3), (4, .int a4)]) C dX12_degree_82 (by decide) rfl ?_
        refine g_lv (lv' := [(0, .ref a0), (1, .int a1), (2, .int a2), (3, .int a3), (4, .int a4), (5, .int (-1)), (6, .int (-1)), (7, .int 1)]) [3, 4, 5, 6, 7, 2, 1, 0] rfl ?_
        exact J84 _ P30 (-1) (-1) 1 (Nat.lt_succ_self _) I30 X30 W30 (by omega) (by omega) (by omega) (by omega) (by decide) (by decide) (by decide) (by omega) (fun b9 e9 => by rw [e57945] at e9; cases e9; omega)
      · have h57947 : v30_5.toInt < 21 := h57947
        refine g_aload_n C dX12_degree_37 rfl 0 rfl ?_
        obtain ⟨b57948, e57949, h57950⟩ := I30.fld (h57943) 44 13 21 rfl
        refine g_getR C fi_X12_124 rfl e57949 (h57943).1 (h57943).2 dX12_degree_38 ?_
        refine g_iload C dX12_degree_41 5 rfl ?_
        refine g_aload_n C dX12_degree_43 rfl 0 rfl ?_
        obtain ⟨b57951, e57952, h57953⟩ := I30.fld (h57943) 12 13 63 rfl
        refine g_getR C fi_X12_51 rfl e57952 (h57943).1 (h57943).2 dX12_degree_44 ?_
        refine g_bipush (v := 21) C dX12_degree_47 (by decide) ?_
        refine g_iload_n C dX12_degree_49 rfl 1 rfl ?_
        refine s_imul C dX12_degree_50 (by show -2147483648 ≤ 21 * a1.toInt ∧ 21 * a1.toInt ≤ 2147483647; omega) (fun z57954 h57955 => ?_)
        have h57955 : z57954.toInt = 21 * a1.toInt := h57955
        refine g_iload C dX12_degree_51 5 rfl ?_
        refine s_iadd C dX12_degree_53 (by show -2147483648 ≤ z57954.toInt + v30_5.toInt ∧ z57954.toInt + v30_5.toInt ≤ 2147483647; omega) (fun z57956 h57957 => ?_)
        have h57957 : z57956.toInt = z57954.toInt + v30_5.toInt := h57957
        refine g_iald (j := (z57956.toInt.toNat)) C h57953.1 h57953.2.1 (ix_in h57953.2.2 (by omega)) dX12_degree_54 ?_
        have h57958 := I30.arr e57952 rfl (z57956.toInt.toNat)
        refine g_iast (j := (v30_5.toInt.toNat)) C h57950.1 h57950.2.1 (ix_in h57950.2.2 (by omega)) dX12_degree_55 ?_
        refine gqW (ks := [44]) (I30.setA e57949 h57950 (by decide) (arOk.of rfl (by omega))) (EM.setA I30 e57949 rfl (by decide)) (fun Y57959 Iy57960 Xy57961 w57962  => ?_)
        have w57962 : (pI Y57959 b57948 (v30_5.toInt.toNat)).toInt = (pI P30 b57951 (z57956.toInt.toNat)).toInt := w57962
        have q57963 := Xy57961.keepF 0 (by decide)
        have q57964 := Xy57961.keepA e57945 (by decide) rfl (a1.toInt.toNat)
        have q57965 := Xy57961.keepA e57952 (by decide) rfl (z57956.toInt.toNat)
        have W57966 := W30.keep I30 Xy57961 (by decide) (by decide) (by decide) (by decide)
        have Xz57967 : EM [0, 12, 28, 29, 30, 31, 33, 34, 35, 36, 37, 38, 43, 44] a0 P Y57959 := EM.tr ha0 X30 (Xy57961.mono (by decide))
        have e57968 := Xy57961.ref h57943 (by decide) e57945
        have e57969 := Xy57961.ref h57943 (by decide) e57949
        have e57970 := Xy57961.ref h57943 (by decide) e57952
        have h57971 := Xy57961.at h57943
        have h57972 := Xy57961.ar h57946
        have h57973 := Xy57961.ar h57950
        have h57974 := Xy57961.ar h57953
        refine g_aload_n C dX12_degree_56 rfl 0 rfl ?_
        refine g_getR C fi_X12_51 rfl e57970 (h57971).1 (h57971).2 dX12_degree_57 ?_
        refine g_bipush (v := 21) C dX12_degree_60 (by decide) ?_
        refine g_iload_n C dX12_degree_62 rfl 1 rfl ?_
        refine s_imul C dX12_degree_63 (by show -2147483648 ≤ 21 * a1.toInt ∧ 21 * a1.toInt ≤ 2147483647; omega) (fun z57975 h57976 => ?_)
        have h57976 : z57975.toInt = 21 * a1.toInt := h57976
        refine g_iload C dX12_degree_64 5 rfl ?_
        refine s_iadd C dX12_degree_66 (by show -2147483648 ≤ z57975.toInt + v30_5.toInt ∧ z57975.toInt + v30_5.toInt ≤ 2147483647; omega) (fun z57977 h57978 => ?_)
        have h57978 : z57977.toInt = z57975.toInt + v30_5.toInt := h57978
        refine g_iconst (v := (-1)) C dX12_degree_67 (by decide) ?_
        refine g_iast (j := (z57977.toInt.toNat)) C h57974.1 h57974.2.1 (ix_in h57974.2.2 (by omega)) dX12_degree_68 ?_
        refine gqW (ks := [12]) (Iy57960.setA e57970 h57974 (by decide) (arOk.of rfl (by decide))) (EM.setA Iy57960 e57970 rfl (by decide)) (fun Y57979 Iy57980 Xy57981 w57982  => ?_)
        have w57982 : (pI Y57979 b57951 (z57977.toInt.toNat)).toInt = (-1) := w57982
        have q57983 := Xy57981.keepF 0 (by decide)
        have q57984 := Xy57981.keepA e57968 (by decide) rfl (a1.toInt.toNat)
        have q57985 := Xy57981.keepA e57969 (by decide) rfl (v30_5.toInt.toNat)
        have W57986 := W57966.keep Iy57960 Xy57981 (by decide) (by decide) (by decide) (by decide)
        have Xz57987 : EM [0, 12, 28, 29, 30, 31, 33, 34, 35, 36, 37, 38, 43, 44] a0 P Y57979 := EM.tr ha0 Xz57967 (Xy57981.mono (by decide))
        have e57988 := Xy57981.ref h57971 (by decide) e57968
        have e57989 := Xy57981.ref h57971 (by decide) e57969
        have e57990 := Xy57981.ref h57971 (by decide) e57970
        have h57991 := Xy57981.at h57971
        have h57992 := Xy57981.ar h57972
        have h57993 := Xy57981.ar h57973
        have h57994 := Xy57981.ar h57974
        refine s_iinc (lv0 := [(0, .ref a0), (1, .int a1), (2, .int a2), (3, .int a3), (4, .int a4)]) (m := 1) C dX12_degree_69 5 rfl (by decide) rfl (by decide) (by omega) (fun z57995 h57996 => ?_)
        have h57996 : z57995.toInt = v30_5.toInt + 1 := h57996
        refine g_goto C 30 dX12_degree_72 (by decide) ?_
        refine g_lv (lv' := [(0, .ref a0), (1, .int a1), (2, .int a2), (3, .int a3), (4, .int a4), (5, .int z57995)]) [1, 2, 3, 4, 5, 0] rfl ?_
        exact ih30 Y57979 z57995 (by omega) Iy57980 Xz57987 W57986 (by omega) (by omega) (by omega) (by omega) (by omega) (by omega) (fun b9 e9 => by rw [e57988] at e9; cases e9; omega)
  have J25 : ∀ (P25 : PP), (IM P25 a0) → (EM [0, 12, 28, 29, 30, 31, 33, 34, 35, 36, 37, 38, 43, 44] a0 P P25) → (MW P25 a0) → (0 ≤ (pI P25 a0 0).toInt ∧ (pI P25 a0 0).toInt ≤ 0) → G E ({ frames := 5, cells := 0, slots := 0, locals := 320 } : Room) D cy 9 P25 0 0 25 [] [] := by
    intro P25 I25 X25 W25 hq25_0
    have h57997 := X25.at ha0
    refine g_iconst (v := (-1)) C dX12_degree_25 (by decide) ?_
    exact ret _ _ _ _ _ _ dX12_degree_26 rfl (by decide) (by decide) ⟨I25, X25, W25, (by decide)⟩
  refine g_aload_n C dX12_degree_0 rfl 0 rfl ?_
  refine g_iconst (v := 0) C dX12_degree_1 (by decide) ?_
  refine g_putI C fi_X12_1 rfl (ha0).1 (ha0).2 dX12_degree_2 ?_
  refine gqW (ks := [0]) (I.setI (rgOk.of rfl (by decide))) (EM.setI I (by decide)) (fun Y57998 Iy57999 Xy58000 w58001  => ?_)
  have w58001 : (pI Y57998 a0 0).toInt = 0 := w58001
  have W58002 := hW.keep I Xy58000 (by decide) (by decide) (by decide) (by decide)
  have Xz58003 : EM [0, 12, 28, 29, 30, 31, 33, 34, 35, 36, 37, 38, 43, 44] a0 P Y57998 := Xy58000.mono (by decide)
  have h58004 := Xy58000.at ha0
  refine g_aload_n C dX12_degree_5 rfl 0 rfl ?_
  refine g_iload_n C dX12_degree_6 rfl 1 rfl ?_
  refine g_iload_n C dX12_degree_7 rfl 2 rfl ?_
  refine g_iload C dX12_degree_8 4 rfl ?_
  refine g_callVI (rest := []) C mv_X12_377 [.int a1, .int a2, .int a4] (s_X12_areChances Iy57999 W58002) (h58004).1 (h58004).2 rfl rfl (by decide) (Nat.le_of_ble_eq_true rfl) (by decide) dX12_degree_10 (fun r58005 Y58006 h58007 => ?_)
  obtain ⟨rfl, h58007⟩ := h58007
  obtain ⟨h58007, hi58008, hi58009⟩ := h58007
  have hi58008 : r58005.toInt = 0 ∨ (((0 : Int) ≤ a1.toInt ∧ a1.toInt ≤ (1 : Int)) ∧ ((1 : Int) ≤ a2.toInt ∧ a2.toInt ≤ (11 : Int)) ∧ ((0 : Int) ≤ a4.toInt ∧ a4.toInt ≤ (1 : Int))) := hi58008
  have h58007 : 0 ≤ r58005.toInt ∧ r58005.toInt ≤ 1 := h58007
  refine b_if_eq C 25 dX12_degree_13 (by decide) (fun h58010 => ?_) (fun h58010 => ?_)
  · have h58010 : r58005.toInt = 0 := congrArg Int32.toInt h58010
    clear hi58008
    refine g_lv (lv' := []) [] rfl ?_
    exact J25 Y57998 Iy57999 Xz58003 W58002 (by omega)
  · have h58010 : r58005.toInt ≠ 0 := ti_ne h58010
    replace hi58008 := hi58008.resolve_left (by omega)
    obtain ⟨b58011, e58012, h58013⟩ := Iy57999.fld (h58004) 10 13 2 rfl
    have hi58009 := (hi58009.resolve_left (by omega)) b58011 e58012
    have hi58009 : 0 < (pI Y57998 b58011 (a1.toInt.toNat)).toInt := hi58009
    have h58014 := Iy57999.arr e58012 rfl (a1.toInt.toNat)
    refine g_iload_n C dX12_degree_16 rfl 3 rfl ?_
    refine g_iconst (v := 0) C dX12_degree_17 (by decide) ?_
    refine g_iload_n C dX12_degree_18 rfl 2 rfl ?_
    refine g_callSI (b := 0) (ci := 0) (rest := []) C ms_X12_178 [.int a3, .int 0, .int a2] (s_X12_within Iy57999.1) rfl rfl (by decide) (Nat.le_of_ble_eq_true rfl) (by decide) dX12_degree_19 (fun r58015 Y58016 h58017 => ?_)
    obtain ⟨rfl, h58017⟩ := h58017
    obtain ⟨h58017, hi58018⟩ := h58017
    have hi58018 : r58015.toInt = 0 ∨ (0 ≤ a3.toInt ∧ a3.toInt ≤ a2.toInt) := hi58018
    have h58017 : 0 ≤ r58015.toInt ∧ r58015.toInt ≤ 1 := h58017
    refine b_if_ne C 27 dX12_degree_22 (by decide) (fun h58019 => ?_) (fun h58019 => ?_)
    · have h58019 : r58015.toInt ≠ 0 := ti_ne h58019
      replace hi58018 := hi58018.resolve_left (by omega)
      refine g_iconst (v := 0) C dX12_degree_27 (by decide) ?_
      refine g_istore (lv' := [(5, .int 0), (0, .ref a0), (1, .int a1), (2, .int a2), (3, .int a3), (4, .int a4)]) C dX12_degree_28 (by decide) rfl ?_
      refine g_lv (lv' := [(0, .ref a0), (1, .int a1), (2, .int a2), (3, .int a3), (4, .int a4), (5, .int 0)]) [1, 2, 3, 4, 5, 0] rfl ?_
      exact J30 _ Y57998 0 (Nat.lt_succ_self _) Iy57999 Xz58003 W58002 (by omega) (by omega) (by omega) (by omega) (by decide) (by omega) (fun b9 e9 => by rw [e58012] at e9; cases e9; omega)
    · have h58019 : r58015.toInt = 0 := congrArg Int32.toInt h58019
      clear hi58018
      refine g_lv (lv' := []) [] rfl ?_
      exact J25 Y57998 Iy57999 Xz58003 W58002 (by omega)
theorem dX12_doubles_0 : decode cX12_doubles 0 = .ok (.aload_n 0, 1) := by decide +kernel
theorem dX12_doubles_1 : decode cX12_doubles 1 = .ok (.iconst 0, 1) := by decide +kernel
theorem dX12_doubles_2 : decode cX12_doubles 2 = .ok (.putfield 1, 3) := by decide +kernel
theorem dX12_doubles_5 : decode cX12_doubles 5 = .ok (.aload_n 0, 1) := by decide +kernel
theorem dX12_doubles_6 : decode cX12_doubles 6 = .ok (.iload_n 1, 1) := by decide +kernel
theorem dX12_doubles_7 : decode cX12_doubles 7 = .ok (.iload_n 2, 1) := by decide +kernel
theorem dX12_doubles_8 : decode cX12_doubles 8 = .ok (.iload_n 3, 1) := by decide +kernel
theorem dX12_doubles_9 : decode cX12_doubles 9 = .ok (.invokevirtual 333, 3) := by decide +kernel
theorem dX12_isAsked_0 : decode cX12_isAsked 0 = .ok (.iload_n 1, 1) := by decide +kernel
theorem dX12_isAsked_1 : decode cX12_isAsked 1 = .ok (.invokestatic 278, 3) := by decide +kernel
theorem dX12_isAsked_4 : decode cX12_isAsked 4 = .ok (.ifCond .eq 24, 3) := by decide +kernel
theorem dX12_isAsked_7 : decode cX12_isAsked 7 = .ok (.aload_n 0, 1) := by decide +kernel
theorem dX12_isAsked_8 : decode cX12_isAsked 8 = .ok (.iload_n 2, 1) := by decide +kernel
theorem dX12_isAsked_9 : decode cX12_isAsked 9 = .ok (.invokevirtual 192, 3) := by decide +kernel
theorem dX12_isAsked_12 : decode cX12_isAsked 12 = .ok (.ifCond .eq 16, 3) := by decide +kernel
theorem dX12_isAsked_15 : decode cX12_isAsked 15 = .ok (.iload_n 3, 1) := by decide +kernel
theorem dX12_isAsked_16 : decode cX12_isAsked 16 = .ok (.iconst 0, 1) := by decide +kernel
theorem dX12_isAsked_17 : decode cX12_isAsked 17 = .ok (.iconst 1, 1) := by decide +kernel
theorem dX12_isAsked_18 : decode cX12_isAsked 18 = .ok (.invokestatic 178, 3) := by decide +kernel
theorem dX12_isAsked_21 : decode cX12_isAsked 21 = .ok (.ifCond .eq 7, 3) := by decide +kernel
theorem dX12_isAsked_24 : decode cX12_isAsked 24 = .ok (.iconst 1, 1) := by decide +kernel
theorem dX12_isAsked_25 : decode cX12_isAsked 25 = .ok (.goto 4, 3) := by decide +kernel
theorem dX12_isAsked_28 : decode cX12_isAsked 28 = .ok (.iconst 0, 1) := by decide +kernel
theorem dX12_isAsked_29 : decode cX12_isAsked 29 = .ok (.ireturn, 1) := by decide +kernel
set_option maxHeartbeats 4000000 in
set_option maxRecDepth 100000 in
theorem s_X12_isAsked {P : PP} {a0 : Nat} {a1 : Int32} {a2 : Int32} {a3 : Int32} (I : IM P a0) (hW : MW P a0) : CtrI yX12_isAsked cX12_isAsked 4 (some Jvm.ClassFile.FieldType.boolean) ({ frames := 3, cells := 0, slots := 0, locals := 192 } : Room) 0 0 P [.ref a0, .int a1, .int a2, .int a3] (fun r P2 => P = P2 ∧ (0 ≤ r.toInt ∧ r.toInt ≤ 1) ∧ (r.toInt = 0 ∨ (((0 : Int) ≤ a1.toInt ∧ a1.toInt ≤ (3 : Int)) ∧ ((0 : Int) ≤ a2.toInt ∧ a2.toInt ≤ (1 : Int)) ∧ ((0 : Int) ≤ a3.toInt ∧ a3.toInt ≤ (1 : Int)))) ∧ (r.toInt = 0 ∨ ∀ b, pR P2 a0 10 = some b → 0 < (pI P2 b (a2.toInt.toNat)).toInt)) := by
  refine enI (lv := [(0, .ref a0), (1, .int a1), (2, .int a2), (3, .int a3)]) (by decide) (Nat.le_of_ble_eq_true rfl) rfl (fun E D cy C Ci0 ret => ?_)
  have ha0 := I.2.1
  have J28 : G E ({ frames := 3, cells := 0, slots := 0, locals := 192 } : Room) D cy 4 P 0 0 28 [] [] := by
    refine g_iconst (v := 0) C dX12_isAsked_28 (by decide) ?_
    exact ret _ _ _ _ _ _ dX12_isAsked_29 rfl (by decide) (by decide) ⟨rfl, (by decide), Or.inl rfl, Or.inl rfl⟩
  refine g_iload_n C dX12_isAsked_0 rfl 1 rfl ?_
  refine g_callSI (b := 0) (ci := 0) (rest := []) C ms_X12_278 [.int a1] (s_X12_isQuarter I.1) rfl rfl (by decide) (Nat.le_of_ble_eq_true rfl) (by decide) dX12_isAsked_1 (fun r58047 Y58048 h58049 => ?_)
  obtain ⟨rfl, h58049⟩ := h58049
  obtain ⟨h58049, hi58050⟩ := h58049
  have hi58050 : r58047.toInt = 0 ∨ (((0 : Int) ≤ a1.toInt ∧ a1.toInt ≤ (3 : Int))) := hi58050
  have h58049 : 0 ≤ r58047.toInt ∧ r58047.toInt ≤ 1 := h58049
  refine b_if_eq C 28 dX12_isAsked_4 (by decide) (fun h58051 => ?_) (fun h58051 => ?_)
  · have h58051 : r58047.toInt = 0 := congrArg Int32.toInt h58051
    clear hi58050
    refine g_lv (lv' := []) [] rfl ?_
    exact J28 
  · have h58051 : r58047.toInt ≠ 0 := ti_ne h58051
    replace hi58050 := hi58050.resolve_left (by omega)
    refine g_aload_n C dX12_isAsked_7 rfl 0 rfl ?_
    refine g_iload_n C dX12_isAsked_8 rfl 2 rfl ?_
    refine g_callVI (rest := []) C mv_X12_192 [.int a2] (s_X12_isBook I hW) (ha0).1 (ha0).2 rfl rfl (by decide) (Nat.le_of_ble_eq_true rfl) (by decide) dX12_isAsked_9 (fun r58052 Y58053 h58054 => ?_)
    obtain ⟨rfl, h58054⟩ := h58054
    obtain ⟨h58054, hi58055, hi58056⟩ := h58054
    have hi58055 : r58052.toInt = 0 ∨ (((0 : Int) ≤ a2.toInt ∧ a2.toInt ≤ (1 : Int))) := hi58055
    have h58054 : 0 ≤ r58052.toInt ∧ r58052.toInt ≤ 1 := h58054
    refine b_if_eq C 28 dX12_isAsked_12 (by decide) (fun h58057 => ?_) (fun h58057 => ?_)
    · have h58057 : r58052.toInt = 0 := congrArg Int32.toInt h58057
      clear hi58055
      refine g_lv (lv' := []) [] rfl ?_
      exact J28 
    · have h58057 : r58052.toInt ≠ 0 := ti_ne h58057
      replace hi58055 := hi58055.resolve_left (by omega)
      obtain ⟨b58058, e58059, h58060⟩ := I.fld (ha0) 10 13 2 rfl
      have hi58056 := (hi58056.resolve_left (by omega)) b58058 e58059
      have hi58056 : 0 < (pI P b58058 (a2.toInt.toNat)).toInt := hi58056
      have h58061 := I.arr e58059 rfl (a2.toInt.toNat)
      refine g_iload_n C dX12_isAsked_15 rfl 3 rfl ?_
      refine g_iconst (v := 0) C dX12_isAsked_16 (by decide) ?_
      refine g_iconst (v := 1) C dX12_isAsked_17 (by decide) ?_
      refine g_callSI (b := 0) (ci := 0) (rest := []) C ms_X12_178 [.int a3, .int 0, .int 1] (s_X12_within I.1) rfl rfl (by decide) (Nat.le_of_ble_eq_true rfl) (by decide) dX12_isAsked_18 (fun r58062 Y58063 h58064 => ?_)
      obtain ⟨rfl, h58064⟩ := h58064
      obtain ⟨h58064, hi58065⟩ := h58064
      have hi58065 : r58062.toInt = 0 ∨ (0 ≤ a3.toInt ∧ a3.toInt ≤ 1) := hi58065
      have h58064 : 0 ≤ r58062.toInt ∧ r58062.toInt ≤ 1 := h58064
      refine b_if_eq C 28 dX12_isAsked_21 (by decide) (fun h58066 => ?_) (fun h58066 => ?_)
      · have h58066 : r58062.toInt = 0 := congrArg Int32.toInt h58066
        clear hi58065
        refine g_lv (lv' := []) [] rfl ?_
        exact J28 
      · have h58066 : r58062.toInt ≠ 0 := ti_ne h58066
        replace hi58065 := hi58065.resolve_left (by omega)
        refine g_iconst (v := 1) C dX12_isAsked_24 (by decide) ?_
        refine g_goto C 29 dX12_isAsked_25 (by decide) ?_
        exact ret _ _ _ _ _ _ dX12_isAsked_29 rfl (by decide) (by decide) ⟨rfl, (by decide), Or.inr (by omega), Or.inr (fun b9 e9 => by rw [e58059] at e9; cases e9; show 0 < (pI P b58058 (a2.toInt.toNat)).toInt; omega)⟩
theorem dX12_doubles_12 : decode cX12_doubles 12 = .ok (.ifCond .ne 5, 3) := by decide +kernel
theorem dX12_doubles_15 : decode cX12_doubles 15 = .ok (.iconst (-1), 1) := by decide +kernel
theorem dX12_doubles_16 : decode cX12_doubles 16 = .ok (.ireturn, 1) := by decide +kernel
theorem dX12_doubles_17 : decode cX12_doubles 17 = .ok (.aload_n 0, 1) := by decide +kernel
theorem dX12_doubles_18 : decode cX12_doubles 18 = .ok (.invokevirtual 336, 3) := by decide +kernel
theorem dX12_doubles_21 : decode cX12_doubles 21 = .ok (.aload_n 0, 1) := by decide +kernel
theorem dX12_doubles_22 : decode cX12_doubles 22 = .ok (.iload_n 1, 1) := by decide +kernel
theorem dX12_doubles_23 : decode cX12_doubles 23 = .ok (.iload_n 2, 1) := by decide +kernel
theorem dX12_doubles_24 : decode cX12_doubles 24 = .ok (.iload_n 3, 1) := by decide +kernel
theorem dX12_doubles_25 : decode cX12_doubles 25 = .ok (.aload_n 0, 1) := by decide +kernel
theorem dX12_doubles_26 : decode cX12_doubles 26 = .ok (.getfield 69, 3) := by decide +kernel
theorem dX12_doubles_29 : decode cX12_doubles 29 = .ok (.iload_n 1, 1) := by decide +kernel
theorem dX12_doubles_30 : decode cX12_doubles 30 = .ok (.iaload, 1) := by decide +kernel
theorem dX12_doubles_31 : decode cX12_doubles 31 = .ok (.invokevirtual 339, 3) := by decide +kernel
theorem dX12_doubles_34 : decode cX12_doubles 34 = .ok (.aload_n 0, 1) := by decide +kernel
theorem dX12_doubles_35 : decode cX12_doubles 35 = .ok (.invokevirtual 346, 3) := by decide +kernel
theorem dX12_doubles_38 : decode cX12_doubles 38 = .ok (.aload_n 0, 1) := by decide +kernel
theorem dX12_doubles_39 : decode cX12_doubles 39 = .ok (.getfield 324, 3) := by decide +kernel
theorem dX12_doubles_42 : decode cX12_doubles 42 = .ok (.istore 4, 2) := by decide +kernel
theorem dX12_doubles_44 : decode cX12_doubles 44 = .ok (.iconst 0, 1) := by decide +kernel
theorem dX12_doubles_45 : decode cX12_doubles 45 = .ok (.istore 5, 2) := by decide +kernel
theorem dX12_doubles_47 : decode cX12_doubles 47 = .ok (.iconst 0, 1) := by decide +kernel
theorem dX12_doubles_48 : decode cX12_doubles 48 = .ok (.istore 6, 2) := by decide +kernel
theorem dX12_doubles_50 : decode cX12_doubles 50 = .ok (.iload 6, 2) := by decide +kernel
theorem dX12_doubles_52 : decode cX12_doubles 52 = .ok (.aload_n 0, 1) := by decide +kernel
theorem dX12_doubles_53 : decode cX12_doubles 53 = .ok (.getfield 69, 3) := by decide +kernel
theorem dX12_doubles_56 : decode cX12_doubles 56 = .ok (.iload_n 1, 1) := by decide +kernel
theorem dX12_doubles_57 : decode cX12_doubles 57 = .ok (.iaload, 1) := by decide +kernel
theorem dX12_doubles_58 : decode cX12_doubles 58 = .ok (.if_icmp .ge 96, 3) := by decide +kernel
theorem dX12_doubles_61 : decode cX12_doubles 61 = .ok (.bipush 40, 2) := by decide +kernel
theorem dX12_doubles_63 : decode cX12_doubles 63 = .ok (.iload_n 1, 1) := by decide +kernel
theorem dX12_doubles_64 : decode cX12_doubles 64 = .ok (.imul, 1) := by decide +kernel
theorem dX12_doubles_65 : decode cX12_doubles 65 = .ok (.iload 6, 2) := by decide +kernel
theorem dX12_doubles_67 : decode cX12_doubles 67 = .ok (.iadd, 1) := by decide +kernel
theorem dX12_doubles_68 : decode cX12_doubles 68 = .ok (.istore 7, 2) := by decide +kernel
theorem dX12_doubles_70 : decode cX12_doubles 70 = .ok (.aload_n 0, 1) := by decide +kernel
theorem dX12_doubles_71 : decode cX12_doubles 71 = .ok (.getfield 75, 3) := by decide +kernel
theorem dX12_doubles_74 : decode cX12_doubles 74 = .ok (.iload 7, 2) := by decide +kernel
theorem dX12_doubles_76 : decode cX12_doubles 76 = .ok (.iaload, 1) := by decide +kernel
theorem dX12_doubles_77 : decode cX12_doubles 77 = .ok (.iload_n 2, 1) := by decide +kernel
theorem dX12_doubles_78 : decode cX12_doubles 78 = .ok (.if_icmp .ne 70, 3) := by decide +kernel
theorem dX12_doubles_81 : decode cX12_doubles 81 = .ok (.aload_n 0, 1) := by decide +kernel
theorem dX12_doubles_82 : decode cX12_doubles 82 = .ok (.getfield 81, 3) := by decide +kernel
theorem dX12_doubles_85 : decode cX12_doubles 85 = .ok (.iload 7, 2) := by decide +kernel
theorem dX12_doubles_87 : decode cX12_doubles 87 = .ok (.iaload, 1) := by decide +kernel
theorem dX12_doubles_88 : decode cX12_doubles 88 = .ok (.iload_n 3, 1) := by decide +kernel
theorem dX12_doubles_89 : decode cX12_doubles 89 = .ok (.ishr, 1) := by decide +kernel
theorem dX12_doubles_90 : decode cX12_doubles 90 = .ok (.iconst 1, 1) := by decide +kernel
theorem dX12_doubles_91 : decode cX12_doubles 91 = .ok (.iand, 1) := by decide +kernel
theorem dX12_doubles_92 : decode cX12_doubles 92 = .ok (.iconst 1, 1) := by decide +kernel
theorem dX12_doubles_93 : decode cX12_doubles 93 = .ok (.if_icmp .ne 55, 3) := by decide +kernel
theorem dX12_doubles_96 : decode cX12_doubles 96 = .ok (.aload_n 0, 1) := by decide +kernel
theorem dX12_doubles_97 : decode cX12_doubles 97 = .ok (.getfield 100, 3) := by decide +kernel
theorem dX12_doubles_100 : decode cX12_doubles 100 = .ok (.iload 6, 2) := by decide +kernel
theorem dX12_doubles_102 : decode cX12_doubles 102 = .ok (.iconst 1, 1) := by decide +kernel
theorem dX12_doubles_103 : decode cX12_doubles 103 = .ok (.bastore, 1) := by decide +kernel
theorem dX12_doubles_104 : decode cX12_doubles 104 = .ok (.aload_n 0, 1) := by decide +kernel
theorem dX12_doubles_105 : decode cX12_doubles 105 = .ok (.iload_n 1, 1) := by decide +kernel
theorem dX12_doubles_106 : decode cX12_doubles 106 = .ok (.iload_n 2, 1) := by decide +kernel
theorem dX12_doubles_107 : decode cX12_doubles 107 = .ok (.iload_n 3, 1) := by decide +kernel
theorem dX12_doubles_108 : decode cX12_doubles 108 = .ok (.aload_n 0, 1) := by decide +kernel
theorem dX12_doubles_109 : decode cX12_doubles 109 = .ok (.getfield 69, 3) := by decide +kernel
theorem dX12_doubles_112 : decode cX12_doubles 112 = .ok (.iload_n 1, 1) := by decide +kernel
theorem dX12_doubles_113 : decode cX12_doubles 113 = .ok (.iaload, 1) := by decide +kernel
theorem dX12_doubles_114 : decode cX12_doubles 114 = .ok (.invokevirtual 339, 3) := by decide +kernel
theorem dX12_doubles_117 : decode cX12_doubles 117 = .ok (.aload_n 0, 1) := by decide +kernel
theorem dX12_doubles_118 : decode cX12_doubles 118 = .ok (.invokevirtual 346, 3) := by decide +kernel
theorem dX12_doubles_121 : decode cX12_doubles 121 = .ok (.iload 5, 2) := by decide +kernel
theorem dX12_doubles_123 : decode cX12_doubles 123 = .ok (.aload_n 0, 1) := by decide +kernel
theorem dX12_doubles_124 : decode cX12_doubles 124 = .ok (.getfield 324, 3) := by decide +kernel
theorem dX12_doubles_127 : decode cX12_doubles 127 = .ok (.iload 4, 2) := by decide +kernel
theorem dX12_doubles_129 : decode cX12_doubles 129 = .ok (.if_icmp .ne 7, 3) := by decide +kernel
theorem dX12_doubles_132 : decode cX12_doubles 132 = .ok (.iconst 1, 1) := by decide +kernel
theorem dX12_doubles_133 : decode cX12_doubles 133 = .ok (.goto 4, 3) := by decide +kernel
theorem dX12_doubles_136 : decode cX12_doubles 136 = .ok (.iconst 0, 1) := by decide +kernel
theorem dX12_doubles_137 : decode cX12_doubles 137 = .ok (.iadd, 1) := by decide +kernel
theorem dX12_doubles_138 : decode cX12_doubles 138 = .ok (.istore 5, 2) := by decide +kernel
theorem dX12_doubles_140 : decode cX12_doubles 140 = .ok (.aload_n 0, 1) := by decide +kernel
theorem dX12_doubles_141 : decode cX12_doubles 141 = .ok (.getfield 100, 3) := by decide +kernel
theorem dX12_doubles_144 : decode cX12_doubles 144 = .ok (.iload 6, 2) := by decide +kernel
theorem dX12_doubles_146 : decode cX12_doubles 146 = .ok (.iconst 0, 1) := by decide +kernel
theorem dX12_doubles_147 : decode cX12_doubles 147 = .ok (.bastore, 1) := by decide +kernel
theorem dX12_doubles_148 : decode cX12_doubles 148 = .ok (.iinc 6 1, 3) := by decide +kernel
theorem dX12_doubles_151 : decode cX12_doubles 151 = .ok (.goto (-101), 3) := by decide +kernel
theorem dX12_doubles_154 : decode cX12_doubles 154 = .ok (.iload 5, 2) := by decide +kernel
theorem dX12_doubles_156 : decode cX12_doubles 156 = .ok (.ireturn, 1) := by decide +kernel
set_option maxHeartbeats 4000000 in
set_option maxRecDepth 100000 in
theorem s_X12_doubles {P : PP} {a0 : Nat} {a1 : Int32} {a2 : Int32} {a3 : Int32} (I : IM P a0) (hW : MW P a0) : CtrI yX12_doubles cX12_doubles 8 (some Jvm.ClassFile.FieldType.int) ({ frames := 5, cells := 0, slots := 0, locals := 320 } : Room) 0 0 P [.ref a0, .int a1, .int a2, .int a3] (fun r P2 => IM P2 a0 ∧ EM [0, 28, 29, 30, 31, 32, 35, 36, 37, 38] a0 P P2 ∧ MW P2 a0 ∧ (True)) := by
  refine enI (lv := [(0, .ref a0), (1, .int a1), (2, .int a2), (3, .int a3)]) (by decide) (Nat.le_of_ble_eq_true rfl) rfl (fun E D cy C Ci0 ret => ?_)
  have ha0 := I.2.1
  have J50 : ∀ (n50 : Nat) (P50 : PP) (v50_4 : Int32) (v50_5 : Int32) (v50_6 : Int32), (40 - v50_6.toInt).toNat < n50 → (IM P50 a0) → (EM [0, 28, 29, 30, 31, 32, 35, 36, 37, 38] a0 P P50) → (MW P50 a0) → (0 ≤ a1.toInt ∧ a1.toInt ≤ 3) → (0 ≤ a2.toInt ∧ a2.toInt ≤ 1) → (0 ≤ a3.toInt ∧ a3.toInt ≤ 1) → (0 ≤ v50_6.toInt ∧ v50_6.toInt ≤ 40) → (0 ≤ (pI P50 a0 0).toInt ∧ (pI P50 a0 0).toInt ≤ 0) → (0 ≤ (pI P50 a0 28).toInt ∧ (pI P50 a0 28).toInt ≤ 44) → (∀ b, pR P50 a0 10 = some b → 1 ≤ (pI P50 b (a2.toInt.toNat)).toInt ∧ (pI P50 b (a2.toInt.toNat)).toInt ≤ 16) → G E ({ frames := 5, cells := 0, slots := 0, locals := 320 } : Room) D cy 8 P50 0 0 50 [(0, .ref a0), (1, .int a1), (2, .int a2), (3, .int a3), (4, .int v50_4), (5, .int v50_5), (6, .int v50_6)] [] := by
    intro n50
    induction n50 with
    | zero => intro P50 v50_4 v50_5 v50_6 hm50 I50 X50 W50 hv50_1 hv50_2 hv50_3 hv50_6 hq50_0 hq50_1 hq50_2; omega
    | succ n50 ih50 =>
      intro P50 v50_4 v50_5 v50_6 hm50 I50 X50 W50 hv50_1 hv50_2 hv50_3 hv50_6 hq50_0 hq50_1 hq50_2
      have h63850 := X50.at ha0
      obtain ⟨b63851, e63852, h63853⟩ := I50.fld (h63850) 10 13 2 rfl
      have hq50_2 := hq50_2 b63851 e63852
      have J148 : ∀ (P148 : PP) (v148_5 : Int32), (IM P148 a0) → (EM [0, 28, 29, 30, 31, 32, 35, 36, 37, 38] a0 P P148) → (MW P148 a0) → (0 ≤ a1.toInt ∧ a1.toInt ≤ 3) → (0 ≤ a2.toInt ∧ a2.toInt ≤ 1) → (0 ≤ a3.toInt ∧ a3.toInt ≤ 1) → (0 ≤ v50_6.toInt ∧ v50_6.toInt ≤ 39) → (0 ≤ (pI P148 a0 0).toInt ∧ (pI P148 a0 0).toInt ≤ 0) → (0 ≤ (pI P148 a0 28).toInt ∧ (pI P148 a0 28).toInt ≤ 44) → (∀ b, pR P148 a0 10 = some b → 1 ≤ (pI P148 b (a2.toInt.toNat)).toInt ∧ (pI P148 b (a2.toInt.toNat)).toInt ≤ 16) → (∀ b, pR P148 a0 20 = some b → 1 ≤ (pI P148 b (a1.toInt.toNat)).toInt ∧ (pI P148 b (a1.toInt.toNat)).toInt ≤ 40) → G E ({ frames := 5, cells := 0, slots := 0, locals := 320 } : Room) D cy 8 P148 0 0 148 [(0, .ref a0), (1, .int a1), (2, .int a2), (3, .int a3), (4, .int v50_4), (5, .int v148_5), (6, .int v50_6)] [] := by
        intro P148 v148_5 I148 X148 W148 hv148_1 hv148_2 hv148_3 hv148_6 hq148_0 hq148_1 hq148_2 hq148_3
        have h63854 := X148.at ha0
        obtain ⟨b63855, e63856, h63857⟩ := I148.fld (h63854) 10 13 2 rfl
        have hq148_2 := hq148_2 b63855 e63856
        obtain ⟨b63858, e63859, h63860⟩ := I148.fld (h63854) 20 13 20 rfl
        have hq148_3 := hq148_3 b63858 e63859
        refine s_iinc (lv0 := [(0, .ref a0), (1, .int a1), (2, .int a2), (3, .int a3), (4, .int v50_4), (5, .int v148_5)]) (m := 1) C dX12_doubles_148 6 rfl (by decide) rfl (by decide) (by omega) (fun z63861 h63862 => ?_)
        have h63862 : z63861.toInt = v50_6.toInt + 1 := h63862
        refine g_goto C 50 dX12_doubles_151 (by decide) ?_
        refine g_lv (lv' := [(0, .ref a0), (1, .int a1), (2, .int a2), (3, .int a3), (4, .int v50_4), (5, .int v148_5), (6, .int z63861)]) [1, 2, 3, 4, 5, 6, 0] rfl ?_
        exact ih50 P148 v50_4 v148_5 z63861 (by omega) I148 X148 W148 (by omega) (by omega) (by omega) (by omega) (by omega) (by omega) (fun b9 e9 => by rw [e63856] at e9; cases e9; omega)
      have J137 : ∀ (P137 : PP) (v137_s0 : Int32), (IM P137 a0) → (EM [0, 28, 29, 30, 31, 32, 35, 36, 37, 38] a0 P P137) → (MW P137 a0) → (0 ≤ a1.toInt ∧ a1.toInt ≤ 3) → (0 ≤ a2.toInt ∧ a2.toInt ≤ 1) → (0 ≤ a3.toInt ∧ a3.toInt ≤ 1) → (0 ≤ v50_6.toInt ∧ v50_6.toInt ≤ 39) → (0 ≤ v137_s0.toInt ∧ v137_s0.toInt ≤ 1) → (0 ≤ (pI P137 a0 0).toInt ∧ (pI P137 a0 0).toInt ≤ 0) → (0 ≤ (pI P137 a0 28).toInt ∧ (pI P137 a0 28).toInt ≤ 44) → (∀ b, pR P137 a0 10 = some b → 1 ≤ (pI P137 b (a2.toInt.toNat)).toInt ∧ (pI P137 b (a2.toInt.toNat)).toInt ≤ 16) → (∀ b, pR P137 a0 20 = some b → 1 ≤ (pI P137 b (a1.toInt.toNat)).toInt ∧ (pI P137 b (a1.toInt.toNat)).toInt ≤ 40) → (∀ b, pR P137 a0 32 = some b → 1 ≤ (pI P137 b (v50_6.toInt.toNat)).toInt ∧ (pI P137 b (v50_6.toInt.toNat)).toInt ≤ 1) → G E ({ frames := 5, cells := 0, slots := 0, locals := 320 } : Room) D cy 8 P137 0 0 137 [(0, .ref a0), (1, .int a1), (2, .int a2), (3, .int a3), (4, .int v50_4), (6, .int v50_6)] [.int v137_s0, .int v50_5] := by
        intro P137 v137_s0 I137 X137 W137 hv137_1 hv137_2 hv137_3 hv137_6 hv137_s0 hq137_0 hq137_1 hq137_2 hq137_3 hq137_4
        have h63863 := X137.at ha0
        obtain ⟨b63864, e63865, h63866⟩ := I137.fld (h63863) 10 13 2 rfl
        have hq137_2 := hq137_2 b63864 e63865
        obtain ⟨b63867, e63868, h63869⟩ := I137.fld (h63863) 20 13 20 rfl
        have hq137_3 := hq137_3 b63867 e63868
        obtain ⟨b63870, e63871, h63872⟩ := I137.fld (h63863) 32 15 40 rfl
        have hq137_4 := hq137_4 b63870 e63871
        refine a_iadd C dX12_doubles_137 (fun z63873 => ?_)
        refine g_istore (lv' := [(5, .int z63873), (0, .ref a0), (1, .int a1), (2, .int a2), (3, .int a3), (4, .int v50_4), (6, .int v50_6)]) C dX12_doubles_138 (by decide) rfl ?_
        refine g_aload_n C dX12_doubles_140 rfl 1 rfl ?_
        refine g_getR C fi_X12_100 rfl e63871 (h63863).1 (h63863).2 dX12_doubles_141 ?_
        refine g_iload C dX12_doubles_144 6 rfl ?_
        refine g_iconst (v := 0) C dX12_doubles_146 (by decide) ?_
        refine g_zast (j := (v50_6.toInt.toNat)) C h63872.1 h63872.2.1 (ix_in h63872.2.2 (by omega)) (Or.inl rfl) dX12_doubles_147 ?_
        refine gqW (ks := [32]) (I137.setA e63871 h63872 (by decide) (arOk.none rfl)) (EM.setA I137 e63871 rfl (by decide)) (fun Y63875 Iy63876 Xy63877 w63878  => ?_)
        have w63878 : (pI Y63875 b63870 (v50_6.toInt.toNat)).toInt = 0 := w63878
        have q63879 := Xy63877.keepF 0 (by decide)
        have q63880 := Xy63877.keepF 28 (by decide)
        have q63881 := Xy63877.keepA e63865 (by decide) rfl (a2.toInt.toNat)
        have q63882 := Xy63877.keepA e63868 (by decide) rfl (a1.toInt.toNat)
        have W63883 := W137.keep I137 Xy63877 (by decide) (by decide) (by decide) (by decide)
        have Xz63884 : EM [0, 28, 29, 30, 31, 32, 35, 36, 37, 38] a0 P Y63875 := EM.tr ha0 X137 (Xy63877.mono (by decide))
        have e63885 := Xy63877.ref h63863 (by decide) e63865
        have e63886 := Xy63877.ref h63863 (by decide) e63868
        have e63887 := Xy63877.ref h63863 (by decide) e63871
        have h63888 := Xy63877.at h63863
        have h63889 := Xy63877.ar h63866
        have h63890 := Xy63877.ar h63869
        have h63891 := Xy63877.ar h63872
        refine g_lv (lv' := [(0, .ref a0), (1, .int a1), (2, .int a2), (3, .int a3), (4, .int v50_4), (5, .int z63873), (6, .int v50_6)]) [1, 2, 3, 4, 5, 0, 6] rfl ?_
        exact J148 Y63875 z63873 Iy63876 Xz63884 W63883 (by omega) (by omega) (by omega) (by omega) (by omega) (by omega) (fun b9 e9 => by rw [e63885] at e9; cases e9; omega) (fun b9 e9 => by rw [e63886] at e9; cases e9; omega)
      refine g_iload C dX12_doubles_50 6 rfl ?_
      refine g_aload_n C dX12_doubles_52 rfl 0 rfl ?_
      obtain ⟨b63892, e63893, h63894⟩ := I50.fld (h63850) 20 13 20 rfl
      refine g_getR C fi_X12_69 rfl e63893 (h63850).1 (h63850).2 dX12_doubles_53 ?_
      refine g_iload_n C dX12_doubles_56 rfl 1 rfl ?_
      refine g_iald (j := (a1.toInt.toNat)) C h63894.1 h63894.2.1 (ix_in h63894.2.2 (by omega)) dX12_doubles_57 ?_
      have h63895 := I50.arr e63893 rfl (a1.toInt.toNat)
      refine b_icmp_ge C 154 dX12_doubles_58 (by decide) (fun h63896 => ?_) (fun h63896 => ?_)
      · have h63896 : (pI P50 b63892 (a1.toInt.toNat)).toInt ≤ v50_6.toInt := h63896
        refine g_iload C dX12_doubles_154 5 rfl ?_
        exact ret _ _ _ _ _ _ dX12_doubles_156 rfl (by decide) (by decide) ⟨I50, X50, W50, trivial⟩
      · have h63896 : v50_6.toInt < (pI P50 b63892 (a1.toInt.toNat)).toInt := h63896
        refine g_bipush (v := 40) C dX12_doubles_61 (by decide) ?_
        refine g_iload_n C dX12_doubles_63 rfl 1 rfl ?_
        refine s_imul C dX12_doubles_64 (by show -2147483648 ≤ 40 * a1.toInt ∧ 40 * a1.toInt ≤ 2147483647; omega) (fun z63897 h63898 => ?_)
        have h63898 : z63897.toInt = 40 * a1.toInt := h63898
        refine g_iload C dX12_doubles_65 6 rfl ?_
        refine s_iadd C dX12_doubles_67 (by show -2147483648 ≤ z63897.toInt + v50_6.toInt ∧ z63897.toInt + v50_6.toInt ≤ 2147483647; omega) (fun z63899 h63900 => ?_)
        have h63900 : z63899.toInt = z63897.toInt + v50_6.toInt := h63900
        refine g_istore (lv' := [(7, .int z63899), (0, .ref a0), (1, .int a1), (2, .int a2), (3, .int a3), (4, .int v50_4), (5, .int v50_5), (6, .int v50_6)]) C dX12_doubles_68 (by decide) rfl ?_
        refine g_aload_n C dX12_doubles_70 rfl 1 rfl ?_
        obtain ⟨b63901, e63902, h63903⟩ := I50.fld (h63850) 22 13 800 rfl
        refine g_getR C fi_X12_75 rfl e63902 (h63850).1 (h63850).2 dX12_doubles_71 ?_
        refine g_iload C dX12_doubles_74 0 rfl ?_
        refine g_iald (j := (z63899.toInt.toNat)) C h63903.1 h63903.2.1 (ix_in h63903.2.2 (by omega)) dX12_doubles_76 ?_
        have h63904 := I50.arr e63902 rfl (z63899.toInt.toNat)
        refine g_iload_n C dX12_doubles_77 rfl 3 rfl ?_
        refine b_icmp_ne C 148 dX12_doubles_78 (by decide) (fun h63905 => ?_) (fun h63905 => ?_)
        · have h63905 : (pI P50 b63901 (z63899.toInt.toNat)).toInt ≠ a2.toInt := ti_ne h63905
          refine g_lv (lv' := [(0, .ref a0), (1, .int a1), (2, .int a2), (3, .int a3), (4, .int v50_4), (5, .int v50_5), (6, .int v50_6)]) [1, 2, 3, 4, 5, 6, 7] rfl ?_
          exact J148 P50 v50_5 I50 X50 W50 (by omega) (by omega) (by omega) (by omega) (by omega) (by omega) (fun b9 e9 => by rw [e63852] at e9; cases e9; omega) (fun b9 e9 => by rw [e63893] at e9; cases e9; omega)
        · have h63905 : (pI P50 b63901 (z63899.toInt.toNat)).toInt = a2.toInt := congrArg Int32.toInt h63905
          refine g_aload_n C dX12_doubles_81 rfl 1 rfl ?_
          obtain ⟨b63906, e63907, h63908⟩ := I50.fld (h63850) 24 13 800 rfl
          refine g_getR C fi_X12_81 rfl e63907 (h63850).1 (h63850).2 dX12_doubles_82 ?_
          refine g_iload C dX12_doubles_85 0 rfl ?_
          refine g_iald (j := (z63899.toInt.toNat)) C h63908.1 h63908.2.1 (ix_in h63908.2.2 (by omega)) dX12_doubles_87 ?_
          refine g_iload_n C dX12_doubles_88 rfl 4 rfl ?_
          refine a_ishr C dX12_doubles_89 (fun z63909 => ?_)
          refine g_iconst (v := 1) C dX12_doubles_90 (by decide) ?_
          refine s_iand C dX12_doubles_91 (by show 0 ≤ 1; omega) (fun z63911 h63912 => ?_)
          have h63912 : 0 ≤ z63911.toInt ∧ z63911.toInt ≤ 1 := h63912
          refine g_iconst (v := 1) C dX12_doubles_92 (by decide) ?_
          refine b_icmp_ne C 148 dX12_doubles_93 (by decide) (fun h63913 => ?_) (fun h63913 => ?_)
          · have h63913 : z63911.toInt ≠ 1 := ti_ne h63913
            refine g_lv (lv' := [(0, .ref a0), (1, .int a1), (2, .int a2), (3, .int a3), (4, .int v50_4), (5, .int v50_5), (6, .int v50_6)]) [1, 2, 3, 4, 5, 6, 7] rfl ?_
            exact J148 P50 v50_5 I50 X50 W50 (by omega) (by omega) (by omega) (by omega) (by omega) (by omega) (fun b9 e9 => by rw [e63852] at e9; cases e9; omega) (fun b9 e9 => by rw [e63893] at e9; cases e9; omega)
          · have h63913 : z63911.toInt = 1 := congrArg Int32.toInt h63913
            refine g_aload_n C dX12_doubles_96 rfl 1 rfl ?_
            obtain ⟨b63914, e63915, h63916⟩ := I50.fld (h63850) 32 15 40 rfl
            refine g_getR C fi_X12_100 rfl e63915 (h63850).1 (h63850).2 dX12_doubles_97 ?_
            refine g_iload C dX12_doubles_100 7 rfl ?_
            refine g_iconst (v := 1) C dX12_doubles_102 (by decide) ?_
            refine g_zast (j := (v50_6.toInt.toNat)) C h63916.1 h63916.2.1 (ix_in h63916.2.2 (by omega)) (Or.inr rfl) dX12_doubles_103 ?_
            refine gqW (ks := [32]) (I50.setA e63915 h63916 (by decide) (arOk.none rfl)) (EM.setA I50 e63915 rfl (by decide)) (fun Y63917 Iy63918 Xy63919 w63920  => ?_)
            have w63920 : (pI Y63917 b63914 (v50_6.toInt.toNat)).toInt = 1 := w63920
            have q63921 := Xy63919.keepF 0 (by decide)
            have q63922 := Xy63919.keepF 28 (by decide)
            have q63923 := Xy63919.keepA e63852 (by decide) rfl (a2.toInt.toNat)
            have q63924 := Xy63919.keepA e63893 (by decide) rfl (a1.toInt.toNat)
            have q63925 := Xy63919.keepA e63902 (by decide) rfl (z63899.toInt.toNat)
            have W63926 := W50.keep I50 Xy63919 (by decide) (by decide) (by decide) (by decide)
            have Xz63927 : EM [0, 28, 29, 30, 31, 32, 35, 36, 37, 38] a0 P Y63917 := EM.tr ha0 X50 (Xy63919.mono (by decide))
            have e63928 := Xy63919.ref h63850 (by decide) e63852
            have e63929 := Xy63919.ref h63850 (by decide) e63893
            have e63930 := Xy63919.ref h63850 (by decide) e63902
            have e63931 := Xy63919.ref h63850 (by decide) e63915
            have h63932 := Xy63919.at h63850
            have h63933 := Xy63919.ar h63853
            have h63934 := Xy63919.ar h63894
            have h63935 := Xy63919.ar h63903
            have h63936 := Xy63919.ar h63916
            refine g_aload_n C dX12_doubles_104 rfl 1 rfl ?_
            refine g_iload_n C dX12_doubles_105 rfl 2 rfl ?_
            refine g_iload_n C dX12_doubles_106 rfl 3 rfl ?_
            refine g_iload_n C dX12_doubles_107 rfl 4 rfl ?_
            refine g_aload_n C dX12_doubles_108 rfl 1 rfl ?_
            refine g_getR C fi_X12_69 rfl e63929 (h63932).1 (h63932).2 dX12_doubles_109 ?_
            refine g_iload_n C dX12_doubles_112 rfl 2 rfl ?_
            refine g_iald (j := (a1.toInt.toNat)) C h63934.1 h63934.2.1 (ix_in h63934.2.2 (by omega)) dX12_doubles_113 ?_
            refine g_callVV (rest := []) C mv_X12_339 [.int a1, .int a2, .int a3, .int (pI Y63917 b63892 (a1.toInt.toNat))] (s_X12_gathers Iy63918 (by omega) (by omega) (by omega) (fun b9 e9 => by rw [e63928] at e9; cases e9; show 1 ≤ (pI Y63917 b63851 (a2.toInt.toNat)).toInt ∧ (pI Y63917 b63851 (a2.toInt.toNat)).toInt ≤ 16; omega) W63926) (h63932).1 (h63932).2 rfl rfl (by decide) (Nat.le_of_ble_eq_true rfl) (by decide) dX12_doubles_114 (fun Y63938 h63939 => ?_)
            obtain ⟨Iy63940, Xy63941, W63942, p63943, p63944⟩ := h63939
            have p63943 : (pI Y63938 a0 28).toInt ≤ 4 + (pI Y63917 b63892 (a1.toInt.toNat)).toInt := p63943
            have q63945 := Xy63941.keepF 0 (by decide)
            have q63946 := Xy63941.keepA e63928 (by decide) rfl (a2.toInt.toNat)
            have q63947 := Xy63941.keepA e63929 (by decide) rfl (a1.toInt.toNat)
            have q63948 := Xy63941.keepA e63930 (by decide) rfl (z63899.toInt.toNat)
            have q63949 := Xy63941.keepA e63931 (by decide) rfl (v50_6.toInt.toNat)
            have Xz63950 : EM [0, 28, 29, 30, 31, 32, 35, 36, 37, 38] a0 P Y63938 := EM.tr ha0 Xz63927 (Xy63941.mono (by decide))
            have e63951 := Xy63941.ref h63932 (by decide) e63928
            have e63952 := Xy63941.ref h63932 (by decide) e63929
            have e63953 := Xy63941.ref h63932 (by decide) e63930
            have e63954 := Xy63941.ref h63932 (by decide) e63931
            have h63955 := Xy63941.at h63932
            have h63956 := Xy63941.ar h63933
            have h63957 := Xy63941.ar h63934
            have h63958 := Xy63941.ar h63935
            have h63959 := Xy63941.ar h63936
            have p63944 := p63944 b63901 e63953
            rw [Xz63950.2.2.2 22 (by decide) rfl b63901 (EM.refB Xz63950 ha0 e63953)] at p63944
            have p63944 : (pI Y63938 a0 28).toInt ≤ 4 + kC (pI P b63901) (40 * a1.toInt).toNat a2.toInt ((pI Y63917 b63892 (a1.toInt.toNat)).toInt : Int).toNat := p63944
            have h63960 := Iy63940.rg h63955 28 rfl
            refine g_aload_n C dX12_doubles_117 rfl 1 rfl ?_
            refine g_callVV (rest := []) C mv_X12_346 [] (s_X12_findSolved Iy63940 W63942) (h63955).1 (h63955).2 rfl rfl (by decide) (Nat.le_of_ble_eq_true rfl) (by decide) dX12_doubles_118 (fun Y63962 h63963 => ?_)
            obtain ⟨Iy63964, Xy63965, W63966⟩ := h63963
            have q63967 := Xy63965.keepF 0 (by decide)
            have q63968 := Xy63965.keepA e63951 (by decide) rfl (a2.toInt.toNat)
            have q63969 := Xy63965.keepA e63952 (by decide) rfl (a1.toInt.toNat)
            have q63970 := Xy63965.keepA e63953 (by decide) rfl (z63899.toInt.toNat)
            have q63971 := Xy63965.keepA e63954 (by decide) rfl (v50_6.toInt.toNat)
            have q63972 := Xy63965.keepF 28 (by decide)
            have Xz63973 : EM [0, 28, 29, 30, 31, 32, 35, 36, 37, 38] a0 P Y63962 := EM.tr ha0 Xz63950 (Xy63965.mono (by decide))
            have e63974 := Xy63965.ref h63955 (by decide) e63951
            have e63975 := Xy63965.ref h63955 (by decide) e63952
            have e63976 := Xy63965.ref h63955 (by decide) e63953
            have e63977 := Xy63965.ref h63955 (by decide) e63954
            have h63978 := Xy63965.at h63955
            have h63979 := Xy63965.ar h63956
            have h63980 := Xy63965.ar h63957
            have h63981 := Xy63965.ar h63958
            have h63982 := Xy63965.ar h63959
            refine g_iload C dX12_doubles_121 6 rfl ?_
            refine g_aload_n C dX12_doubles_123 rfl 1 rfl ?_
            refine g_getI C fi_X12_324 (by decide) (h63978).1 (h63978).2 dX12_doubles_124 ?_
            refine g_iload C dX12_doubles_127 5 rfl ?_
            have u63984 := ti_rng (pI Y63962 a0 35)
            have u63985 := ti_rng v50_4
            refine b_icmp_ne C 136 dX12_doubles_129 (by decide) (fun h63983 => ?_) (fun h63983 => ?_)
            · have h63983 : (pI Y63962 a0 35).toInt ≠ v50_4.toInt := ti_ne h63983
              refine g_iconst (v := 0) C dX12_doubles_136 (by decide) ?_
              refine g_lv (lv' := [(0, .ref a0), (1, .int a1), (2, .int a2), (3, .int a3), (4, .int v50_4), (6, .int v50_6)]) [1, 2, 3, 4, 5, 7] rfl ?_
              exact J137 Y63962 0 Iy63964 Xz63973 W63966 (by omega) (by omega) (by omega) (by omega) (by decide) (by omega) (by omega) (fun b9 e9 => by rw [e63974] at e9; cases e9; omega) (fun b9 e9 => by rw [e63975] at e9; cases e9; omega) (fun b9 e9 => by rw [e63977] at e9; cases e9; omega)
            · have h63983 : (pI Y63962 a0 35).toInt = v50_4.toInt := congrArg Int32.toInt h63983
              refine g_iconst (v := 1) C dX12_doubles_132 (by decide) ?_
              refine g_goto C 137 dX12_doubles_133 (by decide) ?_
              refine g_lv (lv' := [(0, .ref a0), (1, .int a1), (2, .int a2), (3, .int a3), (4, .int v50_4), (6, .int v50_6)]) [1, 2, 3, 4, 5, 7] rfl ?_
              exact J137 Y63962 1 Iy63964 Xz63973 W63966 (by omega) (by omega) (by omega) (by omega) (by decide) (by omega) (by omega) (fun b9 e9 => by rw [e63974] at e9; cases e9; omega) (fun b9 e9 => by rw [e63975] at e9; cases e9; omega) (fun b9 e9 => by rw [e63977] at e9; cases e9; omega)
  refine g_aload_n C dX12_doubles_0 rfl 0 rfl ?_
  refine g_iconst (v := 0) C dX12_doubles_1 (by decide) ?_
  refine g_putI C fi_X12_1 rfl (ha0).1 (ha0).2 dX12_doubles_2 ?_
  refine gqW (ks := [0]) (I.setI (rgOk.of rfl (by decide))) (EM.setI I (by decide)) (fun Y63986 Iy63987 Xy63988 w63989  => ?_)
  have w63989 : (pI Y63986 a0 0).toInt = 0 := w63989
  have W63990 := hW.keep I Xy63988 (by decide) (by decide) (by decide) (by decide)
  have Xz63991 : EM [0, 28, 29, 30, 31, 32, 35, 36, 37, 38] a0 P Y63986 := Xy63988.mono (by decide)
  have h63992 := Xy63988.at ha0
  refine g_aload_n C dX12_doubles_5 rfl 0 rfl ?_
  refine g_iload_n C dX12_doubles_6 rfl 1 rfl ?_
  refine g_iload_n C dX12_doubles_7 rfl 2 rfl ?_
  refine g_iload_n C dX12_doubles_8 rfl 3 rfl ?_
  refine g_callVI (rest := []) C mv_X12_333 [.int a1, .int a2, .int a3] (s_X12_isAsked Iy63987 W63990) (h63992).1 (h63992).2 rfl rfl (by decide) (Nat.le_of_ble_eq_true rfl) (by decide) dX12_doubles_9 (fun r63993 Y63994 h63995 => ?_)
  obtain ⟨rfl, h63995⟩ := h63995
  obtain ⟨h63995, hi63996, hi63997⟩ := h63995
  have hi63996 : r63993.toInt = 0 ∨ (((0 : Int) ≤ a1.toInt ∧ a1.toInt ≤ (3 : Int)) ∧ ((0 : Int) ≤ a2.toInt ∧ a2.toInt ≤ (1 : Int)) ∧ ((0 : Int) ≤ a3.toInt ∧ a3.toInt ≤ (1 : Int))) := hi63996
  have h63995 : 0 ≤ r63993.toInt ∧ r63993.toInt ≤ 1 := h63995
  refine b_if_ne C 17 dX12_doubles_12 (by decide) (fun h63998 => ?_) (fun h63998 => ?_)
  · have h63998 : r63993.toInt ≠ 0 := ti_ne h63998
    replace hi63996 := hi63996.resolve_left (by omega)
    obtain ⟨b63999, e64000, h64001⟩ := Iy63987.fld (h63992) 10 13 2 rfl
    have hi63997 := (hi63997.resolve_left (by omega)) b63999 e64000
    have hi63997 : 0 < (pI Y63986 b63999 (a2.toInt.toNat)).toInt := hi63997
    have h64002 := Iy63987.arr e64000 rfl (a2.toInt.toNat)
    refine g_aload_n C dX12_doubles_17 rfl 0 rfl ?_
    refine g_callVV (rest := []) C mv_X12_336 [] (s_X12_leavesNone Iy63987 W63990) (h63992).1 (h63992).2 rfl rfl (by decide) (Nat.le_of_ble_eq_true rfl) (by decide) dX12_doubles_18 (fun Y64004 h64005 => ?_)
    obtain ⟨Iy64006, Xy64007, W64008⟩ := h64005
    have q64009 := Xy64007.keepF 0 (by decide)
    have q64010 := Xy64007.keepA e64000 (by decide) rfl (a2.toInt.toNat)
    have Xz64011 : EM [0, 28, 29, 30, 31, 32, 35, 36, 37, 38] a0 P Y64004 := EM.tr ha0 Xz63991 (Xy64007.mono (by decide))
    have e64012 := Xy64007.ref h63992 (by decide) e64000
    have h64013 := Xy64007.at h63992
    have h64014 := Xy64007.ar h64001
    refine g_aload_n C dX12_doubles_21 rfl 0 rfl ?_
    refine g_iload_n C dX12_doubles_22 rfl 1 rfl ?_
    refine g_iload_n C dX12_doubles_23 rfl 2 rfl ?_
    refine g_iload_n C dX12_doubles_24 rfl 3 rfl ?_
    refine g_aload_n C dX12_doubles_25 rfl 0 rfl ?_
    obtain ⟨b64015, e64016, h64017⟩ := Iy64006.fld (h64013) 20 13 20 rfl
    refine g_getR C fi_X12_69 rfl e64016 (h64013).1 (h64013).2 dX12_doubles_26 ?_
    refine g_iload_n C dX12_doubles_29 rfl 1 rfl ?_
    refine g_iald (j := (a1.toInt.toNat)) C h64017.1 h64017.2.1 (ix_in h64017.2.2 (by omega)) dX12_doubles_30 ?_
    have h64018 := Iy64006.arr e64016 rfl (a1.toInt.toNat)
    refine g_callVV (rest := []) C mv_X12_339 [.int a1, .int a2, .int a3, .int (pI Y64004 b64015 (a1.toInt.toNat))] (s_X12_gathers Iy64006 (by omega) (by omega) (by omega) (fun b9 e9 => by rw [e64012] at e9; cases e9; show 1 ≤ (pI Y64004 b63999 (a2.toInt.toNat)).toInt ∧ (pI Y64004 b63999 (a2.toInt.toNat)).toInt ≤ 16; omega) W64008) (h64013).1 (h64013).2 rfl rfl (by decide) (Nat.le_of_ble_eq_true rfl) (by decide) dX12_doubles_31 (fun Y64020 h64021 => ?_)
    obtain ⟨Iy64022, Xy64023, W64024, p64025, p64026⟩ := h64021
    have p64025 : (pI Y64020 a0 28).toInt ≤ 4 + (pI Y64004 b64015 (a1.toInt.toNat)).toInt := p64025
    have q64027 := Xy64023.keepF 0 (by decide)
    have q64028 := Xy64023.keepA e64012 (by decide) rfl (a2.toInt.toNat)
    have q64029 := Xy64023.keepA e64016 (by decide) rfl (a1.toInt.toNat)
    have Xz64030 : EM [0, 28, 29, 30, 31, 32, 35, 36, 37, 38] a0 P Y64020 := EM.tr ha0 Xz64011 (Xy64023.mono (by decide))
    have e64031 := Xy64023.ref h64013 (by decide) e64012
    have e64032 := Xy64023.ref h64013 (by decide) e64016
    have h64033 := Xy64023.at h64013
    have h64034 := Xy64023.ar h64014
    have h64035 := Xy64023.ar h64017
    obtain ⟨b64036, e64037, h64038⟩ := Iy64022.fld (h64033) 22 13 800 rfl
    have p64026 := p64026 b64036 e64037
    rw [Xz64030.2.2.2 22 (by decide) rfl b64036 (EM.refB Xz64030 ha0 e64037)] at p64026
    have p64026 : (pI Y64020 a0 28).toInt ≤ 4 + kC (pI P b64036) (40 * a1.toInt).toNat a2.toInt ((pI Y64004 b64015 (a1.toInt.toNat)).toInt : Int).toNat := p64026
    have h64039 := Iy64022.rg h64033 28 rfl
    refine g_aload_n C dX12_doubles_34 rfl 0 rfl ?_
    refine g_callVV (rest := []) C mv_X12_346 [] (s_X12_findSolved Iy64022 W64024) (h64033).1 (h64033).2 rfl rfl (by decide) (Nat.le_of_ble_eq_true rfl) (by decide) dX12_doubles_35 (fun Y64041 h64042 => ?_)
    obtain ⟨Iy64043, Xy64044, W64045⟩ := h64042
    have q64046 := Xy64044.keepF 0 (by decide)
    have q64047 := Xy64044.keepA e64031 (by decide) rfl (a2.toInt.toNat)
    have q64048 := Xy64044.keepA e64032 (by decide) rfl (a1.toInt.toNat)
    have q64049 := Xy64044.keepF 28 (by decide)
    have Xz64050 : EM [0, 28, 29, 30, 31, 32, 35, 36, 37, 38] a0 P Y64041 := EM.tr ha0 Xz64030 (Xy64044.mono (by decide))
    have e64051 := Xy64044.ref h64033 (by decide) e64031
    have e64052 := Xy64044.ref h64033 (by decide) e64032
    have h64053 := Xy64044.at h64033
    have h64054 := Xy64044.ar h64034
    have h64055 := Xy64044.ar h64035
    refine g_aload_n C dX12_doubles_38 rfl 0 rfl ?_
    refine g_getI C fi_X12_324 (by decide) (h64053).1 (h64053).2 dX12_doubles_39 ?_
    refine g_topi (fun z64056 h64057 => ?_)
    have h64057 : z64056.toInt = (pI Y64041 a0 35).toInt := congrArg Int32.toInt h64057
    refine g_istore (lv' := [(4, .int z64056), (0, .ref a0), (1, .int a1), (2, .int a2), (3, .int a3)]) C dX12_doubles_42 (by decide) rfl ?_
    refine g_iconst (v := 0) C dX12_doubles_44 (by decide) ?_
    refine g_istore (lv' := [(5, .int 0), (4, .int z64056), (0, .ref a0), (1, .int a1), (2, .int a2), (3, .int a3)]) C dX12_doubles_45 (by decide) rfl ?_
    refine g_iconst (v := 0) C dX12_doubles_47 (by decide) ?_
    refine g_istore (lv' := [(6, .int 0), (5, .int 0), (4, .int z64056), (0, .ref a0), (1, .int a1), (2, .int a2), (3, .int a3)]) C dX12_doubles_48 (by decide) rfl ?_
    refine g_lv (lv' := [(0, .ref a0), (1, .int a1), (2, .int a2), (3, .int a3), (4, .int z64056), (5, .int 0), (6, .int 0)]) [3, 4, 5, 6, 2, 1, 0] rfl ?_
    exact J50 _ Y64041 z64056 0 0 (Nat.lt_succ_self _) Iy64043 Xz64050 W64045 (by omega) (by omega) (by omega) (by decide) (by omega) (by omega) (fun b9 e9 => by rw [e64051] at e9; cases e9; omega)
  · have h63998 : r63993.toInt = 0 := congrArg Int32.toInt h63998
    clear hi63996
    refine g_iconst (v := (-1)) C dX12_doubles_15 (by decide) ?_
    exact ret _ _ _ _ _ _ dX12_doubles_16 rfl (by decide) (by decide) ⟨Iy63987, Xz63991, W63990, trivial⟩
theorem dX12_draw_0 : decode cX12_draw 0 = .ok (.aload_n 0, 1) := by decide +kernel
theorem dX12_draw_1 : decode cX12_draw 1 = .ok (.iconst 0, 1) := by decide +kernel
theorem dX12_draw_2 : decode cX12_draw 2 = .ok (.putfield 1, 3) := by decide +kernel
theorem dX12_draw_5 : decode cX12_draw 5 = .ok (.aload_n 0, 1) := by decide +kernel
theorem dX12_draw_6 : decode cX12_draw 6 = .ok (.iload_n 1, 1) := by decide +kernel
theorem dX12_draw_7 : decode cX12_draw 7 = .ok (.invokevirtual 192, 3) := by decide +kernel
theorem dX12_draw_10 : decode cX12_draw 10 = .ok (.ifCond .eq 11, 3) := by decide +kernel
theorem dX12_draw_13 : decode cX12_draw 13 = .ok (.aload_n 0, 1) := by decide +kernel
theorem dX12_draw_14 : decode cX12_draw 14 = .ok (.iload_n 1, 1) := by decide +kernel
theorem dX12_draw_15 : decode cX12_draw 15 = .ok (.invokevirtual 196, 3) := by decide +kernel
theorem dX12_isOut_0 : decode cX12_isOut 0 = .ok (.iconst 0, 1) := by decide +kernel
theorem dX12_isOut_1 : decode cX12_isOut 1 = .ok (.istore_n 2, 1) := by decide +kernel
theorem dX12_isOut_2 : decode cX12_isOut 2 = .ok (.iconst 0, 1) := by decide +kernel
theorem dX12_isOut_3 : decode cX12_isOut 3 = .ok (.istore_n 3, 1) := by decide +kernel
theorem dX12_isOut_4 : decode cX12_isOut 4 = .ok (.iload_n 3, 1) := by decide +kernel
theorem dX12_isOut_5 : decode cX12_isOut 5 = .ok (.iconst 4, 1) := by decide +kernel
theorem dX12_isOut_6 : decode cX12_isOut 6 = .ok (.if_icmp .ge 70, 3) := by decide +kernel
theorem dX12_isOut_9 : decode cX12_isOut 9 = .ok (.iconst 0, 1) := by decide +kernel
theorem dX12_isOut_10 : decode cX12_isOut 10 = .ok (.istore 4, 2) := by decide +kernel
theorem dX12_isOut_12 : decode cX12_isOut 12 = .ok (.iload 4, 2) := by decide +kernel
theorem dX12_isOut_14 : decode cX12_isOut 14 = .ok (.aload_n 0, 1) := by decide +kernel
theorem dX12_isOut_15 : decode cX12_isOut 15 = .ok (.getfield 69, 3) := by decide +kernel
theorem dX12_isOut_18 : decode cX12_isOut 18 = .ok (.iload_n 3, 1) := by decide +kernel
theorem dX12_isOut_19 : decode cX12_isOut 19 = .ok (.iaload, 1) := by decide +kernel
theorem dX12_isOut_20 : decode cX12_isOut 20 = .ok (.if_icmp .ge 50, 3) := by decide +kernel
theorem dX12_isOut_23 : decode cX12_isOut 23 = .ok (.iload_n 2, 1) := by decide +kernel
theorem dX12_isOut_24 : decode cX12_isOut 24 = .ok (.ifCond .ne 34, 3) := by decide +kernel
theorem dX12_isOut_27 : decode cX12_isOut 27 = .ok (.aload_n 0, 1) := by decide +kernel
theorem dX12_isOut_28 : decode cX12_isOut 28 = .ok (.getfield 75, 3) := by decide +kernel
theorem dX12_isOut_31 : decode cX12_isOut 31 = .ok (.bipush 40, 2) := by decide +kernel
theorem dX12_isOut_33 : decode cX12_isOut 33 = .ok (.iload_n 3, 1) := by decide +kernel
theorem dX12_isOut_34 : decode cX12_isOut 34 = .ok (.imul, 1) := by decide +kernel
theorem dX12_isOut_35 : decode cX12_isOut 35 = .ok (.iload 4, 2) := by decide +kernel
theorem dX12_isOut_37 : decode cX12_isOut 37 = .ok (.iadd, 1) := by decide +kernel
theorem dX12_isOut_38 : decode cX12_isOut 38 = .ok (.iaload, 1) := by decide +kernel
theorem dX12_isOut_39 : decode cX12_isOut 39 = .ok (.iload_n 1, 1) := by decide +kernel
theorem dX12_isOut_40 : decode cX12_isOut 40 = .ok (.if_icmp .eq 18, 3) := by decide +kernel
theorem dX12_isOut_43 : decode cX12_isOut 43 = .ok (.aload_n 0, 1) := by decide +kernel
theorem dX12_isOut_44 : decode cX12_isOut 44 = .ok (.getfield 75, 3) := by decide +kernel
theorem dX12_isOut_47 : decode cX12_isOut 47 = .ok (.bipush 40, 2) := by decide +kernel
theorem dX12_isOut_49 : decode cX12_isOut 49 = .ok (.iload_n 3, 1) := by decide +kernel
theorem dX12_isOut_50 : decode cX12_isOut 50 = .ok (.imul, 1) := by decide +kernel
theorem dX12_isOut_51 : decode cX12_isOut 51 = .ok (.iload 4, 2) := by decide +kernel
theorem dX12_isOut_53 : decode cX12_isOut 53 = .ok (.iadd, 1) := by decide +kernel
theorem dX12_isOut_54 : decode cX12_isOut 54 = .ok (.iaload, 1) := by decide +kernel
theorem dX12_isOut_55 : decode cX12_isOut 55 = .ok (.ifCond .ge 7, 3) := by decide +kernel
theorem dX12_isOut_58 : decode cX12_isOut 58 = .ok (.iconst 1, 1) := by decide +kernel
theorem dX12_isOut_59 : decode cX12_isOut 59 = .ok (.goto 4, 3) := by decide +kernel
theorem dX12_isOut_62 : decode cX12_isOut 62 = .ok (.iconst 0, 1) := by decide +kernel
theorem dX12_isOut_63 : decode cX12_isOut 63 = .ok (.istore_n 2, 1) := by decide +kernel
theorem dX12_isOut_64 : decode cX12_isOut 64 = .ok (.iinc 4 1, 3) := by decide +kernel
theorem dX12_isOut_67 : decode cX12_isOut 67 = .ok (.goto (-55), 3) := by decide +kernel
theorem dX12_isOut_70 : decode cX12_isOut 70 = .ok (.iinc 3 1, 3) := by decide +kernel
theorem dX12_isOut_73 : decode cX12_isOut 73 = .ok (.goto (-69), 3) := by decide +kernel
theorem dX12_isOut_76 : decode cX12_isOut 76 = .ok (.iload_n 2, 1) := by decide +kernel
theorem dX12_isOut_77 : decode cX12_isOut 77 = .ok (.ireturn, 1) := by decide +kernel
set_option maxHeartbeats 4000000 in
set_option maxRecDepth 100000 in
theorem s_X12_isOut {P : PP} {a0 : Nat} {a1 : Int32} (I : IM P a0) (hW : MW P a0) : CtrI yX12_isOut cX12_isOut 5 (some Jvm.ClassFile.FieldType.boolean) ({ frames := 1, cells := 0, slots := 0, locals := 64 } : Room) 0 0 P [.ref a0, .int a1] (fun r P2 => P = P2 ∧ (0 ≤ r.toInt ∧ r.toInt ≤ 1)) := by
  refine enI (lv := [(0, .ref a0), (1, .int a1)]) (by decide) (Nat.le_of_ble_eq_true rfl) rfl (fun E D cy C Ci0 ret => ?_)
  have ha0 := I.2.1
  have J4 : ∀ (n4 : Nat) (v4_2 : Int32) (v4_3 : Int32), (4 - v4_3.toInt).toNat < n4 → (0 ≤ v4_2.toInt ∧ v4_2.toInt ≤ 1) → (0 ≤ v4_3.toInt ∧ v4_3.toInt ≤ 4) → G E ({ frames := 1, cells := 0, slots := 0, locals := 64 } : Room) D cy 5 P 0 0 4 [(0, .ref a0), (1, .int a1), (2, .int v4_2), (3, .int v4_3)] [] := by
    intro n4
    induction n4 with
    | zero => intro v4_2 v4_3 hm4 hv4_2 hv4_3; omega
    | succ n4 ih4 =>
      intro v4_2 v4_3 hm4 hv4_2 hv4_3
      have J12 : ∀ (n12 : Nat) (v12_2 : Int32) (v12_4 : Int32), (40 - v12_4.toInt).toNat < n12 → (0 ≤ v12_2.toInt ∧ v12_2.toInt ≤ 1) → (0 ≤ v4_3.toInt ∧ v4_3.toInt ≤ 3) → (0 ≤ v12_4.toInt ∧ v12_4.toInt ≤ 40) → G E ({ frames := 1, cells := 0, slots := 0, locals := 64 } : Room) D cy 5 P 0 0 12 [(0, .ref a0), (1, .int a1), (2, .int v12_2), (3, .int v4_3), (4, .int v12_4)] [] := by
        intro n12
        induction n12 with
        | zero => intro v12_2 v12_4 hm12 hv12_2 hv12_3 hv12_4; omega
        | succ n12 ih12 =>
          intro v12_2 v12_4 hm12 hv12_2 hv12_3 hv12_4
          have J63 : ∀ (v63_s0 : Int32), (0 ≤ v4_3.toInt ∧ v4_3.toInt ≤ 3) → (0 ≤ v12_4.toInt ∧ v12_4.toInt ≤ 39) → (0 ≤ v63_s0.toInt ∧ v63_s0.toInt ≤ 1) → (∀ b, pR P a0 20 = some b → 1 ≤ (pI P b (v4_3.toInt.toNat)).toInt ∧ (pI P b (v4_3.toInt.toNat)).toInt ≤ 40) → G E ({ frames := 1, cells := 0, slots := 0, locals := 64 } : Room) D cy 5 P 0 0 63 [(0, .ref a0), (1, .int a1), (3, .int v4_3), (4, .int v12_4)] [.int v63_s0] := by
            intro v63_s0 hv63_3 hv63_4 hv63_s0 hq63_0
            obtain ⟨b64560, e64561, h64562⟩ := I.fld (ha0) 20 13 20 rfl
            have hq63_0 := hq63_0 b64560 e64561
            refine g_istore_n (lv' := [(2, .int v63_s0), (0, .ref a0), (1, .int a1), (3, .int v4_3), (4, .int v12_4)]) C dX12_isOut_63 rfl (by decide) rfl ?_
            refine s_iinc (lv0 := [(2, .int v63_s0), (0, .ref a0), (1, .int a1), (3, .int v4_3)]) (m := 1) C dX12_isOut_64 4 rfl (by decide) rfl (by decide) (by omega) (fun z64563 h64564 => ?_)
            have h64564 : z64563.toInt = v12_4.toInt + 1 := h64564
            refine g_goto C 12 dX12_isOut_67 (by decide) ?_
            refine g_lv (lv' := [(0, .ref a0), (1, .int a1), (2, .int v63_s0), (3, .int v4_3), (4, .int z64563)]) [2, 3, 1, 4, 0] rfl ?_
            exact ih12 v63_s0 z64563 (by omega) (by omega) (by omega) (by omega)
          have J58 : (0 ≤ v4_3.toInt ∧ v4_3.toInt ≤ 3) → (0 ≤ v12_4.toInt ∧ v12_4.toInt ≤ 39) → (∀ b, pR P a0 20 = some b → 1 ≤ (pI P b (v4_3.toInt.toNat)).toInt ∧ (pI P b (v4_3.toInt.toNat)).toInt ≤ 40) → G E ({ frames := 1, cells := 0, slots := 0, locals := 64 } : Room) D cy 5 P 0 0 58 [(0, .ref a0), (1, .int a1), (3, .int v4_3), (4, .int v12_4)] [] := by
            intro hv58_3 hv58_4 hq58_0
            obtain ⟨b64565, e64566, h64567⟩ := I.fld (ha0) 20 13 20 rfl
            have hq58_0 := hq58_0 b64565 e64566
            refine g_iconst (v := 1) C dX12_isOut_58 (by decide) ?_
            refine g_goto C 63 dX12_isOut_59 (by decide) ?_
            exact J63 1 (by omega) (by omega) (by decide) (fun b9 e9 => by rw [e64566] at e9; cases e9; omega)
          refine g_iload C dX12_isOut_12 4 rfl ?_
          refine g_aload_n C dX12_isOut_14 rfl 0 rfl ?_
          obtain ⟨b64568, e64569, h64570⟩ := I.fld (ha0) 20 13 20 rfl
          refine g_getR C fi_X12_69 rfl e64569 (ha0).1 (ha0).2 dX12_isOut_15 ?_
          refine g_iload_n C dX12_isOut_18 rfl 3 rfl ?_
          refine g_iald (j := (v4_3.toInt.toNat)) C h64570.1 h64570.2.1 (ix_in h64570.2.2 (by omega)) dX12_isOut_19 ?_
          have h64571 := I.arr e64569 rfl (v4_3.toInt.toNat)
          refine b_icmp_ge C 70 dX12_isOut_20 (by decide) (fun h64572 => ?_) (fun h64572 => ?_)
          · have h64572 : (pI P b64568 (v4_3.toInt.toNat)).toInt ≤ v12_4.toInt := h64572
            refine s_iinc (lv0 := [(0, .ref a0), (1, .int a1), (2, .int v12_2), (4, .int v12_4)]) (m := 1) C dX12_isOut_70 3 rfl (by decide) rfl (by decide) (by omega) (fun z64573 h64574 => ?_)
            have h64574 : z64573.toInt = v4_3.toInt + 1 := h64574
            refine g_goto C 4 dX12_isOut_73 (by decide) ?_
            refine g_lv (lv' := [(0, .ref a0), (1, .int a1), (2, .int v12_2), (3, .int z64573)]) [1, 2, 3, 0] rfl ?_
            exact ih4 v12_2 z64573 (by omega) (by omega) (by omega)
          · have h64572 : v12_4.toInt < (pI P b64568 (v4_3.toInt.toNat)).toInt := h64572
            refine g_iload_n C dX12_isOut_23 rfl 2 rfl ?_
            refine b_if_ne C 58 dX12_isOut_24 (by decide) (fun h64575 => ?_) (fun h64575 => ?_)
            · have h64575 : v12_2.toInt ≠ 0 := ti_ne h64575
              refine g_lv (lv' := [(0, .ref a0), (1, .int a1), (3, .int v4_3), (4, .int v12_4)]) [0, 1, 3, 4] rfl ?_
              exact J58 (by omega) (by omega) (fun b9 e9 => by rw [e64569] at e9; cases e9; omega)
            · have h64575 : v12_2.toInt = 0 := congrArg Int32.toInt h64575
              refine g_aload_n C dX12_isOut_27 rfl 0 rfl ?_
              obtain ⟨b64576, e64577, h64578⟩ := I.fld (ha0) 22 13 800 rfl
              refine g_getR C fi_X12_75 rfl e64577 (ha0).1 (ha0).2 dX12_isOut_28 ?_
              refine g_bipush (v := 40) C dX12_isOut_31 (by decide) ?_
              refine g_iload_n C dX12_isOut_33 rfl 3 rfl ?_
              refine s_imul C dX12_isOut_34 (by show -2147483648 ≤ 40 * v4_3.toInt ∧ 40 * v4_3.toInt ≤ 2147483647; omega) (fun z64579 h64580 => ?_)
              have h64580 : z64579.toInt = 40 * v4_3.toInt := h64580
              refine g_iload C dX12_isOut_35 4 rfl ?_
              refine s_iadd C dX12_isOut_37 (by show -2147483648 ≤ z64579.toInt + v12_4.toInt ∧ z64579.toInt + v12_4.toInt ≤ 2147483647; omega) (fun z64581 h64582 => ?_)
              have h64582 : z64581.toInt = z64579.toInt + v12_4.toInt := h64582
              refine g_iald (j := (z64581.toInt.toNat)) C h64578.1 h64578.2.1 (ix_in h64578.2.2 (by omega)) dX12_isOut_38 ?_
              have h64583 := I.arr e64577 rfl (z64581.toInt.toNat)
              refine g_iload_n C dX12_isOut_39 rfl 1 rfl ?_
              have u64585 := ti_rng a1
              refine b_icmp_eq C 58 dX12_isOut_40 (by decide) (fun h64584 => ?_) (fun h64584 => ?_)
              · have h64584 : (pI P b64576 (z64581.toInt.toNat)).toInt = a1.toInt := congrArg Int32.toInt h64584
                refine g_lv (lv' := [(0, .ref a0), (1, .int a1), (3, .int v4_3), (4, .int v12_4)]) [0, 1, 3, 4] rfl ?_
                exact J58 (by omega) (by omega) (fun b9 e9 => by rw [e64569] at e9; cases e9; omega)
              · have h64584 : (pI P b64576 (z64581.toInt.toNat)).toInt ≠ a1.toInt := ti_ne h64584
                refine g_aload_n C dX12_isOut_43 rfl 0 rfl ?_
                refine g_getR C fi_X12_75 rfl e64577 (ha0).1 (ha0).2 dX12_isOut_44 ?_
                refine g_bipush (v := 40) C dX12_isOut_47 (by decide) ?_
                refine g_iload_n C dX12_isOut_49 rfl 3 rfl ?_
                refine s_imul C dX12_isOut_50 (by show -2147483648 ≤ 40 * v4_3.toInt ∧ 40 * v4_3.toInt ≤ 2147483647; omega) (fun z64586 h64587 => ?_)
                have h64587 : z64586.toInt = 40 * v4_3.toInt := h64587
                refine g_iload C dX12_isOut_51 4 rfl ?_
                refine s_iadd C dX12_isOut_53 (by show -2147483648 ≤ z64586.toInt + v12_4.toInt ∧ z64586.toInt + v12_4.toInt ≤ 2147483647; omega) (fun z64588 h64589 => ?_)
                have h64589 : z64588.toInt = z64586.toInt + v12_4.toInt := h64589
                refine g_iald (j := (z64588.toInt.toNat)) C h64578.1 h64578.2.1 (ix_in h64578.2.2 (by omega)) dX12_isOut_54 ?_
                have h64590 := I.arr e64577 rfl (z64588.toInt.toNat)
                refine b_if_ge C 62 dX12_isOut_55 (by decide) (fun h64591 => ?_) (fun h64591 => ?_)
                · have h64591 : 0 ≤ (pI P b64576 (z64588.toInt.toNat)).toInt := h64591
                  refine g_iconst (v := 0) C dX12_isOut_62 (by decide) ?_
                  refine g_lv (lv' := [(0, .ref a0), (1, .int a1), (3, .int v4_3), (4, .int v12_4)]) [0, 1, 3, 4] rfl ?_
                  exact J63 0 (by omega) (by omega) (by decide) (fun b9 e9 => by rw [e64569] at e9; cases e9; omega)
                · have h64591 : (pI P b64576 (z64588.toInt.toNat)).toInt < 0 := h64591
                  refine g_lv (lv' := [(0, .ref a0), (1, .int a1), (3, .int v4_3), (4, .int v12_4)]) [0, 1, 3, 4] rfl ?_
                  exact J58 (by omega) (by omega) (fun b9 e9 => by rw [e64569] at e9; cases e9; omega)
      refine g_iload_n C dX12_isOut_4 rfl 3 rfl ?_
      refine g_iconst (v := 4) C dX12_isOut_5 (by decide) ?_
      refine b_icmp_ge C 76 dX12_isOut_6 (by decide) (fun h64592 => ?_) (fun h64592 => ?_)
      · have h64592 : 4 ≤ v4_3.toInt := h64592
        refine g_iload_n C dX12_isOut_76 rfl 2 rfl ?_
        exact ret _ _ _ _ _ _ dX12_isOut_77 (nar_b (b01 (by omega))) (by decide) (by decide) ⟨rfl, (by omega)⟩
      · have h64592 : v4_3.toInt < 4 := h64592
        refine g_iconst (v := 0) C dX12_isOut_9 (by decide) ?_
        refine g_istore (lv' := [(4, .int 0), (0, .ref a0), (1, .int a1), (2, .int v4_2), (3, .int v4_3)]) C dX12_isOut_10 (by decide) rfl ?_
        refine g_lv (lv' := [(0, .ref a0), (1, .int a1), (2, .int v4_2), (3, .int v4_3), (4, .int 0)]) [1, 2, 3, 4, 0] rfl ?_
        exact J12 _ v4_2 0 (Nat.lt_succ_self _) (by omega) (by omega) (by decide)
  refine g_iconst (v := 0) C dX12_isOut_0 (by decide) ?_
  refine g_istore_n (lv' := [(2, .int 0), (0, .ref a0), (1, .int a1)]) C dX12_isOut_1 rfl (by decide) rfl ?_
  refine g_iconst (v := 0) C dX12_isOut_2 (by decide) ?_
  refine g_istore_n (lv' := [(3, .int 0), (2, .int 0), (0, .ref a0), (1, .int a1)]) C dX12_isOut_3 rfl (by decide) rfl ?_
  refine g_lv (lv' := [(0, .ref a0), (1, .int a1), (2, .int 0), (3, .int 0)]) [2, 3, 1, 0] rfl ?_
  exact J4 _ 0 0 (Nat.lt_succ_self _) (by decide) (by decide)
theorem dX12_draw_18 : decode cX12_draw 18 = .ok (.ifCond .eq 10, 3) := by decide +kernel
theorem dX12_draw_28 : decode cX12_draw 28 = .ok (.aload_n 0, 1) := by decide +kernel
theorem dX12_draw_29 : decode cX12_draw 29 = .ok (.invokevirtual 199, 3) := by decide +kernel
theorem dX12_draw_32 : decode cX12_draw 32 = .ok (.aload_n 0, 1) := by decide +kernel
theorem dX12_draw_33 : decode cX12_draw 33 = .ok (.iconst 2, 1) := by decide +kernel
theorem dX12_draw_34 : decode cX12_draw 34 = .ok (.invokevirtual 182, 3) := by decide +kernel
set_option maxHeartbeats 4000000 in
set_option maxRecDepth 100000 in
theorem s_X12_forgetsDraw {P : PP} {a0 : Nat} {a1 : Int32} (I : IM P a0) (ha1 : 0 ≤ a1.toInt ∧ a1.toInt ≤ 2) (hW : MW P a0) : CtrV yX12_forgetsDraw cX12_forgetsDraw 3 none ({ frames := 1, cells := 0, slots := 0, locals := 64 } : Room) 0 0 P [.ref a0, .int a1] (fun P2 => IM P2 a0 ∧ EM [12, 13, 14, 15, 17] a0 P P2 ∧ MW P2 a0 ∧ (∀ b, pR P a0 14 = some b → (pI P2 b (a1.toInt.toNat)).toInt = 1)) := by
  refine enV (lv := [(0, .ref a0), (1, .int a1)]) (by decide) (Nat.le_of_ble_eq_true rfl) rfl (fun E D cy C Ci0 ret => ?_)
  have ha0 := I.2.1
  have J2 : ∀ (n2 : Nat) (P2 : PP) (v2_2 : Int32), (21 - v2_2.toInt).toNat < n2 → (IM P2 a0) → (EM [12, 13, 14, 15, 17] a0 P P2) → (MW P2 a0) → (0 ≤ v2_2.toInt ∧ v2_2.toInt ≤ 21) → G E ({ frames := 1, cells := 0, slots := 0, locals := 64 } : Room) D cy 3 P2 0 0 2 [(0, .ref a0), (1, .int a1), (2, .int v2_2)] [] := by
    intro n2
    induction n2 with
    | zero => intro P2 v2_2 hm2 I2 X2 W2 hv2_2; omega
    | succ n2 ih2 =>
      intro P2 v2_2 hm2 I2 X2 W2 hv2_2
      have h64971 := X2.at ha0
      refine g_iload_n C dX12_forgetsDraw_2 rfl 2 rfl ?_
      refine g_bipush (v := 21) C dX12_forgetsDraw_3 (by decide) ?_
      refine b_icmp_ge C 26 dX12_forgetsDraw_5 (by decide) (fun h64972 => ?_) (fun h64972 => ?_)
      · have h64972 : 21 ≤ v2_2.toInt := h64972
        refine g_aload_n C dX12_forgetsDraw_26 rfl 0 rfl ?_
        obtain ⟨b64973, e64974, h64975⟩ := I2.fld (h64971) 13 13 3 rfl
        refine g_getR C fi_X12_54 rfl e64974 (h64971).1 (h64971).2 dX12_forgetsDraw_27 ?_
        refine g_iload_n C dX12_forgetsDraw_30 rfl 1 rfl ?_
        refine g_iconst (v := 0) C dX12_forgetsDraw_31 (by decide) ?_
        refine g_iast (j := (a1.toInt.toNat)) C h64975.1 h64975.2.1 (ix_in h64975.2.2 (by omega)) dX12_forgetsDraw_32 ?_
        refine gqW (ks := [13]) (I2.setA e64974 h64975 (by decide) (arOk.none rfl)) (EM.setA I2 e64974 rfl (by decide)) (fun Y64976 Iy64977 Xy64978 w64979  => ?_)
        have w64979 : (pI Y64976 b64973 (a1.toInt.toNat)).toInt = 0 := w64979
        have W64980 := W2.keep I2 Xy64978 (by decide) (by decide) (by decide) (by decide)
        have Xz64981 : EM [12, 13, 14, 15, 17] a0 P Y64976 := EM.tr ha0 X2 (Xy64978.mono (by decide))
        have e64982 := Xy64978.ref h64971 (by decide) e64974
        have h64983 := Xy64978.at h64971
        have h64984 := Xy64978.ar h64975
        refine g_aload_n C dX12_forgetsDraw_33 rfl 0 rfl ?_
        obtain ⟨b64985, e64986, h64987⟩ := Iy64977.fld (h64983) 14 13 3 rfl
        refine g_getR C fi_X12_57 rfl e64986 (h64983).1 (h64983).2 dX12_forgetsDraw_34 ?_
        refine g_iload_n C dX12_forgetsDraw_37 rfl 1 rfl ?_
        refine g_iconst (v := 1) C dX12_forgetsDraw_38 (by decide) ?_
        refine g_iast (j := (a1.toInt.toNat)) C h64987.1 h64987.2.1 (ix_in h64987.2.2 (by omega)) dX12_forgetsDraw_39 ?_
        refine gqX (ks := [14]) (W := (fun Y9 => MW Y9 a0)) (Iy64977.setA e64986 h64987 (by decide) (arOk.of rfl (by decide))) (EM.setA Iy64977 e64986 rfl (by decide)) (W64980.set14 Iy64977 e64986 (by first | exact Or.inl (by omega) | exact Or.inr (by decide))) (fun Y64988 Iy64989 Xy64990 w64991 W64992 => ?_)
        have w64991 : (pI Y64988 b64985 (a1.toInt.toNat)).toInt = 1 := w64991
        have q64993 := Xy64990.keepA e64982 (by decide) rfl (a1.toInt.toNat)
        have Xz64994 : EM [12, 13, 14, 15, 17] a0 P Y64988 := EM.tr ha0 Xz64981 (Xy64990.mono (by decide))
        have e64995 := Xy64990.ref h64983 (by decide) e64982
        have e64996 := Xy64990.ref h64983 (by decide) e64986
        have h64997 := Xy64990.at h64983
        have h64998 := Xy64990.ar h64984
        have h64999 := Xy64990.ar h64987
        refine g_aload_n C dX12_forgetsDraw_40 rfl 0 rfl ?_
        obtain ⟨b65000, e65001, h65002⟩ := Iy64989.fld (h64997) 15 13 3 rfl
        refine g_getR C fi_X12_60 rfl e65001 (h64997).1 (h64997).2 dX12_forgetsDraw_41 ?_
        refine g_iload_n C dX12_forgetsDraw_44 rfl 1 rfl ?_
        refine g_iconst (v := 0) C dX12_forgetsDraw_45 (by decide) ?_
        refine g_iast (j := (a1.toInt.toNat)) C h65002.1 h65002.2.1 (ix_in h65002.2.2 (by omega)) dX12_forgetsDraw_46 ?_
        refine gqW (ks := [15]) (Iy64989.setA e65001 h65002 (by decide) (arOk.of rfl (by decide))) (EM.setA Iy64989 e65001 rfl (by decide)) (fun Y65003 Iy65004 Xy65005 w65006  => ?_)
        have w65006 : (pI Y65003 b65000 (a1.toInt.toNat)).toInt = 0 := w65006
        have q65007 := Xy65005.keepA e64995 (by decide) rfl (a1.toInt.toNat)
        have q65008 := Xy65005.keepA e64996 (by decide) rfl (a1.toInt.toNat)
        have W65009 := W64992.keep Iy64989 Xy65005 (by decide) (by decide) (by decide) (by decide)
        have Xz65010 : EM [12, 13, 14, 15, 17] a0 P Y65003 := EM.tr ha0 Xz64994 (Xy65005.mono (by decide))
        have e65011 := Xy65005.ref h64997 (by decide) e64995
        have e65012 := Xy65005.ref h64997 (by decide) e64996
        have e65013 := Xy65005.ref h64997 (by decide) e65001
        have h65014 := Xy65005.at h64997
        have h65015 := Xy65005.ar h64998
        have h65016 := Xy65005.ar h64999
        have h65017 := Xy65005.ar h65002
        refine g_aload_n C dX12_forgetsDraw_47 rfl 0 rfl ?_
        obtain ⟨b65018, e65019, h65020⟩ := Iy65004.fld (h65014) 17 13 3 rfl
        refine g_getR C fi_X12_66 rfl e65019 (h65014).1 (h65014).2 dX12_forgetsDraw_48 ?_
        refine g_iload_n C dX12_forgetsDraw_51 rfl 1 rfl ?_
        refine g_iconst (v := 0) C dX12_forgetsDraw_52 (by decide) ?_
        refine g_iast (j := (a1.toInt.toNat)) C h65020.1 h65020.2.1 (ix_in h65020.2.2 (by omega)) dX12_forgetsDraw_53 ?_
        refine gqW (ks := [17]) (Iy65004.setA e65019 h65020 (by decide) (arOk.none rfl)) (EM.setA Iy65004 e65019 rfl (by decide)) (fun Y65021 Iy65022 Xy65023 w65024  => ?_)
        have w65024 : (pI Y65021 b65018 (a1.toInt.toNat)).toInt = 0 := w65024
        have q65025 := Xy65023.keepA e65011 (by decide) rfl (a1.toInt.toNat)
        have q65026 := Xy65023.keepA e65012 (by decide) rfl (a1.toInt.toNat)
        have q65027 := Xy65023.keepA e65013 (by decide) rfl (a1.toInt.toNat)
        have W65028 := W65009.keep Iy65004 Xy65023 (by decide) (by decide) (by decide) (by decide)
        have Xz65029 : EM [12, 13, 14, 15, 17] a0 P Y65021 := EM.tr ha0 Xz65010 (Xy65023.mono (by decide))
        have e65030 := Xy65023.ref h65014 (by decide) e65011
        have e65031 := Xy65023.ref h65014 (by decide) e65012
        have e65032 := Xy65023.ref h65014 (by decide) e65013
        have e65033 := Xy65023.ref h65014 (by decide) e65019
        have h65034 := Xy65023.at h65014
        have h65035 := Xy65023.ar h65015
        have h65036 := Xy65023.ar h65016
        have h65037 := Xy65023.ar h65017
        have h65038 := Xy65023.ar h65020
        exact ret _ _ _ _ _ dX12_forgetsDraw_54 (by decide) (by decide) ⟨Iy65022, Xz65029, W65028, (fun b9 e9 => by have e8 := EM.ref Xz65029 ha0 (by decide) e9; rw [e65031] at e8; cases e8; show (pI Y65021 b64985 (a1.toInt.toNat)).toInt = 1; omega)⟩
      · have h64972 : v2_2.toInt < 21 := h64972
        refine g_aload_n C dX12_forgetsDraw_8 rfl 0 rfl ?_
        obtain ⟨b65039, e65040, h65041⟩ := I2.fld (h64971) 12 13 63 rfl
        refine g_getR C fi_X12_51 rfl e65040 (h64971).1 (h64971).2 dX12_forgetsDraw_9 ?_
        refine g_bipush (v := 21) C dX12_forgetsDraw_12 (by decide) ?_
        refine g_iload_n C dX12_forgetsDraw_14 rfl 1 rfl ?_
        refine s_imul C dX12_forgetsDraw_15 (by show -2147483648 ≤ 21 * a1.toInt ∧ 21 * a1.toInt ≤ 2147483647; omega) (fun z65042 h65043 => ?_)
        have h65043 : z65042.toInt = 21 * a1.toInt := h65043
        refine g_iload_n C dX12_forgetsDraw_16 rfl 2 rfl ?_
        refine s_iadd C dX12_forgetsDraw_17 (by show -2147483648 ≤ z65042.toInt + v2_2.toInt ∧ z65042.toInt + v2_2.toInt ≤ 2147483647; omega) (fun z65044 h65045 => ?_)
        have h65045 : z65044.toInt = z65042.toInt + v2_2.toInt := h65045
        refine g_iconst (v := (-1)) C dX12_forgetsDraw_18 (by decide) ?_
        refine g_iast (j := (z65044.toInt.toNat)) C h65041.1 h65041.2.1 (ix_in h65041.2.2 (by omega)) dX12_forgetsDraw_19 ?_
        refine gqW (ks := [12]) (I2.setA e65040 h65041 (by decide) (arOk.of rfl (by decide))) (EM.setA I2 e65040 rfl (by decide)) (fun Y65046 Iy65047 Xy65048 w65049  => ?_)
        have w65049 : (pI Y65046 b65039 (z65044.toInt.toNat)).toInt = (-1) := w65049
        have W65050 := W2.keep I2 Xy65048 (by decide) (by decide) (by decide) (by decide)
        have Xz65051 : EM [12, 13, 14, 15, 17] a0 P Y65046 := EM.tr ha0 X2 (Xy65048.mono (by decide))
        have e65052 := Xy65048.ref h64971 (by decide) e65040
        have h65053 := Xy65048.at h64971
        have h65054 := Xy65048.ar h65041
        refine s_iinc (lv0 := [(0, .ref a0), (1, .int a1)]) (m := 1) C dX12_forgetsDraw_20 2 rfl (by decide) rfl (by decide) (by omega) (fun z65055 h65056 => ?_)
        have h65056 : z65055.toInt = v2_2.toInt + 1 := h65056
        refine g_goto C 2 dX12_forgetsDraw_23 (by decide) ?_
        refine g_lv (lv' := [(0, .ref a0), (1, .int a1), (2, .int z65055)]) [1, 2, 0] rfl ?_
        exact ih2 Y65046 z65055 (by omega) Iy65047 Xz65051 W65050 (by omega)
  refine g_iconst (v := 0) C dX12_forgetsDraw_0 (by decide) ?_
  refine g_istore_n (lv' := [(2, .int 0), (0, .ref a0), (1, .int a1)]) C dX12_forgetsDraw_1 rfl (by decide) rfl ?_
  refine g_lv (lv' := [(0, .ref a0), (1, .int a1), (2, .int 0)]) [1, 2, 0] rfl ?_
  exact J2 _ P 0 (Nat.lt_succ_self _) I EM.rf hW (by decide)
theorem dX12_draw_21 : decode cX12_draw 21 = .ok (.aload_n 0, 1) := by decide +kernel
theorem dX12_draw_22 : decode cX12_draw 22 = .ok (.iconst 0, 1) := by decide +kernel
theorem dX12_draw_23 : decode cX12_draw 23 = .ok (.putfield 11, 3) := by decide +kernel
theorem dX12_draw_26 : decode cX12_draw 26 = .ok (.iconst (-1), 1) := by decide +kernel
theorem dX12_draw_27 : decode cX12_draw 27 = .ok (.ireturn, 1) := by decide +kernel
theorem dX12_draw_37 : decode cX12_draw 37 = .ok (.aload_n 0, 1) := by decide +kernel
theorem dX12_draw_38 : decode cX12_draw 38 = .ok (.aload_n 0, 1) := by decide +kernel
theorem dX12_draw_39 : decode cX12_draw 39 = .ok (.getfield 45, 3) := by decide +kernel
theorem dX12_draw_42 : decode cX12_draw 42 = .ok (.iload_n 1, 1) := by decide +kernel
theorem dX12_draw_43 : decode cX12_draw 43 = .ok (.iaload, 1) := by decide +kernel
theorem dX12_draw_44 : decode cX12_draw 44 = .ok (.putfield 202, 3) := by decide +kernel
theorem dX12_draw_47 : decode cX12_draw 47 = .ok (.aload_n 0, 1) := by decide +kernel
theorem dX12_draw_48 : decode cX12_draw 48 = .ok (.getfield 162, 3) := by decide +kernel
theorem dX12_draw_51 : decode cX12_draw 51 = .ok (.ifCond .ne 22, 3) := by decide +kernel
theorem dX12_draw_54 : decode cX12_draw 54 = .ok (.aload_n 0, 1) := by decide +kernel
theorem dX12_draw_55 : decode cX12_draw 55 = .ok (.getfield 24, 3) := by decide +kernel
theorem dX12_draw_58 : decode cX12_draw 58 = .ok (.aload_n 0, 1) := by decide +kernel
theorem dX12_draw_59 : decode cX12_draw 59 = .ok (.getfield 159, 3) := by decide +kernel
theorem dX12_draw_62 : decode cX12_draw 62 = .ok (.iaload, 1) := by decide +kernel
theorem dX12_draw_63 : decode cX12_draw 63 = .ok (.ifCond .eq 10, 3) := by decide +kernel
theorem dX12_draw_66 : decode cX12_draw 66 = .ok (.aload_n 0, 1) := by decide +kernel
theorem dX12_draw_67 : decode cX12_draw 67 = .ok (.invokevirtual 205, 3) := by decide +kernel
theorem dX12_readLine_0 : decode cX12_readLine 0 = .ok (.aload_n 0, 1) := by decide +kernel
theorem dX12_readLine_1 : decode cX12_readLine 1 = .ok (.iconst 1, 1) := by decide +kernel
theorem dX12_readLine_2 : decode cX12_readLine 2 = .ok (.invokevirtual 172, 3) := by decide +kernel
theorem dX12_isWord_0 : decode cX12_isWord 0 = .ok (.aload_n 0, 1) := by decide +kernel
theorem dX12_isWord_1 : decode cX12_isWord 1 = .ok (.getfield 162, 3) := by decide +kernel
theorem dX12_isWord_4 : decode cX12_isWord 4 = .ok (.ifCond .ne 39, 3) := by decide +kernel
theorem dX12_isWord_7 : decode cX12_isWord 7 = .ok (.aload_n 0, 1) := by decide +kernel
theorem dX12_isWord_8 : decode cX12_isWord 8 = .ok (.getfield 24, 3) := by decide +kernel
theorem dX12_isWord_11 : decode cX12_isWord 11 = .ok (.aload_n 0, 1) := by decide +kernel
theorem dX12_isWord_12 : decode cX12_isWord 12 = .ok (.getfield 159, 3) := by decide +kernel
theorem dX12_isWord_15 : decode cX12_isWord 15 = .ok (.iaload, 1) := by decide +kernel
theorem dX12_isWord_16 : decode cX12_isWord 16 = .ok (.iconst 1, 1) := by decide +kernel
theorem dX12_isWord_17 : decode cX12_isWord 17 = .ok (.if_icmp .ne 26, 3) := by decide +kernel
theorem dX12_isWord_20 : decode cX12_isWord 20 = .ok (.aload_n 0, 1) := by decide +kernel
theorem dX12_isWord_21 : decode cX12_isWord 21 = .ok (.getfield 30, 3) := by decide +kernel
theorem dX12_isWord_24 : decode cX12_isWord 24 = .ok (.aload_n 0, 1) := by decide +kernel
theorem dX12_isWord_25 : decode cX12_isWord 25 = .ok (.getfield 159, 3) := by decide +kernel
theorem dX12_isWord_28 : decode cX12_isWord 28 = .ok (.laload, 1) := by decide +kernel
theorem dX12_isWord_29 : decode cX12_isWord 29 = .ok (.aload_n 0, 1) := by decide +kernel
theorem dX12_isWord_30 : decode cX12_isWord 30 = .ok (.getfield 42, 3) := by decide +kernel
theorem dX12_isWord_33 : decode cX12_isWord 33 = .ok (.iload_n 1, 1) := by decide +kernel
theorem dX12_isWord_34 : decode cX12_isWord 34 = .ok (.laload, 1) := by decide +kernel
theorem dX12_isWord_35 : decode cX12_isWord 35 = .ok (.lcmp, 1) := by decide +kernel
theorem dX12_isWord_36 : decode cX12_isWord 36 = .ok (.ifCond .ne 7, 3) := by decide +kernel
theorem dX12_isWord_39 : decode cX12_isWord 39 = .ok (.iconst 1, 1) := by decide +kernel
theorem dX12_isWord_40 : decode cX12_isWord 40 = .ok (.goto 4, 3) := by decide +kernel
theorem dX12_isWord_43 : decode cX12_isWord 43 = .ok (.iconst 0, 1) := by decide +kernel
theorem dX12_isWord_44 : decode cX12_isWord 44 = .ok (.ireturn, 1) := by decide +kernel
set_option maxHeartbeats 4000000 in
set_option maxRecDepth 100000 in
theorem s_X12_isWord {P : PP} {a0 : Nat} {a1 : Int32} (I : IM P a0) (ha1 : 0 ≤ a1.toInt ∧ a1.toInt ≤ 3) (hW : MW P a0) : CtrI yX12_isWord cX12_isWord 2 (some Jvm.ClassFile.FieldType.boolean) ({ frames := 1, cells := 0, slots := 0, locals := 64 } : Room) 0 0 P [.ref a0, .int a1] (fun r P2 => P = P2 ∧ (0 ≤ r.toInt ∧ r.toInt ≤ 1) ∧ ((r.toInt = 0 ∨ ((pI P2 a0 8).toInt = 0 ∧ (pI P2 a0 7).toInt ≤ 999)) ∧ ∀ b4 b6 b9, pR P2 a0 4 = some b4 → pR P2 a0 6 = some b6 → pR P2 a0 9 = some b9 → r.toInt = iwA P2 a0 b4 b6 b9 a1.toInt.toNat)) := by
  refine enI (lv := [(0, .ref a0), (1, .int a1)]) (by decide) (Nat.le_of_ble_eq_true rfl) rfl (fun E D cy C Ci0 ret => ?_)
  have ha0 := I.2.1
  have h65179 := I.rg ha0 7 rfl
  have h65180 := I.rg ha0 8 rfl
  refine g_aload_n C dX12_isWord_0 rfl 0 rfl ?_
  refine g_getI C fi_X12_162 (by decide) (ha0).1 (ha0).2 dX12_isWord_1 ?_
  refine b_if_ne C 43 dX12_isWord_4 (by decide) (fun h65181 => ?_) (fun h65181 => ?_)
  · have h65181 : (pI P a0 8).toInt ≠ 0 := ti_ne h65181
    refine g_iconst (v := 0) C dX12_isWord_43 (by decide) ?_
    obtain ⟨b65182, e65183, h65184⟩ := I.fld (ha0) 4 13 1002 rfl
    obtain ⟨b65185, e65186, h65187⟩ := I.fld (ha0) 6 14 1002 rfl
    obtain ⟨b65188, e65189, h65190⟩ := I.fld (ha0) 9 14 4 rfl
    exact ret _ _ _ _ _ _ dX12_isWord_44 rfl (by decide) (by decide) ⟨rfl, (by decide), ⟨Or.inl rfl, fun b49 b69 b99 e49 e69 e99 => by rw [e65183] at e49; cases e49; rw [e65186] at e69; cases e69; rw [e65189] at e99; cases e99; show (0 : Int) = iwA P a0 b65182 b65185 b65188 a1.toInt.toNat; unfold iwA; split <;> rename_i h9 <;> first | rfl | (exfalso; have h7 := congrArg Int64.toInt h9.2.2; have h6 := h9.1; have h5 := h9.2.1; omega)⟩⟩
  · have h65181 : (pI P a0 8).toInt = 0 := congrArg Int32.toInt h65181
    refine g_aload_n C dX12_isWord_7 rfl 0 rfl ?_
    obtain ⟨b65191, e65192, h65193⟩ := I.fld (ha0) 4 13 1002 rfl
    refine g_getR C fi_X12_24 rfl e65192 (ha0).1 (ha0).2 dX12_isWord_8 ?_
    refine g_aload_n C dX12_isWord_11 rfl 0 rfl ?_
    refine g_getI C fi_X12_159 (by decide) (ha0).1 (ha0).2 dX12_isWord_12 ?_
    refine g_iald (j := ((pI P a0 7).toInt.toNat)) C h65193.1 h65193.2.1 (ix_in h65193.2.2 (by omega)) dX12_isWord_15 ?_
    have h65194 := I.arr e65192 rfl ((pI P a0 7).toInt.toNat)
    refine g_iconst (v := 1) C dX12_isWord_16 (by decide) ?_
    have hs65195 := I.s1000 e65192 (j := (pI P a0 7).toInt) (by omega)
    refine b_icmp_ne C 43 dX12_isWord_17 (by decide) (fun h65196 => ?_) (fun h65196 => ?_)
    · have h65196 : (pI P b65191 ((pI P a0 7).toInt.toNat)).toInt ≠ 1 := ti_ne h65196
      refine g_iconst (v := 0) C dX12_isWord_43 (by decide) ?_
      obtain ⟨b65197, e65198, h65199⟩ := I.fld (ha0) 6 14 1002 rfl
      obtain ⟨b65200, e65201, h65202⟩ := I.fld (ha0) 9 14 4 rfl
      exact ret _ _ _ _ _ _ dX12_isWord_44 rfl (by decide) (by decide) ⟨rfl, (by decide), ⟨Or.inl rfl, fun b49 b69 b99 e49 e69 e99 => by rw [e65192] at e49; cases e49; rw [e65198] at e69; cases e69; rw [e65201] at e99; cases e99; show (0 : Int) = iwA P a0 b65191 b65197 b65200 a1.toInt.toNat; unfold iwA; split <;> rename_i h9 <;> first | rfl | (exfalso; have h7 := congrArg Int64.toInt h9.2.2; have h6 := h9.1; have h5 := h9.2.1; omega)⟩⟩
    · have h65196 : (pI P b65191 ((pI P a0 7).toInt.toNat)).toInt = 1 := congrArg Int32.toInt h65196
      refine g_aload_n C dX12_isWord_20 rfl 0 rfl ?_
      obtain ⟨b65203, e65204, h65205⟩ := I.fld (ha0) 6 14 1002 rfl
      refine g_getR C fi_X12_30 rfl e65204 (ha0).1 (ha0).2 dX12_isWord_21 ?_
      refine g_aload_n C dX12_isWord_24 rfl 0 rfl ?_
      refine g_getI C fi_X12_159 (by decide) (ha0).1 (ha0).2 dX12_isWord_25 ?_
      refine g_lald (j := ((pI P a0 7).toInt.toNat)) C h65205.1 h65205.2.1 (ix_in h65205.2.2 (by omega)) dX12_isWord_28 ?_
      refine g_topl (fun l65206 h65207 => ?_)
      have hl65208 : l65206.toInt = (pJ P b65203 ((pI P a0 7).toInt.toNat)).toInt := congrArg Int64.toInt h65207
      refine g_aload_n C dX12_isWord_29 rfl 0 rfl ?_
      obtain ⟨b65209, e65210, h65211⟩ := I.fld (ha0) 9 14 4 rfl
      refine g_getR C fi_X12_42 rfl e65210 (ha0).1 (ha0).2 dX12_isWord_30 ?_
      refine g_iload_n C dX12_isWord_33 rfl 1 rfl ?_
      refine g_lald (j := (a1.toInt.toNat)) C h65211.1 h65211.2.1 (ix_in h65211.2.2 (by omega)) dX12_isWord_34 ?_
      refine g_topl (fun l65212 h65213 => ?_)
      have hl65214 : l65212.toInt = (pJ P b65209 (a1.toInt.toNat)).toInt := congrArg Int64.toInt h65213
      refine g_lcmp C dX12_isWord_35 ?_
      refine g_topi (fun z65215 h65216 => ?_)
      have hc65217 := cmp_or h65216
      have h65218 := cmp_rg h65216
      refine b_if_ne C 43 dX12_isWord_36 (by decide) (fun h65219 => ?_) (fun h65219 => ?_)
      · have h65219 : z65215.toInt ≠ 0 := ti_ne h65219
        refine g_iconst (v := 0) C dX12_isWord_43 (by decide) ?_
        exact ret _ _ _ _ _ _ dX12_isWord_44 rfl (by decide) (by decide) ⟨rfl, (by decide), ⟨Or.inl rfl, fun b49 b69 b99 e49 e69 e99 => by rw [e65192] at e49; cases e49; rw [e65204] at e69; cases e69; rw [e65210] at e99; cases e99; show (0 : Int) = iwA P a0 b65191 b65203 b65209 a1.toInt.toNat; unfold iwA; split <;> rename_i h9 <;> first | rfl | (exfalso; have h7 := congrArg Int64.toInt h9.2.2; have h6 := h9.1; have h5 := h9.2.1; omega)⟩⟩
      · have h65219 : z65215.toInt = 0 := congrArg Int32.toInt h65219
        refine g_iconst (v := 1) C dX12_isWord_39 (by decide) ?_
        refine g_goto C 44 dX12_isWord_40 (by decide) ?_
        exact ret _ _ _ _ _ _ dX12_isWord_44 rfl (by decide) (by decide) ⟨rfl, (by decide), ⟨Or.inr ⟨by omega, by omega⟩, fun b49 b69 b99 e49 e69 e99 => by rw [e65192] at e49; cases e49; rw [e65204] at e69; cases e69; rw [e65210] at e99; cases e99; show (1 : Int) = iwA P a0 b65191 b65203 b65209 a1.toInt.toNat; unfold iwA; split <;> rename_i h9 <;> first | rfl | exact absurd ⟨by omega, by omega, Int64.toInt_inj.mp (by omega)⟩ h9⟩⟩
theorem dX12_readLine_5 : decode cX12_readLine 5 = .ok (.ifCond .eq 12, 3) := by decide +kernel
theorem dX12_readLine_8 : decode cX12_readLine 8 = .ok (.aload_n 0, 1) := by decide +kernel
theorem dX12_readLine_9 : decode cX12_readLine 9 = .ok (.getfield 54, 3) := by decide +kernel
theorem dX12_readLine_12 : decode cX12_readLine 12 = .ok (.iconst 2, 1) := by decide +kernel
theorem dX12_readLine_13 : decode cX12_readLine 13 = .ok (.iaload, 1) := by decide +kernel
theorem dX12_readLine_14 : decode cX12_readLine 14 = .ok (.ifCond .gt 20, 3) := by decide +kernel
theorem dX12_readLine_17 : decode cX12_readLine 17 = .ok (.aload_n 0, 1) := by decide +kernel
theorem dX12_readLine_18 : decode cX12_readLine 18 = .ok (.iconst 3, 1) := by decide +kernel
theorem dX12_readLine_19 : decode cX12_readLine 19 = .ok (.invokevirtual 172, 3) := by decide +kernel
theorem dX12_readLine_22 : decode cX12_readLine 22 = .ok (.ifCond .eq 16, 3) := by decide +kernel
theorem dX12_readLine_25 : decode cX12_readLine 25 = .ok (.aload_n 0, 1) := by decide +kernel
theorem dX12_readLine_26 : decode cX12_readLine 26 = .ok (.getfield 66, 3) := by decide +kernel
theorem dX12_readLine_29 : decode cX12_readLine 29 = .ok (.iconst 2, 1) := by decide +kernel
theorem dX12_readLine_30 : decode cX12_readLine 30 = .ok (.iaload, 1) := by decide +kernel
theorem dX12_readLine_31 : decode cX12_readLine 31 = .ok (.ifCond .le 7, 3) := by decide +kernel
theorem dX12_readLine_34 : decode cX12_readLine 34 = .ok (.iconst 1, 1) := by decide +kernel
theorem dX12_readLine_35 : decode cX12_readLine 35 = .ok (.goto 4, 3) := by decide +kernel
theorem dX12_readLine_38 : decode cX12_readLine 38 = .ok (.iconst 0, 1) := by decide +kernel
theorem dX12_readLine_39 : decode cX12_readLine 39 = .ok (.istore_n 1, 1) := by decide +kernel
theorem dX12_readLine_40 : decode cX12_readLine 40 = .ok (.aload_n 0, 1) := by decide +kernel
theorem dX12_readLine_41 : decode cX12_readLine 41 = .ok (.iconst 0, 1) := by decide +kernel
theorem dX12_readLine_42 : decode cX12_readLine 42 = .ok (.invokevirtual 172, 3) := by decide +kernel
theorem dX12_readLine_45 : decode cX12_readLine 45 = .ok (.ifCond .ne 35, 3) := by decide +kernel
theorem dX12_readLine_48 : decode cX12_readLine 48 = .ok (.aload_n 0, 1) := by decide +kernel
theorem dX12_readLine_49 : decode cX12_readLine 49 = .ok (.iconst 1, 1) := by decide +kernel
theorem dX12_readLine_50 : decode cX12_readLine 50 = .ok (.invokevirtual 172, 3) := by decide +kernel
theorem dX12_readLine_53 : decode cX12_readLine 53 = .ok (.ifCond .ne 27, 3) := by decide +kernel
theorem dX12_readLine_56 : decode cX12_readLine 56 = .ok (.aload_n 0, 1) := by decide +kernel
theorem dX12_readLine_57 : decode cX12_readLine 57 = .ok (.iconst 2, 1) := by decide +kernel
theorem dX12_readLine_58 : decode cX12_readLine 58 = .ok (.invokevirtual 172, 3) := by decide +kernel
theorem dX12_readLine_61 : decode cX12_readLine 61 = .ok (.ifCond .ne 19, 3) := by decide +kernel
theorem dX12_readLine_64 : decode cX12_readLine 64 = .ok (.aload_n 0, 1) := by decide +kernel
theorem dX12_readLine_65 : decode cX12_readLine 65 = .ok (.iconst 3, 1) := by decide +kernel
theorem dX12_readLine_66 : decode cX12_readLine 66 = .ok (.invokevirtual 172, 3) := by decide +kernel
theorem dX12_readLine_69 : decode cX12_readLine 69 = .ok (.ifCond .ne 11, 3) := by decide +kernel
theorem dX12_readLine_72 : decode cX12_readLine 72 = .ok (.aload_n 0, 1) := by decide +kernel
theorem dX12_readLine_73 : decode cX12_readLine 73 = .ok (.iconst 1, 1) := by decide +kernel
theorem dX12_readLine_74 : decode cX12_readLine 74 = .ok (.invokevirtual 168, 3) := by decide +kernel
theorem dX12_wrong_0 : decode cX12_wrong 0 = .ok (.aload_n 0, 1) := by decide +kernel
theorem dX12_wrong_1 : decode cX12_wrong 1 = .ok (.getfield 162, 3) := by decide +kernel
theorem dX12_wrong_4 : decode cX12_wrong 4 = .ok (.ifCond .ne 21, 3) := by decide +kernel
theorem dX12_wrong_7 : decode cX12_wrong 7 = .ok (.aload_n 0, 1) := by decide +kernel
theorem dX12_wrong_8 : decode cX12_wrong 8 = .ok (.iload_n 1, 1) := by decide +kernel
theorem dX12_wrong_9 : decode cX12_wrong 9 = .ok (.bipush 16, 2) := by decide +kernel
theorem dX12_wrong_11 : decode cX12_wrong 11 = .ok (.aload_n 0, 1) := by decide +kernel
theorem dX12_wrong_12 : decode cX12_wrong 12 = .ok (.getfield 27, 3) := by decide +kernel
theorem dX12_wrong_15 : decode cX12_wrong 15 = .ok (.aload_n 0, 1) := by decide +kernel
theorem dX12_wrong_16 : decode cX12_wrong 16 = .ok (.getfield 159, 3) := by decide +kernel
theorem dX12_wrong_19 : decode cX12_wrong 19 = .ok (.iaload, 1) := by decide +kernel
theorem dX12_wrong_20 : decode cX12_wrong 20 = .ok (.imul, 1) := by decide +kernel
theorem dX12_wrong_21 : decode cX12_wrong 21 = .ok (.iadd, 1) := by decide +kernel
theorem dX12_wrong_22 : decode cX12_wrong 22 = .ok (.putfield 162, 3) := by decide +kernel
theorem dX12_wrong_25 : decode cX12_wrong 25 = .ok (.return_, 1) := by decide +kernel
set_option maxHeartbeats 4000000 in
set_option maxRecDepth 100000 in
theorem s_X12_wrong {P : PP} {a0 : Nat} {a1 : Int32} (I : IM P a0) (ha1 : 1 ≤ a1.toInt ∧ a1.toInt ≤ 5) (hW : MW P a0) : CtrV yX12_wrong cX12_wrong 2 none ({ frames := 1, cells := 0, slots := 0, locals := 64 } : Room) 0 0 P [.ref a0, .int a1] (fun P2 => IM P2 a0 ∧ EM [8] a0 P P2 ∧ MW P2 a0 ∧ (1 ≤ (pI P2 a0 8).toInt) ∧ ((pI P a0 8).toInt ≤ (pI P2 a0 8).toInt)) := by
  refine enV (lv := [(0, .ref a0), (1, .int a1)]) (by decide) (Nat.le_of_ble_eq_true rfl) rfl (fun E D cy C Ci0 ret => ?_)
  have ha0 := I.2.1
  have h65333 := I.rg ha0 7 rfl
  have h65334 := I.rg ha0 8 rfl
  refine g_aload_n C dX12_wrong_0 rfl 0 rfl ?_
  refine g_getI C fi_X12_162 (by decide) (ha0).1 (ha0).2 dX12_wrong_1 ?_
  refine b_if_ne C 25 dX12_wrong_4 (by decide) (fun h65335 => ?_) (fun h65335 => ?_)
  · have h65335 : (pI P a0 8).toInt ≠ 0 := ti_ne h65335
    exact ret _ _ _ _ _ dX12_wrong_25 (by decide) (by decide) ⟨I, EM.rf, hW, (by show 1 ≤ (pI P a0 8).toInt; omega), (by show (pI P a0 8).toInt ≤ (pI P a0 8).toInt; omega)⟩
  · have h65335 : (pI P a0 8).toInt = 0 := congrArg Int32.toInt h65335
    refine g_aload_n C dX12_wrong_7 rfl 0 rfl ?_
    refine g_iload_n C dX12_wrong_8 rfl 1 rfl ?_
    refine g_bipush (v := 16) C dX12_wrong_9 (by decide) ?_
    refine g_aload_n C dX12_wrong_11 rfl 0 rfl ?_
    obtain ⟨b65336, e65337, h65338⟩ := I.fld (ha0) 5 13 1002 rfl
    refine g_getR C fi_X12_27 rfl e65337 (ha0).1 (ha0).2 dX12_wrong_12 ?_
    refine g_aload_n C dX12_wrong_15 rfl 0 rfl ?_
    refine g_getI C fi_X12_159 (by decide) (ha0).1 (ha0).2 dX12_wrong_16 ?_
    refine g_iald (j := ((pI P a0 7).toInt.toNat)) C h65338.1 h65338.2.1 (ix_in h65338.2.2 (by omega)) dX12_wrong_19 ?_
    have h65339 := I.arr e65337 rfl ((pI P a0 7).toInt.toNat)
    refine s_imul C dX12_wrong_20 (by show -2147483648 ≤ 16 * (pI P b65336 ((pI P a0 7).toInt.toNat)).toInt ∧ 16 * (pI P b65336 ((pI P a0 7).toInt.toNat)).toInt ≤ 2147483647; omega) (fun z65340 h65341 => ?_)
    have h65341 : z65340.toInt = 16 * (pI P b65336 ((pI P a0 7).toInt.toNat)).toInt := h65341
    refine s_iadd C dX12_wrong_21 (by show -2147483648 ≤ a1.toInt + z65340.toInt ∧ a1.toInt + z65340.toInt ≤ 2147483647; omega) (fun z65342 h65343 => ?_)
    have h65343 : z65342.toInt = a1.toInt + z65340.toInt := h65343
    refine g_putI C fi_X12_162 rfl (ha0).1 (ha0).2 dX12_wrong_22 ?_
    refine gqW (ks := [8]) (I.setI (rgOk.of rfl (by omega))) (EM.setI I (by decide)) (fun Y65344 Iy65345 Xy65346 w65347  => ?_)
    have w65347 : (pI Y65344 a0 8).toInt = z65342.toInt := w65347
    have q65348 := Xy65346.keepF 7 (by decide)
    have W65349 := hW.keep I Xy65346 (by decide) (by decide) (by decide) (by decide)
    have Xz65350 : EM [8] a0 P Y65344 := Xy65346.mono (by decide)
    have h65351 := Xy65346.at ha0
    exact ret _ _ _ _ _ dX12_wrong_25 (by decide) (by decide) ⟨Iy65345, Xz65350, W65349, (by show 1 ≤ (pI Y65344 a0 8).toInt; omega), (by show (pI P a0 8).toInt ≤ (pI Y65344 a0 8).toInt; omega)⟩
theorem dX12_readLine_77 : decode cX12_readLine 77 = .ok (.goto 38, 3) := by decide +kernel
theorem dX12_readLine_80 : decode cX12_readLine 80 = .ok (.iload_n 1, 1) := by decide +kernel
theorem dX12_readLine_81 : decode cX12_readLine 81 = .ok (.ifCond .eq 11, 3) := by decide +kernel
theorem dX12_readLine_84 : decode cX12_readLine 84 = .ok (.aload_n 0, 1) := by decide +kernel
theorem dX12_readLine_85 : decode cX12_readLine 85 = .ok (.iconst 3, 1) := by decide +kernel
theorem dX12_readLine_86 : decode cX12_readLine 86 = .ok (.invokevirtual 168, 3) := by decide +kernel
theorem dX12_readLine_89 : decode cX12_readLine 89 = .ok (.goto 26, 3) := by decide +kernel
theorem dX12_readLine_92 : decode cX12_readLine 92 = .ok (.aload_n 0, 1) := by decide +kernel
theorem dX12_readLine_93 : decode cX12_readLine 93 = .ok (.iconst 2, 1) := by decide +kernel
theorem dX12_readLine_94 : decode cX12_readLine 94 = .ok (.invokevirtual 172, 3) := by decide +kernel
theorem dX12_readLine_97 : decode cX12_readLine 97 = .ok (.ifCond .eq 18, 3) := by decide +kernel
theorem dX12_readLine_100 : decode cX12_readLine 100 = .ok (.aload_n 0, 1) := by decide +kernel
theorem dX12_readLine_101 : decode cX12_readLine 101 = .ok (.getfield 60, 3) := by decide +kernel
theorem dX12_readLine_104 : decode cX12_readLine 104 = .ok (.iconst 2, 1) := by decide +kernel
theorem dX12_readLine_105 : decode cX12_readLine 105 = .ok (.iaload, 1) := by decide +kernel
theorem dX12_readLine_106 : decode cX12_readLine 106 = .ok (.iconst 4, 1) := by decide +kernel
theorem dX12_readLine_107 : decode cX12_readLine 107 = .ok (.if_icmp .ne 8, 3) := by decide +kernel
theorem dX12_readLine_110 : decode cX12_readLine 110 = .ok (.aload_n 0, 1) := by decide +kernel
theorem dX12_readLine_111 : decode cX12_readLine 111 = .ok (.iconst 5, 1) := by decide +kernel
theorem dX12_readLine_112 : decode cX12_readLine 112 = .ok (.invokevirtual 168, 3) := by decide +kernel
theorem dX12_readLine_115 : decode cX12_readLine 115 = .ok (.aload_n 0, 1) := by decide +kernel
theorem dX12_readLine_116 : decode cX12_readLine 116 = .ok (.getfield 162, 3) := by decide +kernel
theorem dX12_readLine_119 : decode cX12_readLine 119 = .ok (.ifCond .le 4, 3) := by decide +kernel
theorem dX12_readLine_123 : decode cX12_readLine 123 = .ok (.aload_n 0, 1) := by decide +kernel
theorem dX12_readLine_124 : decode cX12_readLine 124 = .ok (.iconst 0, 1) := by decide +kernel
theorem dX12_readLine_125 : decode cX12_readLine 125 = .ok (.invokevirtual 175, 3) := by decide +kernel
theorem dX12_hasWord_0 : decode cX12_hasWord 0 = .ok (.aload_n 0, 1) := by decide +kernel
theorem dX12_hasWord_1 : decode cX12_hasWord 1 = .ok (.iload_n 1, 1) := by decide +kernel
theorem dX12_hasWord_2 : decode cX12_hasWord 2 = .ok (.invokevirtual 172, 3) := by decide +kernel
theorem dX12_hasWord_5 : decode cX12_hasWord 5 = .ok (.istore_n 2, 1) := by decide +kernel
theorem dX12_hasWord_6 : decode cX12_hasWord 6 = .ok (.aload_n 0, 1) := by decide +kernel
theorem dX12_hasWord_7 : decode cX12_hasWord 7 = .ok (.dup, 1) := by decide +kernel
theorem dX12_hasWord_8 : decode cX12_hasWord 8 = .ok (.getfield 159, 3) := by decide +kernel
theorem dX12_hasWord_11 : decode cX12_hasWord 11 = .ok (.iload_n 2, 1) := by decide +kernel
theorem dX12_hasWord_12 : decode cX12_hasWord 12 = .ok (.ifCond .eq 7, 3) := by decide +kernel
theorem dX12_hasWord_15 : decode cX12_hasWord 15 = .ok (.iconst 1, 1) := by decide +kernel
theorem dX12_hasWord_16 : decode cX12_hasWord 16 = .ok (.goto 4, 3) := by decide +kernel
theorem dX12_hasWord_19 : decode cX12_hasWord 19 = .ok (.iconst 0, 1) := by decide +kernel
theorem dX12_hasWord_20 : decode cX12_hasWord 20 = .ok (.iadd, 1) := by decide +kernel
theorem dX12_hasWord_21 : decode cX12_hasWord 21 = .ok (.putfield 159, 3) := by decide +kernel
theorem dX12_hasWord_24 : decode cX12_hasWord 24 = .ok (.iload_n 2, 1) := by decide +kernel
theorem dX12_hasWord_25 : decode cX12_hasWord 25 = .ok (.ireturn, 1) := by decide +kernel
set_option maxHeartbeats 4000000 in
set_option maxRecDepth 100000 in
theorem s_X12_hasWord {P : PP} {a0 : Nat} {a1 : Int32} (I : IM P a0) (ha1 : 0 ≤ a1.toInt ∧ a1.toInt ≤ 3) (hW : MW P a0) : CtrI yX12_hasWord cX12_hasWord 3 (some Jvm.ClassFile.FieldType.boolean) ({ frames := 2, cells := 0, slots := 0, locals := 128 } : Room) 0 0 P [.ref a0, .int a1] (fun r P2 => IM P2 a0 ∧ EM [7] a0 P P2 ∧ MW P2 a0 ∧ (0 ≤ r.toInt ∧ r.toInt ≤ 1) ∧ (((r.toInt = 0 ∨ ((pI P a0 8).toInt = 0 ∧ (pI P a0 7).toInt ≤ 999)) ∧ (pI P2 a0 7).toInt = (pI P a0 7).toInt + r.toInt) ∧ ∀ b4 b6 b9, pR P a0 4 = some b4 → pR P a0 6 = some b6 → pR P a0 9 = some b9 → r.toInt = iwA P a0 b4 b6 b9 a1.toInt.toNat ∧ (r.toInt = 0 → ∀ w, iwA P2 a0 b4 b6 b9 w = iwA P a0 b4 b6 b9 w))) := by
  refine enI (lv := [(0, .ref a0), (1, .int a1)]) (by decide) (Nat.le_of_ble_eq_true rfl) rfl (fun E D cy C Ci0 ret => ?_)
  have ha0 := I.2.1
  have h65591 := I.rg ha0 7 rfl
  have h65592 := I.rg ha0 8 rfl
  refine g_aload_n C dX12_hasWord_0 rfl 0 rfl ?_
  refine g_iload_n C dX12_hasWord_1 rfl 1 rfl ?_
  refine g_callVI (rest := []) C mv_X12_172 [.int a1] (s_X12_isWord I (by omega) hW) (ha0).1 (ha0).2 rfl rfl (by decide) (Nat.le_of_ble_eq_true rfl) (by decide) dX12_hasWord_2 (fun r65593 Y65594 h65595 => ?_)
  obtain ⟨rfl, h65595⟩ := h65595
  obtain ⟨h65595, hi65596⟩ := h65595
  obtain ⟨b65597, e65598, h65599⟩ := I.fld (ha0) 4 13 1002 rfl
  obtain ⟨b65600, e65601, h65602⟩ := I.fld (ha0) 6 14 1002 rfl
  obtain ⟨b65603, e65604, h65605⟩ := I.fld (ha0) 9 14 4 rfl
  obtain ⟨hi65596, hw65606⟩ := hi65596
  have hi65596 : r65593.toInt = 0 ∨ ((pI P a0 8).toInt = 0 ∧ (pI P a0 7).toInt ≤ 999) := hi65596
  have hw65606 : r65593.toInt = iwA P a0 b65597 b65600 b65603 a1.toInt.toNat := hw65606 b65597 b65600 b65603 e65598 e65601 e65604
  have h65595 : 0 ≤ r65593.toInt ∧ r65593.toInt ≤ 1 := h65595
  refine g_istore_n (lv' := [(2, .int r65593), (0, .ref a0), (1, .int a1)]) C dX12_hasWord_5 rfl (by decide) rfl ?_
  refine g_aload_n C dX12_hasWord_6 rfl 1 rfl ?_
  refine g_dup C dX12_hasWord_7 rfl ?_
  refine g_getI C fi_X12_159 (by decide) (ha0).1 (ha0).2 dX12_hasWord_8 ?_
  refine g_iload_n C dX12_hasWord_11 rfl 0 rfl ?_
  refine b_if_eq C 19 dX12_hasWord_12 (by decide) (fun h65607 => ?_) (fun h65607 => ?_)
  · have h65607 : r65593.toInt = 0 := congrArg Int32.toInt h65607
    refine g_iconst (v := 0) C dX12_hasWord_19 (by decide) ?_
    refine s_iadd C dX12_hasWord_20 (by show -2147483648 ≤ (pI P a0 7).toInt + 0 ∧ (pI P a0 7).toInt + 0 ≤ 2147483647; omega) (fun z65608 h65609 => ?_)
    have h65609 : z65608.toInt = (pI P a0 7).toInt + 0 := h65609
    refine g_putI C fi_X12_159 rfl (ha0).1 (ha0).2 dX12_hasWord_21 ?_
    refine gqWJ (ks := [7]) (I.setI (rgOk.of rfl (by omega))) (EM.setI I (by decide)) (fun Y65610 Iy65611 Xy65612 w65613 hJ65614 => ?_)
    have w65613 : (pI Y65610 a0 7).toInt = z65608.toInt := w65613
    have q65615 := Xy65612.keepF 8 (by decide)
    have W65616 := hW.keep I Xy65612 (by decide) (by decide) (by decide) (by decide)
    have Xz65617 : EM [7] a0 P Y65610 := Xy65612.mono (by decide)
    have h65618 := Xy65612.at ha0
    refine g_iload_n C dX12_hasWord_24 rfl 0 rfl ?_
    exact ret _ _ _ _ _ _ dX12_hasWord_25 (nar_b (b01 (by omega))) (by decide) (by decide) ⟨Iy65611, Xz65617, W65616, (by omega), ⟨⟨by omega, by show (pI Y65610 a0 7).toInt = (pI P a0 7).toInt + r65593.toInt; omega⟩, fun b49 b69 b99 e49 e69 e99 => by rw [e65598] at e49; cases e49; rw [e65601] at e69; cases e69; rw [e65604] at e99; cases e99; refine ⟨by omega, fun h9 w => iw_keep Xy65612 (by assumption) hJ65614 (by omega) w⟩⟩⟩
  · have h65607 : r65593.toInt ≠ 0 := ti_ne h65607
    refine g_iconst (v := 1) C dX12_hasWord_15 (by decide) ?_
    refine g_goto C 20 dX12_hasWord_16 (by decide) ?_
    refine s_iadd C dX12_hasWord_20 (by show -2147483648 ≤ (pI P a0 7).toInt + 1 ∧ (pI P a0 7).toInt + 1 ≤ 2147483647; omega) (fun z65619 h65620 => ?_)
    have h65620 : z65619.toInt = (pI P a0 7).toInt + 1 := h65620
    refine g_putI C fi_X12_159 rfl (ha0).1 (ha0).2 dX12_hasWord_21 ?_
    refine gqWJ (ks := [7]) (I.setI (rgOk.of rfl (by omega))) (EM.setI I (by decide)) (fun Y65621 Iy65622 Xy65623 w65624 hJ65625 => ?_)
    have w65624 : (pI Y65621 a0 7).toInt = z65619.toInt := w65624
    have q65626 := Xy65623.keepF 8 (by decide)
    have W65627 := hW.keep I Xy65623 (by decide) (by decide) (by decide) (by decide)
    have Xz65628 : EM [7] a0 P Y65621 := Xy65623.mono (by decide)
    have h65629 := Xy65623.at ha0
    refine g_iload_n C dX12_hasWord_24 rfl 0 rfl ?_
    exact ret _ _ _ _ _ _ dX12_hasWord_25 (nar_b (b01 (by omega))) (by decide) (by decide) ⟨Iy65622, Xz65628, W65627, (by omega), ⟨⟨by omega, by show (pI Y65621 a0 7).toInt = (pI P a0 7).toInt + r65593.toInt; omega⟩, fun b49 b69 b99 e49 e69 e99 => by rw [e65598] at e49; cases e49; rw [e65601] at e69; cases e69; rw [e65604] at e99; cases e99; refine ⟨by omega, fun h9 w => iw_keep Xy65623 (by assumption) hJ65625 (by omega) w⟩⟩⟩
theorem dX12_readLine_128 : decode cX12_readLine 128 = .ok (.ifCond .eq 10, 3) := by decide +kernel
theorem dX12_readLine_138 : decode cX12_readLine 138 = .ok (.aload_n 0, 1) := by decide +kernel
theorem dX12_readLine_139 : decode cX12_readLine 139 = .ok (.iconst 1, 1) := by decide +kernel
theorem dX12_readLine_140 : decode cX12_readLine 140 = .ok (.invokevirtual 175, 3) := by decide +kernel
theorem dX12_readLine_143 : decode cX12_readLine 143 = .ok (.ifCond .eq 32, 3) := by decide +kernel
theorem dX12_readLine_175 : decode cX12_readLine 175 = .ok (.aload_n 0, 1) := by decide +kernel
theorem dX12_readLine_176 : decode cX12_readLine 176 = .ok (.iconst 2, 1) := by decide +kernel
theorem dX12_readLine_177 : decode cX12_readLine 177 = .ok (.invokevirtual 175, 3) := by decide +kernel
theorem dX12_readLine_180 : decode cX12_readLine 180 = .ok (.ifCond .eq 10, 3) := by decide +kernel
theorem dX12_readLine_190 : decode cX12_readLine 190 = .ok (.aload_n 0, 1) := by decide +kernel
theorem dX12_readLine_191 : decode cX12_readLine 191 = .ok (.dup, 1) := by decide +kernel
theorem dX12_readLine_192 : decode cX12_readLine 192 = .ok (.getfield 159, 3) := by decide +kernel
theorem dX12_readLine_195 : decode cX12_readLine 195 = .ok (.iconst 1, 1) := by decide +kernel
theorem dX12_readLine_196 : decode cX12_readLine 196 = .ok (.iadd, 1) := by decide +kernel
theorem dX12_readLine_197 : decode cX12_readLine 197 = .ok (.putfield 159, 3) := by decide +kernel
theorem dX12_readLine_200 : decode cX12_readLine 200 = .ok (.aload_n 0, 1) := by decide +kernel
theorem dX12_readLine_201 : decode cX12_readLine 201 = .ok (.getfield 66, 3) := by decide +kernel
theorem dX12_readLine_204 : decode cX12_readLine 204 = .ok (.iconst 2, 1) := by decide +kernel
theorem dX12_readLine_205 : decode cX12_readLine 205 = .ok (.aload_n 0, 1) := by decide +kernel
theorem dX12_readLine_206 : decode cX12_readLine 206 = .ok (.iconst 1, 1) := by decide +kernel
theorem dX12_readLine_207 : decode cX12_readLine 207 = .ok (.sipush 996, 3) := by decide +kernel
theorem dX12_readLine_210 : decode cX12_readLine 210 = .ok (.invokevirtual 211, 3) := by decide +kernel
theorem dX12_takeNumber_0 : decode cX12_takeNumber 0 = .ok (.aload_n 0, 1) := by decide +kernel
theorem dX12_takeNumber_1 : decode cX12_takeNumber 1 = .ok (.getfield 162, 3) := by decide +kernel
theorem dX12_takeNumber_4 : decode cX12_takeNumber 4 = .ok (.ifCond .ne 24, 3) := by decide +kernel
theorem dX12_takeNumber_7 : decode cX12_takeNumber 7 = .ok (.aload_n 0, 1) := by decide +kernel
theorem dX12_takeNumber_8 : decode cX12_takeNumber 8 = .ok (.getfield 24, 3) := by decide +kernel
theorem dX12_takeNumber_11 : decode cX12_takeNumber 11 = .ok (.aload_n 0, 1) := by decide +kernel
theorem dX12_takeNumber_12 : decode cX12_takeNumber 12 = .ok (.getfield 159, 3) := by decide +kernel
theorem dX12_takeNumber_15 : decode cX12_takeNumber 15 = .ok (.iaload, 1) := by decide +kernel
theorem dX12_takeNumber_16 : decode cX12_takeNumber 16 = .ok (.iconst 2, 1) := by decide +kernel
theorem dX12_takeNumber_17 : decode cX12_takeNumber 17 = .ok (.if_icmp .eq 11, 3) := by decide +kernel
theorem dX12_takeNumber_20 : decode cX12_takeNumber 20 = .ok (.aload_n 0, 1) := by decide +kernel
theorem dX12_takeNumber_21 : decode cX12_takeNumber 21 = .ok (.iconst 1, 1) := by decide +kernel
theorem dX12_takeNumber_22 : decode cX12_takeNumber 22 = .ok (.invokevirtual 168, 3) := by decide +kernel
theorem dX12_takeNumber_25 : decode cX12_takeNumber 25 = .ok (.goto 45, 3) := by decide +kernel
theorem dX12_takeNumber_28 : decode cX12_takeNumber 28 = .ok (.aload_n 0, 1) := by decide +kernel
theorem dX12_takeNumber_29 : decode cX12_takeNumber 29 = .ok (.getfield 162, 3) := by decide +kernel
theorem dX12_takeNumber_32 : decode cX12_takeNumber 32 = .ok (.ifCond .ne 38, 3) := by decide +kernel
theorem dX12_takeNumber_35 : decode cX12_takeNumber 35 = .ok (.aload_n 0, 1) := by decide +kernel
theorem dX12_takeNumber_36 : decode cX12_takeNumber 36 = .ok (.getfield 30, 3) := by decide +kernel
theorem dX12_takeNumber_39 : decode cX12_takeNumber 39 = .ok (.aload_n 0, 1) := by decide +kernel
theorem dX12_takeNumber_40 : decode cX12_takeNumber 40 = .ok (.getfield 159, 3) := by decide +kernel
theorem dX12_takeNumber_43 : decode cX12_takeNumber 43 = .ok (.laload, 1) := by decide +kernel
theorem dX12_takeNumber_44 : decode cX12_takeNumber 44 = .ok (.iload_n 1, 1) := by decide +kernel
theorem dX12_takeNumber_45 : decode cX12_takeNumber 45 = .ok (.i2l, 1) := by decide +kernel
theorem dX12_takeNumber_46 : decode cX12_takeNumber 46 = .ok (.lcmp, 1) := by decide +kernel
theorem dX12_takeNumber_47 : decode cX12_takeNumber 47 = .ok (.ifCond .lt 18, 3) := by decide +kernel
theorem dX12_takeNumber_50 : decode cX12_takeNumber 50 = .ok (.aload_n 0, 1) := by decide +kernel
theorem dX12_takeNumber_51 : decode cX12_takeNumber 51 = .ok (.getfield 30, 3) := by decide +kernel
theorem dX12_takeNumber_54 : decode cX12_takeNumber 54 = .ok (.aload_n 0, 1) := by decide +kernel
theorem dX12_takeNumber_55 : decode cX12_takeNumber 55 = .ok (.getfield 159, 3) := by decide +kernel
theorem dX12_takeNumber_58 : decode cX12_takeNumber 58 = .ok (.laload, 1) := by decide +kernel
theorem dX12_takeNumber_59 : decode cX12_takeNumber 59 = .ok (.iload_n 2, 1) := by decide +kernel
theorem dX12_takeNumber_60 : decode cX12_takeNumber 60 = .ok (.i2l, 1) := by decide +kernel
theorem dX12_takeNumber_61 : decode cX12_takeNumber 61 = .ok (.lcmp, 1) := by decide +kernel
theorem dX12_takeNumber_62 : decode cX12_takeNumber 62 = .ok (.ifCond .le 8, 3) := by decide +kernel
theorem dX12_takeNumber_65 : decode cX12_takeNumber 65 = .ok (.aload_n 0, 1) := by decide +kernel
theorem dX12_takeNumber_66 : decode cX12_takeNumber 66 = .ok (.iconst 4, 1) := by decide +kernel
theorem dX12_takeNumber_67 : decode cX12_takeNumber 67 = .ok (.invokevirtual 168, 3) := by decide +kernel
theorem dX12_takeNumber_70 : decode cX12_takeNumber 70 = .ok (.aload_n 0, 1) := by decide +kernel
theorem dX12_takeNumber_71 : decode cX12_takeNumber 71 = .ok (.getfield 162, 3) := by decide +kernel
theorem dX12_takeNumber_74 : decode cX12_takeNumber 74 = .ok (.ifCond .le 5, 3) := by decide +kernel
theorem dX12_takeNumber_77 : decode cX12_takeNumber 77 = .ok (.iconst 0, 1) := by decide +kernel
theorem dX12_takeNumber_78 : decode cX12_takeNumber 78 = .ok (.ireturn, 1) := by decide +kernel
theorem dX12_takeNumber_79 : decode cX12_takeNumber 79 = .ok (.aload_n 0, 1) := by decide +kernel
theorem dX12_takeNumber_80 : decode cX12_takeNumber 80 = .ok (.dup, 1) := by decide +kernel
theorem dX12_takeNumber_81 : decode cX12_takeNumber 81 = .ok (.getfield 159, 3) := by decide +kernel
theorem dX12_takeNumber_84 : decode cX12_takeNumber 84 = .ok (.iconst 1, 1) := by decide +kernel
theorem dX12_takeNumber_85 : decode cX12_takeNumber 85 = .ok (.iadd, 1) := by decide +kernel
theorem dX12_takeNumber_86 : decode cX12_takeNumber 86 = .ok (.putfield 159, 3) := by decide +kernel
theorem dX12_takeNumber_89 : decode cX12_takeNumber 89 = .ok (.aload_n 0, 1) := by decide +kernel
theorem dX12_takeNumber_90 : decode cX12_takeNumber 90 = .ok (.getfield 30, 3) := by decide +kernel
theorem dX12_takeNumber_93 : decode cX12_takeNumber 93 = .ok (.aload_n 0, 1) := by decide +kernel
theorem dX12_takeNumber_94 : decode cX12_takeNumber 94 = .ok (.getfield 159, 3) := by decide +kernel
theorem dX12_takeNumber_97 : decode cX12_takeNumber 97 = .ok (.iconst 1, 1) := by decide +kernel
theorem dX12_takeNumber_98 : decode cX12_takeNumber 98 = .ok (.isub, 1) := by decide +kernel
theorem dX12_takeNumber_99 : decode cX12_takeNumber 99 = .ok (.laload, 1) := by decide +kernel
theorem dX12_takeNumber_100 : decode cX12_takeNumber 100 = .ok (.l2i, 1) := by decide +kernel
theorem dX12_takeNumber_101 : decode cX12_takeNumber 101 = .ok (.ireturn, 1) := by decide +kernel
set_option maxHeartbeats 4000000 in
set_option maxRecDepth 100000 in
theorem s_X12_takeNumber {P : PP} {a0 : Nat} {a1 : Int32} {a2 : Int32} (I : IM P a0) (ha1 : 0 ≤ a1.toInt ∧ a1.toInt ≤ 2) (ha2 : -1 ≤ a2.toInt ∧ a2.toInt ≤ 999) (hW : MW P a0) : CtrI yX12_takeNumber cX12_takeNumber 3 (some Jvm.ClassFile.FieldType.int) ({ frames := 2, cells := 0, slots := 0, locals := 128 } : Room) 0 0 P [.ref a0, .int a1, .int a2] (fun r P2 => IM P2 a0 ∧ EM [7, 8] a0 P P2 ∧ MW P2 a0 ∧ ((pI P a0 7).toInt ≤ (pI P2 a0 7).toInt) ∧ ((pI P a0 8).toInt ≤ (pI P2 a0 8).toInt) ∧ (1 ≤ (pI P2 a0 8).toInt ∨ (pI P2 a0 7).toInt = (pI P a0 7).toInt + 1) ∧ (0 ≤ r.toInt ∧ r.toInt ≤ 999) ∧ ((1 ≤ (pI P2 a0 8).toInt ∧ r.toInt = 0) ∨ (a1.toInt ≤ r.toInt ∧ r.toInt ≤ a2.toInt))) := by
  refine enI (lv := [(0, .ref a0), (1, .int a1), (2, .int a2)]) (by decide) (Nat.le_of_ble_eq_true rfl) rfl (fun E D cy C Ci0 ret => ?_)
  have ha0 := I.2.1
  have h66038 := I.rg ha0 7 rfl
  have h66039 := I.rg ha0 8 rfl
  refine g_aload_n C dX12_takeNumber_0 rfl 0 rfl ?_
  refine g_getI C fi_X12_162 (by decide) (ha0).1 (ha0).2 dX12_takeNumber_1 ?_
  refine b_if_ne C 28 dX12_takeNumber_4 (by decide) (fun h66040 => ?_) (fun h66040 => ?_)
  · have h66040 : (pI P a0 8).toInt ≠ 0 := ti_ne h66040
    refine g_aload_n C dX12_takeNumber_28 rfl 0 rfl ?_
    refine g_getI C fi_X12_162 (by decide) (ha0).1 (ha0).2 dX12_takeNumber_29 ?_
    refine b_if_ne C 70 dX12_takeNumber_32 (by decide) (fun h66041 => ?_) (fun h66041 => ?_)
    · have h66041 : (pI P a0 8).toInt ≠ 0 := ti_ne h66041
      refine g_aload_n C dX12_takeNumber_70 rfl 0 rfl ?_
      refine g_getI C fi_X12_162 (by decide) (ha0).1 (ha0).2 dX12_takeNumber_71 ?_
      refine b_if_le C 79 dX12_takeNumber_74 (by decide) (fun h66042 => ?_) (fun h66042 => ?_)
      · have h66042 : (pI P a0 8).toInt ≤ 0 := h66042
        omega
      · have h66042 : 0 < (pI P a0 8).toInt := h66042
        refine g_iconst (v := 0) C dX12_takeNumber_77 (by decide) ?_
        exact ret _ _ _ _ _ _ dX12_takeNumber_78 rfl (by decide) (by decide) ⟨I, EM.rf, hW, (by show (pI P a0 7).toInt ≤ (pI P a0 7).toInt; omega), (by show (pI P a0 8).toInt ≤ (pI P a0 8).toInt; omega), (by show 1 ≤ (pI P a0 8).toInt ∨ (pI P a0 7).toInt = (pI P a0 7).toInt + 1; omega), (by decide), (by show (1 ≤ (pI P a0 8).toInt ∧ (0 : Int) = 0) ∨ (a1.toInt ≤ 0 ∧ 0 ≤ a2.toInt); omega)⟩
    · have h66041 : (pI P a0 8).toInt = 0 := congrArg Int32.toInt h66041
      omega
  · have h66040 : (pI P a0 8).toInt = 0 := congrArg Int32.toInt h66040
    refine g_aload_n C dX12_takeNumber_7 rfl 0 rfl ?_
    obtain ⟨b66043, e66044, h66045⟩ := I.fld (ha0) 4 13 1002 rfl
    refine g_getR C fi_X12_24 rfl e66044 (ha0).1 (ha0).2 dX12_takeNumber_8 ?_
    refine g_aload_n C dX12_takeNumber_11 rfl 0 rfl ?_
    refine g_getI C fi_X12_159 (by decide) (ha0).1 (ha0).2 dX12_takeNumber_12 ?_
    refine g_iald (j := ((pI P a0 7).toInt.toNat)) C h66045.1 h66045.2.1 (ix_in h66045.2.2 (by omega)) dX12_takeNumber_15 ?_
    have h66046 := I.arr e66044 rfl ((pI P a0 7).toInt.toNat)
    refine g_iconst (v := 2) C dX12_takeNumber_16 (by decide) ?_
    have hs66047 := I.s1000 e66044 (j := (pI P a0 7).toInt) (by omega)
    refine b_icmp_eq C 28 dX12_takeNumber_17 (by decide) (fun h66048 => ?_) (fun h66048 => ?_)
    · have h66048 : (pI P b66043 ((pI P a0 7).toInt.toNat)).toInt = 2 := congrArg Int32.toInt h66048
      refine g_aload_n C dX12_takeNumber_28 rfl 0 rfl ?_
      refine g_getI C fi_X12_162 (by decide) (ha0).1 (ha0).2 dX12_takeNumber_29 ?_
      refine b_if_ne C 70 dX12_takeNumber_32 (by decide) (fun h66049 => ?_) (fun h66049 => ?_)
      · have h66049 : (pI P a0 8).toInt ≠ 0 := ti_ne h66049
        omega
      · have h66049 : (pI P a0 8).toInt = 0 := congrArg Int32.toInt h66049
        refine g_aload_n C dX12_takeNumber_35 rfl 0 rfl ?_
        obtain ⟨b66050, e66051, h66052⟩ := I.fld (ha0) 6 14 1002 rfl
        refine g_getR C fi_X12_30 rfl e66051 (ha0).1 (ha0).2 dX12_takeNumber_36 ?_
        refine g_aload_n C dX12_takeNumber_39 rfl 0 rfl ?_
        refine g_getI C fi_X12_159 (by decide) (ha0).1 (ha0).2 dX12_takeNumber_40 ?_
        refine g_lald (j := ((pI P a0 7).toInt.toNat)) C h66052.1 h66052.2.1 (ix_in h66052.2.2 (by omega)) dX12_takeNumber_43 ?_
        refine g_topl (fun l66053 h66054 => ?_)
        have hl66055 : l66053.toInt = (pJ P b66050 ((pI P a0 7).toInt.toNat)).toInt := congrArg Int64.toInt h66054
        refine g_iload_n C dX12_takeNumber_44 rfl 1 rfl ?_
        refine g_i2l C dX12_takeNumber_45 rfl ?_
        refine g_topl (fun l66056 h66057 => ?_)
        have hl66058 := i2l_val h66057
        refine g_lcmp C dX12_takeNumber_46 ?_
        refine g_topi (fun z66059 h66060 => ?_)
        have hc66061 := cmp_or h66060
        have h66062 := cmp_rg h66060
        refine b_if_lt C 65 dX12_takeNumber_47 (by decide) (fun h66063 => ?_) (fun h66063 => ?_)
        · have h66063 : z66059.toInt < 0 := h66063
          refine g_aload_n C dX12_takeNumber_65 rfl 0 rfl ?_
          refine g_iconst (v := 4) C dX12_takeNumber_66 (by decide) ?_
          refine g_callVV (rest := []) C mv_X12_168 [.int 4] (s_X12_wrong I (by decide) hW) (ha0).1 (ha0).2 rfl rfl (by decide) (Nat.le_of_ble_eq_true rfl) (by decide) dX12_takeNumber_67 (fun Y66065 h66066 => ?_)
          obtain ⟨Iy66067, Xy66068, W66069, p66070, p66071⟩ := h66066
          have p66070 : 1 ≤ (pI Y66065 a0 8).toInt := p66070
          have p66071 : (pI P a0 8).toInt ≤ (pI Y66065 a0 8).toInt := p66071
          have q66072 := Xy66068.keepF 7 (by decide)
          have Xz66073 : EM [7, 8] a0 P Y66065 := Xy66068.mono (by decide)
          have h66074 := Xy66068.at ha0
          have h66075 := Iy66067.rg h66074 8 rfl
          refine g_aload_n C dX12_takeNumber_70 rfl 0 rfl ?_
          refine g_getI C fi_X12_162 (by decide) (h66074).1 (h66074).2 dX12_takeNumber_71 ?_
          refine b_if_le C 79 dX12_takeNumber_74 (by decide) (fun h66076 => ?_) (fun h66076 => ?_)
          · have h66076 : (pI Y66065 a0 8).toInt ≤ 0 := h66076
            omega
          · have h66076 : 0 < (pI Y66065 a0 8).toInt := h66076
            refine g_iconst (v := 0) C dX12_takeNumber_77 (by decide) ?_
            exact ret _ _ _ _ _ _ dX12_takeNumber_78 rfl (by decide) (by decide) ⟨Iy66067, Xz66073, W66069, (by show (pI P a0 7).toInt ≤ (pI Y66065 a0 7).toInt; omega), (by show (pI P a0 8).toInt ≤ (pI Y66065 a0 8).toInt; omega), (by show 1 ≤ (pI Y66065 a0 8).toInt ∨ (pI Y66065 a0 7).toInt = (pI P a0 7).toInt + 1; omega), (by decide), (by show (1 ≤ (pI Y66065 a0 8).toInt ∧ (0 : Int) = 0) ∨ (a1.toInt ≤ 0 ∧ 0 ≤ a2.toInt); omega)⟩
        · have h66063 : 0 ≤ z66059.toInt := h66063
          refine g_aload_n C dX12_takeNumber_50 rfl 0 rfl ?_
          refine g_getR C fi_X12_30 rfl e66051 (ha0).1 (ha0).2 dX12_takeNumber_51 ?_
          refine g_aload_n C dX12_takeNumber_54 rfl 0 rfl ?_
          refine g_getI C fi_X12_159 (by decide) (ha0).1 (ha0).2 dX12_takeNumber_55 ?_
          refine g_lald (j := ((pI P a0 7).toInt.toNat)) C h66052.1 h66052.2.1 (ix_in h66052.2.2 (by omega)) dX12_takeNumber_58 ?_
          refine g_topl (fun l66077 h66078 => ?_)
          have hl66079 : l66077.toInt = (pJ P b66050 ((pI P a0 7).toInt.toNat)).toInt := congrArg Int64.toInt h66078
          refine g_iload_n C dX12_takeNumber_59 rfl 2 rfl ?_
          refine g_i2l C dX12_takeNumber_60 rfl ?_
          refine g_topl (fun l66080 h66081 => ?_)
          have hl66082 := i2l_val h66081
          refine g_lcmp C dX12_takeNumber_61 ?_
          refine g_topi (fun z66083 h66084 => ?_)
          have hc66085 := cmp_or h66084
          have h66086 := cmp_rg h66084
          refine b_if_le C 70 dX12_takeNumber_62 (by decide) (fun h66087 => ?_) (fun h66087 => ?_)
          · have h66087 : z66083.toInt ≤ 0 := h66087
            refine g_aload_n C dX12_takeNumber_70 rfl 0 rfl ?_
            refine g_getI C fi_X12_162 (by decide) (ha0).1 (ha0).2 dX12_takeNumber_71 ?_
            refine b_if_le C 79 dX12_takeNumber_74 (by decide) (fun h66088 => ?_) (fun h66088 => ?_)
            · have h66088 : (pI P a0 8).toInt ≤ 0 := h66088
              refine g_aload_n C dX12_takeNumber_79 rfl 0 rfl ?_
              refine g_dup C dX12_takeNumber_80 rfl ?_
              refine g_getI C fi_X12_159 (by decide) (ha0).1 (ha0).2 dX12_takeNumber_81 ?_
              refine g_iconst (v := 1) C dX12_takeNumber_84 (by decide) ?_
              refine s_iadd C dX12_takeNumber_85 (by show -2147483648 ≤ (pI P a0 7).toInt + 1 ∧ (pI P a0 7).toInt + 1 ≤ 2147483647; omega) (fun z66089 h66090 => ?_)
              have h66090 : z66089.toInt = (pI P a0 7).toInt + 1 := h66090
              refine g_putI C fi_X12_159 rfl (ha0).1 (ha0).2 dX12_takeNumber_86 ?_
              refine gqWJ (ks := [7]) (I.setI (rgOk.of rfl (by omega))) (EM.setI I (by decide)) (fun Y66091 Iy66092 Xy66093 w66094 hJ66095 => ?_)
              have w66094 : (pI Y66091 a0 7).toInt = z66089.toInt := w66094
              have q66096 := Xy66093.keepF 8 (by decide)
              have W66097 := hW.keep I Xy66093 (by decide) (by decide) (by decide) (by decide)
              have Xz66098 : EM [7, 8] a0 P Y66091 := Xy66093.mono (by decide)
              have h66099 := Xy66093.at ha0
              refine g_aload_n C dX12_takeNumber_89 rfl 0 rfl ?_
              obtain ⟨b66100, e66101, h66102⟩ := Iy66092.fld (h66099) 6 14 1002 rfl
              refine g_getR C fi_X12_30 rfl e66101 (h66099).1 (h66099).2 dX12_takeNumber_90 ?_
              refine g_aload_n C dX12_takeNumber_93 rfl 0 rfl ?_
              refine g_getI C fi_X12_159 (by decide) (h66099).1 (h66099).2 dX12_takeNumber_94 ?_
              refine g_iconst (v := 1) C dX12_takeNumber_97 (by decide) ?_
              refine s_isub C dX12_takeNumber_98 (by show -2147483648 ≤ (pI Y66091 a0 7).toInt - 1 ∧ (pI Y66091 a0 7).toInt - 1 ≤ 2147483647; omega) (fun z66103 h66104 => ?_)
              have h66104 : z66103.toInt = (pI Y66091 a0 7).toInt - 1 := h66104
              refine g_lald (j := (z66103.toInt.toNat)) C h66102.1 h66102.2.1 (ix_in h66102.2.2 (by omega)) dX12_takeNumber_99 ?_
              refine g_topl (fun l66105 h66106 => ?_)
              have hb6 : b66100 = b66050 := Option.some.inj ((EM.refB Xz66098 ha0 e66101).symm.trans e66051)
              have hl66107 : l66105.toInt = (pJ P b66050 (pI P a0 7).toInt.toNat).toInt := by rw [h66106, hb6, hJ66095, show (z66103.toInt.toNat) = (pI P a0 7).toInt.toNat by omega]
              refine g_l2i C dX12_takeNumber_100 rfl ?_
              refine g_topi (fun z66108 h66109 => ?_)
              have hl66110 := l2i_val h66109 (by omega)
              exact ret _ _ _ _ _ _ dX12_takeNumber_101 rfl (by decide) (by decide) ⟨Iy66092, Xz66098, W66097, (by show (pI P a0 7).toInt ≤ (pI Y66091 a0 7).toInt; omega), (by show (pI P a0 8).toInt ≤ (pI Y66091 a0 8).toInt; omega), (by show 1 ≤ (pI Y66091 a0 8).toInt ∨ (pI Y66091 a0 7).toInt = (pI P a0 7).toInt + 1; omega), (by omega), (by show (1 ≤ (pI Y66091 a0 8).toInt ∧ z66108.toInt = 0) ∨ (a1.toInt ≤ z66108.toInt ∧ z66108.toInt ≤ a2.toInt); omega)⟩
            · have h66088 : 0 < (pI P a0 8).toInt := h66088
              omega
          · have h66087 : 0 < z66083.toInt := h66087
            refine g_aload_n C dX12_takeNumber_65 rfl 0 rfl ?_
            refine g_iconst (v := 4) C dX12_takeNumber_66 (by decide) ?_
            refine g_callVV (rest := []) C mv_X12_168 [.int 4] (s_X12_wrong I (by decide) hW) (ha0).1 (ha0).2 rfl rfl (by decide) (Nat.le_of_ble_eq_true rfl) (by decide) dX12_takeNumber_67 (fun Y66112 h66113 => ?_)
            obtain ⟨Iy66114, Xy66115, W66116, p66117, p66118⟩ := h66113
            have p66117 : 1 ≤ (pI Y66112 a0 8).toInt := p66117
            have p66118 : (pI P a0 8).toInt ≤ (pI Y66112 a0 8).toInt := p66118
            have q66119 := Xy66115.keepF 7 (by decide)
            have Xz66120 : EM [7, 8] a0 P Y66112 := Xy66115.mono (by decide)
            have h66121 := Xy66115.at ha0
            have h66122 := Iy66114.rg h66121 8 rfl
            refine g_aload_n C dX12_takeNumber_70 rfl 0 rfl ?_
            refine g_getI C fi_X12_162 (by decide) (h66121).1 (h66121).2 dX12_takeNumber_71 ?_
            refine b_if_le C 79 dX12_takeNumber_74 (by decide) (fun h66123 => ?_) (fun h66123 => ?_)
            · have h66123 : (pI Y66112 a0 8).toInt ≤ 0 := h66123
              omega
            · have h66123 : 0 < (pI Y66112 a0 8).toInt := h66123
              refine g_iconst (v := 0) C dX12_takeNumber_77 (by decide) ?_
              exact ret _ _ _ _ _ _ dX12_takeNumber_78 rfl (by decide) (by decide) ⟨Iy66114, Xz66120, W66116, (by show (pI P a0 7).toInt ≤ (pI Y66112 a0 7).toInt; omega), (by show (pI P a0 8).toInt ≤ (pI Y66112 a0 8).toInt; omega), (by show 1 ≤ (pI Y66112 a0 8).toInt ∨ (pI Y66112 a0 7).toInt = (pI P a0 7).toInt + 1; omega), (by decide), (by show (1 ≤ (pI Y66112 a0 8).toInt ∧ (0 : Int) = 0) ∨ (a1.toInt ≤ 0 ∧ 0 ≤ a2.toInt); omega)⟩
    · have h66048 : (pI P b66043 ((pI P a0 7).toInt.toNat)).toInt ≠ 2 := ti_ne h66048
      refine g_aload_n C dX12_takeNumber_20 rfl 0 rfl ?_
      refine g_iconst (v := 1) C dX12_takeNumber_21 (by decide) ?_
      refine g_callVV (rest := []) C mv_X12_168 [.int 1] (s_X12_wrong I (by decide) hW) (ha0).1 (ha0).2 rfl rfl (by decide) (Nat.le_of_ble_eq_true rfl) (by decide) dX12_takeNumber_22 (fun Y66125 h66126 => ?_)
      obtain ⟨Iy66127, Xy66128, W66129, p66130, p66131⟩ := h66126
      have p66130 : 1 ≤ (pI Y66125 a0 8).toInt := p66130
      have p66131 : (pI P a0 8).toInt ≤ (pI Y66125 a0 8).toInt := p66131
      have q66132 := Xy66128.keepF 7 (by decide)
      have Xz66133 : EM [7, 8] a0 P Y66125 := Xy66128.mono (by decide)
      have h66134 := Xy66128.at ha0
      have h66135 := Iy66127.rg h66134 8 rfl
      refine g_goto C 70 dX12_takeNumber_25 (by decide) ?_
      refine g_aload_n C dX12_takeNumber_70 rfl 0 rfl ?_
      refine g_getI C fi_X12_162 (by decide) (h66134).1 (h66134).2 dX12_takeNumber_71 ?_
      refine b_if_le C 79 dX12_takeNumber_74 (by decide) (fun h66136 => ?_) (fun h66136 => ?_)
      · have h66136 : (pI Y66125 a0 8).toInt ≤ 0 := h66136
        omega
      · have h66136 : 0 < (pI Y66125 a0 8).toInt := h66136
        refine g_iconst (v := 0) C dX12_takeNumber_77 (by decide) ?_
        exact ret _ _ _ _ _ _ dX12_takeNumber_78 rfl (by decide) (by decide) ⟨Iy66127, Xz66133, W66129, (by show (pI P a0 7).toInt ≤ (pI Y66125 a0 7).toInt; omega), (by show (pI P a0 8).toInt ≤ (pI Y66125 a0 8).toInt; omega), (by show 1 ≤ (pI Y66125 a0 8).toInt ∨ (pI Y66125 a0 7).toInt = (pI P a0 7).toInt + 1; omega), (by decide), (by show (1 ≤ (pI Y66125 a0 8).toInt ∧ (0 : Int) = 0) ∨ (a1.toInt ≤ 0 ∧ 0 ≤ a2.toInt); omega)⟩
theorem dX12_readLine_183 : decode cX12_readLine 183 = .ok (.aload_n 0, 1) := by decide +kernel
theorem dX12_readLine_184 : decode cX12_readLine 184 = .ok (.invokevirtual 215, 3) := by decide +kernel
theorem dX12_readLine_213 : decode cX12_readLine 213 = .ok (.iastore, 1) := by decide +kernel
theorem dX12_readSum_0 : decode cX12_readSum 0 = .ok (.iconst 0, 1) := by decide +kernel
theorem dX12_readSum_1 : decode cX12_readSum 1 = .ok (.istore_n 1, 1) := by decide +kernel
theorem dX12_readSum_2 : decode cX12_readSum 2 = .ok (.iconst 0, 1) := by decide +kernel
theorem dX12_readSum_3 : decode cX12_readSum 3 = .ok (.istore_n 2, 1) := by decide +kernel
theorem dX12_readSum_4 : decode cX12_readSum 4 = .ok (.aload_n 0, 1) := by decide +kernel
theorem dX12_readSum_5 : decode cX12_readSum 5 = .ok (.getfield 162, 3) := by decide +kernel
theorem dX12_readSum_8 : decode cX12_readSum 8 = .ok (.ifCond .ne 97, 3) := by decide +kernel
theorem dX12_readSum_11 : decode cX12_readSum 11 = .ok (.iload_n 2, 1) := by decide +kernel
theorem dX12_readSum_12 : decode cX12_readSum 12 = .ok (.iconst 2, 1) := by decide +kernel
theorem dX12_readSum_13 : decode cX12_readSum 13 = .ok (.if_icmp .lt 16, 3) := by decide +kernel
theorem dX12_readSum_16 : decode cX12_readSum 16 = .ok (.aload_n 0, 1) := by decide +kernel
theorem dX12_readSum_17 : decode cX12_readSum 17 = .ok (.getfield 24, 3) := by decide +kernel
theorem dX12_readSum_20 : decode cX12_readSum 20 = .ok (.aload_n 0, 1) := by decide +kernel
theorem dX12_readSum_21 : decode cX12_readSum 21 = .ok (.getfield 159, 3) := by decide +kernel
theorem dX12_readSum_24 : decode cX12_readSum 24 = .ok (.iaload, 1) := by decide +kernel
theorem dX12_readSum_25 : decode cX12_readSum 25 = .ok (.iconst 2, 1) := by decide +kernel
theorem dX12_readSum_26 : decode cX12_readSum 26 = .ok (.if_icmp .ne 79, 3) := by decide +kernel
theorem dX12_readSum_29 : decode cX12_readSum 29 = .ok (.aload_n 0, 1) := by decide +kernel
theorem dX12_readSum_30 : decode cX12_readSum 30 = .ok (.getfield 24, 3) := by decide +kernel
theorem dX12_readSum_33 : decode cX12_readSum 33 = .ok (.aload_n 0, 1) := by decide +kernel
theorem dX12_readSum_34 : decode cX12_readSum 34 = .ok (.getfield 159, 3) := by decide +kernel
theorem dX12_readSum_37 : decode cX12_readSum 37 = .ok (.iaload, 1) := by decide +kernel
theorem dX12_readSum_38 : decode cX12_readSum 38 = .ok (.iconst 2, 1) := by decide +kernel
theorem dX12_readSum_39 : decode cX12_readSum 39 = .ok (.if_icmp .ne 44, 3) := by decide +kernel
theorem dX12_readSum_42 : decode cX12_readSum 42 = .ok (.aload_n 0, 1) := by decide +kernel
theorem dX12_readSum_43 : decode cX12_readSum 43 = .ok (.getfield 30, 3) := by decide +kernel
theorem dX12_readSum_46 : decode cX12_readSum 46 = .ok (.aload_n 0, 1) := by decide +kernel
theorem dX12_readSum_47 : decode cX12_readSum 47 = .ok (.getfield 159, 3) := by decide +kernel
theorem dX12_readSum_50 : decode cX12_readSum 50 = .ok (.laload, 1) := by decide +kernel
theorem dX12_readSum_51 : decode cX12_readSum 51 = .ok (.aload_n 0, 1) := by decide +kernel
theorem dX12_readSum_52 : decode cX12_readSum 52 = .ok (.getfield 202, 3) := by decide +kernel
theorem dX12_readSum_55 : decode cX12_readSum 55 = .ok (.i2l, 1) := by decide +kernel
theorem dX12_readSum_56 : decode cX12_readSum 56 = .ok (.lcmp, 1) := by decide +kernel
theorem dX12_readSum_57 : decode cX12_readSum 57 = .ok (.ifCond .ge 26, 3) := by decide +kernel
theorem dX12_readSum_60 : decode cX12_readSum 60 = .ok (.iload_n 1, 1) := by decide +kernel
theorem dX12_readSum_61 : decode cX12_readSum 61 = .ok (.aload_n 0, 1) := by decide +kernel
theorem dX12_readSum_62 : decode cX12_readSum 62 = .ok (.getfield 30, 3) := by decide +kernel
theorem dX12_readSum_65 : decode cX12_readSum 65 = .ok (.aload_n 0, 1) := by decide +kernel
theorem dX12_readSum_66 : decode cX12_readSum 66 = .ok (.getfield 159, 3) := by decide +kernel
theorem dX12_readSum_69 : decode cX12_readSum 69 = .ok (.laload, 1) := by decide +kernel
theorem dX12_readSum_70 : decode cX12_readSum 70 = .ok (.l2i, 1) := by decide +kernel
theorem dX12_readSum_71 : decode cX12_readSum 71 = .ok (.ishr, 1) := by decide +kernel
theorem dX12_readSum_72 : decode cX12_readSum 72 = .ok (.iconst 1, 1) := by decide +kernel
theorem dX12_readSum_73 : decode cX12_readSum 73 = .ok (.iand, 1) := by decide +kernel
theorem dX12_readSum_74 : decode cX12_readSum 74 = .ok (.iconst 1, 1) := by decide +kernel
theorem dX12_readSum_75 : decode cX12_readSum 75 = .ok (.if_icmp .ne 8, 3) := by decide +kernel
theorem dX12_readSum_78 : decode cX12_readSum 78 = .ok (.aload_n 0, 1) := by decide +kernel
theorem dX12_readSum_79 : decode cX12_readSum 79 = .ok (.iconst 3, 1) := by decide +kernel
theorem dX12_readSum_80 : decode cX12_readSum 80 = .ok (.invokevirtual 168, 3) := by decide +kernel
theorem dX12_readSum_83 : decode cX12_readSum 83 = .ok (.iload_n 1, 1) := by decide +kernel
theorem dX12_readSum_84 : decode cX12_readSum 84 = .ok (.iconst 1, 1) := by decide +kernel
theorem dX12_readSum_85 : decode cX12_readSum 85 = .ok (.aload_n 0, 1) := by decide +kernel
theorem dX12_readSum_86 : decode cX12_readSum 86 = .ok (.iconst 0, 1) := by decide +kernel
theorem dX12_readSum_87 : decode cX12_readSum 87 = .ok (.aload_n 0, 1) := by decide +kernel
theorem dX12_readSum_88 : decode cX12_readSum 88 = .ok (.getfield 202, 3) := by decide +kernel
theorem dX12_readSum_91 : decode cX12_readSum 91 = .ok (.iconst 1, 1) := by decide +kernel
theorem dX12_readSum_92 : decode cX12_readSum 92 = .ok (.isub, 1) := by decide +kernel
theorem dX12_readSum_93 : decode cX12_readSum 93 = .ok (.invokevirtual 211, 3) := by decide +kernel
theorem dX12_readSum_96 : decode cX12_readSum 96 = .ok (.ishl, 1) := by decide +kernel
theorem dX12_readSum_97 : decode cX12_readSum 97 = .ok (.ior, 1) := by decide +kernel
theorem dX12_readSum_98 : decode cX12_readSum 98 = .ok (.istore_n 1, 1) := by decide +kernel
theorem dX12_readSum_99 : decode cX12_readSum 99 = .ok (.iinc 2 1, 3) := by decide +kernel
theorem dX12_readSum_102 : decode cX12_readSum 102 = .ok (.goto (-98), 3) := by decide +kernel
theorem dX12_readSum_105 : decode cX12_readSum 105 = .ok (.aload_n 0, 1) := by decide +kernel
theorem dX12_readSum_106 : decode cX12_readSum 106 = .ok (.getfield 63, 3) := by decide +kernel
theorem dX12_readSum_109 : decode cX12_readSum 109 = .ok (.bipush 8, 2) := by decide +kernel
theorem dX12_readSum_111 : decode cX12_readSum 111 = .ok (.aload_n 0, 1) := by decide +kernel
theorem dX12_readSum_112 : decode cX12_readSum 112 = .ok (.getfield 60, 3) := by decide +kernel
theorem dX12_readSum_115 : decode cX12_readSum 115 = .ok (.iconst 2, 1) := by decide +kernel
theorem dX12_readSum_116 : decode cX12_readSum 116 = .ok (.iaload, 1) := by decide +kernel
theorem dX12_readSum_117 : decode cX12_readSum 117 = .ok (.iadd, 1) := by decide +kernel
theorem dX12_readSum_118 : decode cX12_readSum 118 = .ok (.iload_n 1, 1) := by decide +kernel
theorem dX12_readSum_119 : decode cX12_readSum 119 = .ok (.iastore, 1) := by decide +kernel
theorem dX12_readSum_120 : decode cX12_readSum 120 = .ok (.aload_n 0, 1) := by decide +kernel
theorem dX12_readSum_121 : decode cX12_readSum 121 = .ok (.getfield 60, 3) := by decide +kernel
theorem dX12_readSum_124 : decode cX12_readSum 124 = .ok (.iconst 2, 1) := by decide +kernel
theorem dX12_readSum_125 : decode cX12_readSum 125 = .ok (.dup2, 1) := by decide +kernel
theorem dX12_readSum_126 : decode cX12_readSum 126 = .ok (.iaload, 1) := by decide +kernel
theorem dX12_readSum_127 : decode cX12_readSum 127 = .ok (.iconst 1, 1) := by decide +kernel
theorem dX12_readSum_128 : decode cX12_readSum 128 = .ok (.iadd, 1) := by decide +kernel
theorem dX12_readSum_129 : decode cX12_readSum 129 = .ok (.iastore, 1) := by decide +kernel
theorem dX12_readSum_130 : decode cX12_readSum 130 = .ok (.return_, 1) := by decide +kernel
set_option maxHeartbeats 4000000 in
set_option maxRecDepth 100000 in
theorem s_X12_readSum {P : PP} {a0 : Nat} (I : IM P a0) (hf0 : ∀ b, pR P a0 15 = some b → 0 ≤ (pI P b 2).toInt ∧ (pI P b 2).toInt ≤ 3) (hW : MW P a0) : CtrV yX12_readSum cX12_readSum 3 none ({ frames := 3, cells := 0, slots := 0, locals := 192 } : Room) 0 0 P [.ref a0] (fun P2 => IM P2 a0 ∧ EM [7, 8, 15, 16] a0 P P2 ∧ MW P2 a0 ∧ ((pI P a0 7).toInt ≤ (pI P2 a0 7).toInt) ∧ ((pI P a0 8).toInt ≤ (pI P2 a0 8).toInt)) := by
  refine enV (lv := [(0, .ref a0)]) (by decide) (Nat.le_of_ble_eq_true rfl) rfl (fun E D cy C Ci0 ret => ?_)
  have ha0 := I.2.1
  have J105 : ∀ (P105 : PP) (v105_1 : Int32), (IM P105 a0) → (EM [7, 8, 15, 16] a0 P P105) → (MW P105 a0) → (0 ≤ (pI P105 a0 8).toInt ∧ (pI P105 a0 8).toInt ≤ 16005) → (∀ b, pR P105 a0 15 = some b → 0 ≤ (pI P105 b 2).toInt ∧ (pI P105 b 2).toInt ≤ 3) → ((pI P a0 7).toInt ≤ (pI P105 a0 7).toInt) → ((pI P a0 8).toInt ≤ (pI P105 a0 8).toInt) → G E ({ frames := 3, cells := 0, slots := 0, locals := 192 } : Room) D cy 3 P105 0 0 105 [(0, .ref a0), (1, .int v105_1)] [] := by
    intro P105 v105_1 I105 X105 W105 hq105_0 hq105_1 rel105_0 rel105_1
    have h75900 := X105.at ha0
    obtain ⟨b75901, e75902, h75903⟩ := I105.fld (h75900) 15 13 3 rfl
    have hq105_1 := hq105_1 b75901 e75902
    have h75904 := I105.rg h75900 7 rfl
    refine g_aload_n C dX12_readSum_105 rfl 0 rfl ?_
    obtain ⟨b75905, e75906, h75907⟩ := I105.fld (h75900) 16 13 12 rfl
    refine g_getR C fi_X12_63 rfl e75906 (h75900).1 (h75900).2 dX12_readSum_106 ?_
    refine g_bipush (v := 8) C dX12_readSum_109 (by decide) ?_
    refine g_aload_n C dX12_readSum_111 rfl 0 rfl ?_
    refine g_getR C fi_X12_60 rfl e75902 (h75900).1 (h75900).2 dX12_readSum_112 ?_
    refine g_iconst (v := 2) C dX12_readSum_115 (by decide) ?_
    refine g_iald (j := 2) C h75903.1 h75903.2.1 (IX.litn (j := 2) h75903.2.2 rfl (by decide) (by decide)) dX12_readSum_116 ?_
    refine s_iadd C dX12_readSum_117 (by show -2147483648 ≤ 8 + (pI P105 b75901 2).toInt ∧ 8 + (pI P105 b75901 2).toInt ≤ 2147483647; omega) (fun z75908 h75909 => ?_)
    have h75909 : z75908.toInt = 8 + (pI P105 b75901 2).toInt := h75909
    refine g_iload_n C dX12_readSum_118 rfl 1 rfl ?_
    refine g_iast (j := (z75908.toInt.toNat)) C h75907.1 h75907.2.1 (ix_in h75907.2.2 (by omega)) dX12_readSum_119 ?_
    refine gqW (ks := [16]) (I105.setA e75906 h75907 (by decide) (arOk.none rfl)) (EM.setA I105 e75906 rfl (by decide)) (fun Y75910 Iy75911 Xy75912 w75913  => ?_)
    have w75913 : (pI Y75910 b75905 (z75908.toInt.toNat)).toInt = v105_1.toInt := w75913
    have q75914 := Xy75912.keepF 8 (by decide)
    have q75915 := Xy75912.keepA e75902 (by decide) rfl 2
    have q75916 := Xy75912.keepF 7 (by decide)
    have W75917 := W105.keep I105 Xy75912 (by decide) (by decide) (by decide) (by decide)
    have Xz75918 : EM [7, 8, 15, 16] a0 P Y75910 := EM.tr ha0 X105 (Xy75912.mono (by decide))
    have e75919 := Xy75912.ref h75900 (by decide) e75902
    have e75920 := Xy75912.ref h75900 (by decide) e75906
    have h75921 := Xy75912.at h75900
    have h75922 := Xy75912.ar h75903
    have h75923 := Xy75912.ar h75907
    refine g_aload_n C dX12_readSum_120 rfl 0 rfl ?_
    refine g_getR C fi_X12_60 rfl e75919 (h75921).1 (h75921).2 dX12_readSum_121 ?_
    refine g_iconst (v := 2) C dX12_readSum_124 (by decide) ?_
    refine g_dup2_11 C dX12_readSum_125 rfl rfl ?_
    refine g_iald (j := 2) C h75922.1 h75922.2.1 (IX.litn (j := 2) h75922.2.2 rfl (by decide) (by decide)) dX12_readSum_126 ?_
    refine g_iconst (v := 1) C dX12_readSum_127 (by decide) ?_
    refine s_iadd C dX12_readSum_128 (by show -2147483648 ≤ (pI Y75910 b75901 2).toInt + 1 ∧ (pI Y75910 b75901 2).toInt + 1 ≤ 2147483647; omega) (fun z75924 h75925 => ?_)
    have h75925 : z75924.toInt = (pI Y75910 b75901 2).toInt + 1 := h75925
    refine g_iast (j := 2) C h75922.1 h75922.2.1 (IX.litn (j := 2) h75922.2.2 rfl (by decide) (by decide)) dX12_readSum_129 ?_
    refine gqW (ks := [15]) (Iy75911.setA e75919 h75922 (by decide) (arOk.of rfl (by omega))) (EM.setA Iy75911 e75919 rfl (by decide)) (fun Y75926 Iy75927 Xy75928 w75929  => ?_)
    have w75929 : (pI Y75926 b75901 2).toInt = z75924.toInt := w75929
    have q75930 := Xy75928.keepF 8 (by decide)
    have q75931 := Xy75928.keepF 7 (by decide)
    have q75932 := Xy75928.keepA e75920 (by decide) rfl (z75908.toInt.toNat)
    have W75933 := W75917.keep Iy75911 Xy75928 (by decide) (by decide) (by decide) (by decide)
    have Xz75934 : EM [7, 8, 15, 16] a0 P Y75926 := EM.tr ha0 Xz75918 (Xy75928.mono (by decide))
    have e75935 := Xy75928.ref h75921 (by decide) e75919
    have e75936 := Xy75928.ref h75921 (by decide) e75920
    have h75937 := Xy75928.at h75921
    have h75938 := Xy75928.ar h75922
    have h75939 := Xy75928.ar h75923
    exact ret _ _ _ _ _ dX12_readSum_130 (by decide) (by decide) ⟨Iy75927, Xz75934, W75933, (by show (pI P a0 7).toInt ≤ (pI Y75926 a0 7).toInt; omega), (by show (pI P a0 8).toInt ≤ (pI Y75926 a0 8).toInt; omega)⟩
  have J4 : ∀ (n4 : Nat) (P4 : PP) (v4_1 : Int32) (v4_2 : Int32), (2 * (1000 - (pI P4 a0 7).toInt) + 1 - min 1 (pI P4 a0 8).toInt).toNat < n4 → (IM P4 a0) → (EM [7, 8, 15, 16] a0 P P4) → (MW P4 a0) → (∀ b, pR P4 a0 15 = some b → 0 ≤ (pI P4 b 2).toInt ∧ (pI P4 b 2).toInt ≤ 3) → ((pI P a0 7).toInt ≤ (pI P4 a0 7).toInt) → ((pI P a0 8).toInt ≤ (pI P4 a0 8).toInt) → G E ({ frames := 3, cells := 0, slots := 0, locals := 192 } : Room) D cy 3 P4 0 0 4 [(0, .ref a0), (1, .int v4_1), (2, .int v4_2)] [] := by
    intro n4
    induction n4 with
    | zero => intro P4 v4_1 v4_2 hm4 I4 X4 W4 hq4_0 rel4_0 rel4_1; omega
    | succ n4 ih4 =>
      intro P4 v4_1 v4_2 hm4 I4 X4 W4 hq4_0 rel4_0 rel4_1
      have h75940 := X4.at ha0
      obtain ⟨b75941, e75942, h75943⟩ := I4.fld (h75940) 15 13 3 rfl
      have hq4_0 := hq4_0 b75941 e75942
      have h75944 := I4.rg h75940 7 rfl
      have h75945 := I4.rg h75940 8 rfl
      refine g_aload_n C dX12_readSum_4 rfl 0 rfl ?_
      refine g_getI C fi_X12_162 (by decide) (h75940).1 (h75940).2 dX12_readSum_5 ?_
      refine b_if_ne C 105 dX12_readSum_8 (by decide) (fun h75946 => ?_) (fun h75946 => ?_)
      · have h75946 : (pI P4 a0 8).toInt ≠ 0 := ti_ne h75946
        refine g_lv (lv' := [(0, .ref a0), (1, .int v4_1)]) [0, 1] rfl ?_
        exact J105 P4 v4_1 I4 X4 W4 (by omega) (fun b9 e9 => by rw [e75942] at e9; cases e9; omega) (by show (pI P a0 7).toInt ≤ (pI P4 a0 7).toInt; omega) (by show (pI P a0 8).toInt ≤ (pI P4 a0 8).toInt; omega)
      · have h75946 : (pI P4 a0 8).toInt = 0 := congrArg Int32.toInt h75946
        refine g_iload_n C dX12_readSum_11 rfl 2 rfl ?_
        refine g_iconst (v := 2) C dX12_readSum_12 (by decide) ?_
        have u75948 := ti_rng v4_2
        refine b_icmp_lt C 29 dX12_readSum_13 (by decide) (fun h75947 => ?_) (fun h75947 => ?_)
        · have h75947 : v4_2.toInt < 2 := h75947
          refine g_aload_n C dX12_readSum_29 rfl 0 rfl ?_
          obtain ⟨b75949, e75950, h75951⟩ := I4.fld (h75940) 4 13 1002 rfl
          refine g_getR C fi_X12_24 rfl e75950 (h75940).1 (h75940).2 dX12_readSum_30 ?_
          refine g_aload_n C dX12_readSum_33 rfl 0 rfl ?_
          refine g_getI C fi_X12_159 (by decide) (h75940).1 (h75940).2 dX12_readSum_34 ?_
          refine g_iald (j := ((pI P4 a0 7).toInt.toNat)) C h75951.1 h75951.2.1 (ix_in h75951.2.2 (by omega)) dX12_readSum_37 ?_
          have h75952 := I4.arr e75950 rfl ((pI P4 a0 7).toInt.toNat)
          refine g_iconst (v := 2) C dX12_readSum_38 (by decide) ?_
          refine b_icmp_ne C 83 dX12_readSum_39 (by decide) (fun h75953 => ?_) (fun h75953 => ?_)
          · have h75953 : (pI P4 b75949 ((pI P4 a0 7).toInt.toNat)).toInt ≠ 2 := ti_ne h75953
            refine g_iload_n C dX12_readSum_83 rfl 1 rfl ?_
            refine g_iconst (v := 1) C dX12_readSum_84 (by decide) ?_
            refine g_aload_n C dX12_readSum_85 rfl 0 rfl ?_
            refine g_iconst (v := 0) C dX12_readSum_86 (by decide) ?_
            refine g_aload_n C dX12_readSum_87 rfl 0 rfl ?_
            refine g_getI C fi_X12_202 (by decide) (h75940).1 (h75940).2 dX12_readSum_88 ?_
            have h75954 := I4.rg (h75940) 18 rfl
            refine g_iconst (v := 1) C dX12_readSum_91 (by decide) ?_
            refine s_isub C dX12_readSum_92 (by show -2147483648 ≤ (pI P4 a0 18).toInt - 1 ∧ (pI P4 a0 18).toInt - 1 ≤ 2147483647; omega) (fun z75955 h75956 => ?_)
            have h75956 : z75955.toInt = (pI P4 a0 18).toInt - 1 := h75956
            refine g_callVI (rest := [.int 1, .int v4_1]) C mv_X12_211 [.int 0, .int z75955] (s_X12_takeNumber I4 (by decide) (by omega) W4) (h75940).1 (h75940).2 rfl rfl (by decide) (Nat.le_of_ble_eq_true rfl) (by decide) dX12_readSum_93 (fun r75957 Y75958 h75959 => ?_)
            obtain ⟨Iy75960, Xy75961, W75962, p75963, p75964, p75965, h75959⟩ := h75959
            have p75963 : (pI P4 a0 7).toInt ≤ (pI Y75958 a0 7).toInt := p75963
            have p75964 : (pI P4 a0 8).toInt ≤ (pI Y75958 a0 8).toInt := p75964
            have p75965 : 1 ≤ (pI Y75958 a0 8).toInt ∨ (pI Y75958 a0 7).toInt = (pI P4 a0 7).toInt + 1 := p75965
            have q75966 := Xy75961.keepA e75942 (by decide) rfl 2
            have q75967 := Xy75961.keepF 18 (by decide)
            have Xz75968 : EM [7, 8, 15, 16] a0 P Y75958 := EM.tr ha0 X4 (Xy75961.mono (by decide))
            have e75969 := Xy75961.ref h75940 (by decide) e75942
            have h75970 := Xy75961.at h75940
            have h75971 := Xy75961.ar h75943
            have h75972 := Iy75960.rg h75970 7 rfl
            have h75973 := Iy75960.rg h75970 8 rfl
            have h75974 := Iy75960.rg h75970 7 rfl
            have h75975 := Iy75960.rg h75970 8 rfl
            obtain ⟨h75959, hi75976⟩ := h75959
            have hi75976 : (1 ≤ (pI Y75958 a0 8).toInt ∧ r75957.toInt = 0) ∨ (0 ≤ r75957.toInt ∧ r75957.toInt ≤ z75955.toInt) := hi75976
            have h75959 : 0 ≤ r75957.toInt ∧ r75957.toInt ≤ 999 := h75959
            refine a_ishl C dX12_readSum_96 (fun z75977 => ?_)
            refine a_ior C dX12_readSum_97 (fun z75979 => ?_)
            refine g_istore_n (lv' := [(1, .int z75979), (0, .ref a0), (2, .int v4_2)]) C dX12_readSum_98 rfl (by decide) rfl ?_
            refine s_iinc (lv0 := [(1, .int z75979), (0, .ref a0)]) (m := 1) C dX12_readSum_99 2 rfl (by decide) rfl (by decide) (by omega) (fun z75981 h75982 => ?_)
            have h75982 : z75981.toInt = v4_2.toInt + 1 := h75982
            refine g_goto C 4 dX12_readSum_102 (by decide) ?_
            refine g_lv (lv' := [(0, .ref a0), (1, .int z75979), (2, .int z75981)]) [2, 1, 0] rfl ?_
            exact ih4 Y75958 z75979 z75981 (by omega) Iy75960 Xz75968 W75962 (fun b9 e9 => by rw [e75969] at e9; cases e9; omega) (by show (pI P a0 7).toInt ≤ (pI Y75958 a0 7).toInt; omega) (by show (pI P a0 8).toInt ≤ (pI Y75958 a0 8).toInt; omega)
          · have h75953 : (pI P4 b75949 ((pI P4 a0 7).toInt.toNat)).toInt = 2 := congrArg Int32.toInt h75953
            refine g_aload_n C dX12_readSum_42 rfl 0 rfl ?_
            obtain ⟨b75983, e75984, h75985⟩ := I4.fld (h75940) 6 14 1002 rfl
            refine g_getR C fi_X12_30 rfl e75984 (h75940).1 (h75940).2 dX12_readSum_43 ?_
            refine g_aload_n C dX12_readSum_46 rfl 0 rfl ?_
            refine g_getI C fi_X12_159 (by decide) (h75940).1 (h75940).2 dX12_readSum_47 ?_
            refine g_lald (j := ((pI P4 a0 7).toInt.toNat)) C h75985.1 h75985.2.1 (ix_in h75985.2.2 (by omega)) dX12_readSum_50 ?_
            refine g_topl (fun l75986 _ => ?_)
            refine g_aload_n C dX12_readSum_51 rfl 0 rfl ?_
            refine g_getI C fi_X12_202 (by decide) (h75940).1 (h75940).2 dX12_readSum_52 ?_
            have h75987 := I4.rg (h75940) 18 rfl
            refine a_i2l C dX12_readSum_55 (fun l75988 => ?_)
            refine a_lcmp C dX12_readSum_56 (fun z75989 => ?_)
            have u75991 := ti_rng z75989
            refine b_if_ge C 83 dX12_readSum_57 (by decide) (fun h75990 => ?_) (fun h75990 => ?_)
            · have h75990 : 0 ≤ z75989.toInt := h75990
              refine g_iload_n C dX12_readSum_83 rfl 1 rfl ?_
              refine g_iconst (v := 1) C dX12_readSum_84 (by decide) ?_
              refine g_aload_n C dX12_readSum_85 rfl 0 rfl ?_
              refine g_iconst (v := 0) C dX12_readSum_86 (by decide) ?_
              refine g_aload_n C dX12_readSum_87 rfl 0 rfl ?_
              refine g_getI C fi_X12_202 (by decide) (h75940).1 (h75940).2 dX12_readSum_88 ?_
              refine g_iconst (v := 1) C dX12_readSum_91 (by decide) ?_
              refine s_isub C dX12_readSum_92 (by show -2147483648 ≤ (pI P4 a0 18).toInt - 1 ∧ (pI P4 a0 18).toInt - 1 ≤ 2147483647; omega) (fun z75992 h75993 => ?_)
              have h75993 : z75992.toInt = (pI P4 a0 18).toInt - 1 := h75993
              refine g_callVI (rest := [.int 1, .int v4_1]) C mv_X12_211 [.int 0, .int z75992] (s_X12_takeNumber I4 (by decide) (by omega) W4) (h75940).1 (h75940).2 rfl rfl (by decide) (Nat.le_of_ble_eq_true rfl) (by decide) dX12_readSum_93 (fun r75994 Y75995 h75996 => ?_)
              obtain ⟨Iy75997, Xy75998, W75999, p76000, p76001, p76002, h75996⟩ := h75996
              have p76000 : (pI P4 a0 7).toInt ≤ (pI Y75995 a0 7).toInt := p76000
              have p76001 : (pI P4 a0 8).toInt ≤ (pI Y75995 a0 8).toInt := p76001
              have p76002 : 1 ≤ (pI Y75995 a0 8).toInt ∨ (pI Y75995 a0 7).toInt = (pI P4 a0 7).toInt + 1 := p76002
              have q76003 := Xy75998.keepA e75942 (by decide) rfl 2
              have q76004 := Xy75998.keepF 18 (by decide)
              have Xz76005 : EM [7, 8, 15, 16] a0 P Y75995 := EM.tr ha0 X4 (Xy75998.mono (by decide))
              have e76006 := Xy75998.ref h75940 (by decide) e75942
              have h76007 := Xy75998.at h75940
              have h76008 := Xy75998.ar h75943
              have h76009 := Iy75997.rg h76007 7 rfl
              have h76010 := Iy75997.rg h76007 8 rfl
              have h76011 := Iy75997.rg h76007 7 rfl
              have h76012 := Iy75997.rg h76007 8 rfl
              obtain ⟨h75996, hi76013⟩ := h75996
              have hi76013 : (1 ≤ (pI Y75995 a0 8).toInt ∧ r75994.toInt = 0) ∨ (0 ≤ r75994.toInt ∧ r75994.toInt ≤ z75992.toInt) := hi76013
              have h75996 : 0 ≤ r75994.toInt ∧ r75994.toInt ≤ 999 := h75996
              refine a_ishl C dX12_readSum_96 (fun z76014 => ?_)
              refine a_ior C dX12_readSum_97 (fun z76016 => ?_)
              refine g_istore_n (lv' := [(1, .int z76016), (0, .ref a0), (2, .int v4_2)]) C dX12_readSum_98 rfl (by decide) rfl ?_
              refine s_iinc (lv0 := [(1, .int z76016), (0, .ref a0)]) (m := 1) C dX12_readSum_99 2 rfl (by decide) rfl (by decide) (by omega) (fun z76018 h76019 => ?_)
              have h76019 : z76018.toInt = v4_2.toInt + 1 := h76019
              refine g_goto C 4 dX12_readSum_102 (by decide) ?_
              refine g_lv (lv' := [(0, .ref a0), (1, .int z76016), (2, .int z76018)]) [2, 1, 0] rfl ?_
              exact ih4 Y75995 z76016 z76018 (by omega) Iy75997 Xz76005 W75999 (fun b9 e9 => by rw [e76006] at e9; cases e9; omega) (by show (pI P a0 7).toInt ≤ (pI Y75995 a0 7).toInt; omega) (by show (pI P a0 8).toInt ≤ (pI Y75995 a0 8).toInt; omega)
            · have h75990 : z75989.toInt < 0 := h75990
              refine g_iload_n C dX12_readSum_60 rfl 1 rfl ?_
              refine g_aload_n C dX12_readSum_61 rfl 0 rfl ?_
              refine g_getR C fi_X12_30 rfl e75984 (h75940).1 (h75940).2 dX12_readSum_62 ?_
              refine g_aload_n C dX12_readSum_65 rfl 0 rfl ?_
              refine g_getI C fi_X12_159 (by decide) (h75940).1 (h75940).2 dX12_readSum_66 ?_
              refine g_lald (j := ((pI P4 a0 7).toInt.toNat)) C h75985.1 h75985.2.1 (ix_in h75985.2.2 (by omega)) dX12_readSum_69 ?_
              refine g_topl (fun l76020 _ => ?_)
              refine a_l2i C dX12_readSum_70 (fun z76021 => ?_)
              refine a_ishr C dX12_readSum_71 (fun z76022 => ?_)
              refine g_iconst (v := 1) C dX12_readSum_72 (by decide) ?_
              refine s_iand C dX12_readSum_73 (by show 0 ≤ 1; omega) (fun z76024 h76025 => ?_)
              have h76025 : 0 ≤ z76024.toInt ∧ z76024.toInt ≤ 1 := h76025
              refine g_iconst (v := 1) C dX12_readSum_74 (by decide) ?_
              refine b_icmp_ne C 83 dX12_readSum_75 (by decide) (fun h76026 => ?_) (fun h76026 => ?_)
              · have h76026 : z76024.toInt ≠ 1 := ti_ne h76026
                refine g_iload_n C dX12_readSum_83 rfl 1 rfl ?_
                refine g_iconst (v := 1) C dX12_readSum_84 (by decide) ?_
                refine g_aload_n C dX12_readSum_85 rfl 0 rfl ?_
                refine g_iconst (v := 0) C dX12_readSum_86 (by decide) ?_
                refine g_aload_n C dX12_readSum_87 rfl 0 rfl ?_
                refine g_getI C fi_X12_202 (by decide) (h75940).1 (h75940).2 dX12_readSum_88 ?_
                refine g_iconst (v := 1) C dX12_readSum_91 (by decide) ?_
                refine s_isub C dX12_readSum_92 (by show -2147483648 ≤ (pI P4 a0 18).toInt - 1 ∧ (pI P4 a0 18).toInt - 1 ≤ 2147483647; omega) (fun z76027 h76028 => ?_)
                have h76028 : z76027.toInt = (pI P4 a0 18).toInt - 1 := h76028
                refine g_callVI (rest := [.int 1, .int v4_1]) C mv_X12_211 [.int 0, .int z76027] (s_X12_takeNumber I4 (by decide) (by omega) W4) (h75940).1 (h75940).2 rfl rfl (by decide) (Nat.le_of_ble_eq_true rfl) (by decide) dX12_readSum_93 (fun r76029 Y76030 h76031 => ?_)
                obtain ⟨Iy76032, Xy76033, W76034, p76035, p76036, p76037, h76031⟩ := h76031
                have p76035 : (pI P4 a0 7).toInt ≤ (pI Y76030 a0 7).toInt := p76035
                have p76036 : (pI P4 a0 8).toInt ≤ (pI Y76030 a0 8).toInt := p76036
                have p76037 : 1 ≤ (pI Y76030 a0 8).toInt ∨ (pI Y76030 a0 7).toInt = (pI P4 a0 7).toInt + 1 := p76037
                have q76038 := Xy76033.keepA e75942 (by decide) rfl 2
                have q76039 := Xy76033.keepF 18 (by decide)
                have Xz76040 : EM [7, 8, 15, 16] a0 P Y76030 := EM.tr ha0 X4 (Xy76033.mono (by decide))
                have e76041 := Xy76033.ref h75940 (by decide) e75942
                have h76042 := Xy76033.at h75940
                have h76043 := Xy76033.ar h75943
                have h76044 := Iy76032.rg h76042 7 rfl
                have h76045 := Iy76032.rg h76042 8 rfl
                have h76046 := Iy76032.rg h76042 7 rfl
                have h76047 := Iy76032.rg h76042 8 rfl
                obtain ⟨h76031, hi76048⟩ := h76031
                have hi76048 : (1 ≤ (pI Y76030 a0 8).toInt ∧ r76029.toInt = 0) ∨ (0 ≤ r76029.toInt ∧ r76029.toInt ≤ z76027.toInt) := hi76048
                have h76031 : 0 ≤ r76029.toInt ∧ r76029.toInt ≤ 999 := h76031
                refine a_ishl C dX12_readSum_96 (fun z76049 => ?_)
                refine a_ior C dX12_readSum_97 (fun z76051 => ?_)
                refine g_istore_n (lv' := [(1, .int z76051), (0, .ref a0), (2, .int v4_2)]) C dX12_readSum_98 rfl (by decide) rfl ?_
                refine s_iinc (lv0 := [(1, .int z76051), (0, .ref a0)]) (m := 1) C dX12_readSum_99 2 rfl (by decide) rfl (by decide) (by omega) (fun z76053 h76054 => ?_)
                have h76054 : z76053.toInt = v4_2.toInt + 1 := h76054
                refine g_goto C 4 dX12_readSum_102 (by decide) ?_
                refine g_lv (lv' := [(0, .ref a0), (1, .int z76051), (2, .int z76053)]) [2, 1, 0] rfl ?_
                exact ih4 Y76030 z76051 z76053 (by omega) Iy76032 Xz76040 W76034 (fun b9 e9 => by rw [e76041] at e9; cases e9; omega) (by show (pI P a0 7).toInt ≤ (pI Y76030 a0 7).toInt; omega) (by show (pI P a0 8).toInt ≤ (pI Y76030 a0 8).toInt; omega)
              · have h76026 : z76024.toInt = 1 := congrArg Int32.toInt h76026
                refine g_aload_n C dX12_readSum_78 rfl 0 rfl ?_
                refine g_iconst (v := 3) C dX12_readSum_79 (by decide) ?_
                refine g_callVV (rest := []) C mv_X12_168 [.int 3] (s_X12_wrong I4 (by decide) W4) (h75940).1 (h75940).2 rfl rfl (by decide) (Nat.le_of_ble_eq_true rfl) (by decide) dX12_readSum_80 (fun Y76056 h76057 => ?_)
                obtain ⟨Iy76058, Xy76059, W76060, p76061, p76062⟩ := h76057
                have p76061 : 1 ≤ (pI Y76056 a0 8).toInt := p76061
                have p76062 : (pI P4 a0 8).toInt ≤ (pI Y76056 a0 8).toInt := p76062
                have q76063 := Xy76059.keepA e75942 (by decide) rfl 2
                have q76064 := Xy76059.keepF 7 (by decide)
                have q76065 := Xy76059.keepF 18 (by decide)
                have Xz76066 : EM [7, 8, 15, 16] a0 P Y76056 := EM.tr ha0 X4 (Xy76059.mono (by decide))
                have e76067 := Xy76059.ref h75940 (by decide) e75942
                have h76068 := Xy76059.at h75940
                have h76069 := Xy76059.ar h75943
                have h76070 := Iy76058.rg h76068 8 rfl
                refine g_iload_n C dX12_readSum_83 rfl 1 rfl ?_
                refine g_iconst (v := 1) C dX12_readSum_84 (by decide) ?_
                refine g_aload_n C dX12_readSum_85 rfl 0 rfl ?_
                refine g_iconst (v := 0) C dX12_readSum_86 (by decide) ?_
                refine g_aload_n C dX12_readSum_87 rfl 0 rfl ?_
                refine g_getI C fi_X12_202 (by decide) (h76068).1 (h76068).2 dX12_readSum_88 ?_
                refine g_iconst (v := 1) C dX12_readSum_91 (by decide) ?_
                refine s_isub C dX12_readSum_92 (by show -2147483648 ≤ (pI Y76056 a0 18).toInt - 1 ∧ (pI Y76056 a0 18).toInt - 1 ≤ 2147483647; omega) (fun z76071 h76072 => ?_)
                have h76072 : z76071.toInt = (pI Y76056 a0 18).toInt - 1 := h76072
                refine g_callVI (rest := [.int 1, .int v4_1]) C mv_X12_211 [.int 0, .int z76071] (s_X12_takeNumber Iy76058 (by decide) (by omega) W76060) (h76068).1 (h76068).2 rfl rfl (by decide) (Nat.le_of_ble_eq_true rfl) (by decide) dX12_readSum_93 (fun r76073 Y76074 h76075 => ?_)
                obtain ⟨Iy76076, Xy76077, W76078, p76079, p76080, p76081, h76075⟩ := h76075
                have p76079 : (pI Y76056 a0 7).toInt ≤ (pI Y76074 a0 7).toInt := p76079
                have p76080 : (pI Y76056 a0 8).toInt ≤ (pI Y76074 a0 8).toInt := p76080
                have p76081 : 1 ≤ (pI Y76074 a0 8).toInt ∨ (pI Y76074 a0 7).toInt = (pI Y76056 a0 7).toInt + 1 := p76081
                have q76082 := Xy76077.keepA e76067 (by decide) rfl 2
                have q76083 := Xy76077.keepF 18 (by decide)
                have Xz76084 : EM [7, 8, 15, 16] a0 P Y76074 := EM.tr ha0 Xz76066 (Xy76077.mono (by decide))
                have e76085 := Xy76077.ref h76068 (by decide) e76067
                have h76086 := Xy76077.at h76068
                have h76087 := Xy76077.ar h76069
                have h76088 := Iy76076.rg h76086 7 rfl
                have h76089 := Iy76076.rg h76086 8 rfl
                have h76090 := Iy76076.rg h76086 7 rfl
                have h76091 := Iy76076.rg h76086 8 rfl
                obtain ⟨h76075, hi76092⟩ := h76075
                have hi76092 : (1 ≤ (pI Y76074 a0 8).toInt ∧ r76073.toInt = 0) ∨ (0 ≤ r76073.toInt ∧ r76073.toInt ≤ z76071.toInt) := hi76092
                have h76075 : 0 ≤ r76073.toInt ∧ r76073.toInt ≤ 999 := h76075
                refine a_ishl C dX12_readSum_96 (fun z76093 => ?_)
                refine a_ior C dX12_readSum_97 (fun z76095 => ?_)
                refine g_istore_n (lv' := [(1, .int z76095), (0, .ref a0), (2, .int v4_2)]) C dX12_readSum_98 rfl (by decide) rfl ?_
                refine s_iinc (lv0 := [(1, .int z76095), (0, .ref a0)]) (m := 1) C dX12_readSum_99 2 rfl (by decide) rfl (by decide) (by omega) (fun z76097 h76098 => ?_)
                have h76098 : z76097.toInt = v4_2.toInt + 1 := h76098
                refine g_goto C 4 dX12_readSum_102 (by decide) ?_
                refine g_lv (lv' := [(0, .ref a0), (1, .int z76095), (2, .int z76097)]) [2, 1, 0] rfl ?_
                exact ih4 Y76074 z76095 z76097 (by omega) Iy76076 Xz76084 W76078 (fun b9 e9 => by rw [e76085] at e9; cases e9; omega) (by show (pI P a0 7).toInt ≤ (pI Y76074 a0 7).toInt; omega) (by show (pI P a0 8).toInt ≤ (pI Y76074 a0 8).toInt; omega)
        · have h75947 : 2 ≤ v4_2.toInt := h75947
          refine g_aload_n C dX12_readSum_16 rfl 0 rfl ?_
          obtain ⟨b76099, e76100, h76101⟩ := I4.fld (h75940) 4 13 1002 rfl
          refine g_getR C fi_X12_24 rfl e76100 (h75940).1 (h75940).2 dX12_readSum_17 ?_
          refine g_aload_n C dX12_readSum_20 rfl 0 rfl ?_
          refine g_getI C fi_X12_159 (by decide) (h75940).1 (h75940).2 dX12_readSum_21 ?_
          refine g_iald (j := ((pI P4 a0 7).toInt.toNat)) C h76101.1 h76101.2.1 (ix_in h76101.2.2 (by omega)) dX12_readSum_24 ?_
          have h76102 := I4.arr e76100 rfl ((pI P4 a0 7).toInt.toNat)
          refine g_iconst (v := 2) C dX12_readSum_25 (by decide) ?_
          refine b_icmp_ne C 105 dX12_readSum_26 (by decide) (fun h76103 => ?_) (fun h76103 => ?_)
          · have h76103 : (pI P4 b76099 ((pI P4 a0 7).toInt.toNat)).toInt ≠ 2 := ti_ne h76103
            refine g_lv (lv' := [(0, .ref a0), (1, .int v4_1)]) [0, 1] rfl ?_
            exact J105 P4 v4_1 I4 X4 W4 (by omega) (fun b9 e9 => by rw [e75942] at e9; cases e9; omega) (by show (pI P a0 7).toInt ≤ (pI P4 a0 7).toInt; omega) (by show (pI P a0 8).toInt ≤ (pI P4 a0 8).toInt; omega)
          · have h76103 : (pI P4 b76099 ((pI P4 a0 7).toInt.toNat)).toInt = 2 := congrArg Int32.toInt h76103
            refine g_aload_n C dX12_readSum_29 rfl 0 rfl ?_
            refine g_getR C fi_X12_24 rfl e76100 (h75940).1 (h75940).2 dX12_readSum_30 ?_
            refine g_aload_n C dX12_readSum_33 rfl 0 rfl ?_
            refine g_getI C fi_X12_159 (by decide) (h75940).1 (h75940).2 dX12_readSum_34 ?_
            refine g_iald (j := ((pI P4 a0 7).toInt.toNat)) C h76101.1 h76101.2.1 (ix_in h76101.2.2 (by omega)) dX12_readSum_37 ?_
            refine g_iconst (v := 2) C dX12_readSum_38 (by decide) ?_
            refine b_icmp_ne C 83 dX12_readSum_39 (by decide) (fun h76104 => ?_) (fun h76104 => ?_)
            · have h76104 : (pI P4 b76099 ((pI P4 a0 7).toInt.toNat)).toInt ≠ 2 := ti_ne h76104
              omega
            · have h76104 : (pI P4 b76099 ((pI P4 a0 7).toInt.toNat)).toInt = 2 := congrArg Int32.toInt h76104
              refine g_aload_n C dX12_readSum_42 rfl 0 rfl ?_
              obtain ⟨b76105, e76106, h76107⟩ := I4.fld (h75940) 6 14 1002 rfl
              refine g_getR C fi_X12_30 rfl e76106 (h75940).1 (h75940).2 dX12_readSum_43 ?_
              refine g_aload_n C dX12_readSum_46 rfl 0 rfl ?_
              refine g_getI C fi_X12_159 (by decide) (h75940).1 (h75940).2 dX12_readSum_47 ?_
              refine g_lald (j := ((pI P4 a0 7).toInt.toNat)) C h76107.1 h76107.2.1 (ix_in h76107.2.2 (by omega)) dX12_readSum_50 ?_
              refine g_topl (fun l76108 _ => ?_)
              refine g_aload_n C dX12_readSum_51 rfl 0 rfl ?_
              refine g_getI C fi_X12_202 (by decide) (h75940).1 (h75940).2 dX12_readSum_52 ?_
              have h76109 := I4.rg (h75940) 18 rfl
              refine a_i2l C dX12_readSum_55 (fun l76110 => ?_)
              refine a_lcmp C dX12_readSum_56 (fun z76111 => ?_)
              have u76113 := ti_rng z76111
              refine b_if_ge C 83 dX12_readSum_57 (by decide) (fun h76112 => ?_) (fun h76112 => ?_)
              · have h76112 : 0 ≤ z76111.toInt := h76112
                refine g_iload_n C dX12_readSum_83 rfl 1 rfl ?_
                refine g_iconst (v := 1) C dX12_readSum_84 (by decide) ?_
                refine g_aload_n C dX12_readSum_85 rfl 0 rfl ?_
                refine g_iconst (v := 0) C dX12_readSum_86 (by decide) ?_
                refine g_aload_n C dX12_readSum_87 rfl 0 rfl ?_
                refine g_getI C fi_X12_202 (by decide) (h75940).1 (h75940).2 dX12_readSum_88 ?_
                refine g_iconst (v := 1) C dX12_readSum_91 (by decide) ?_
                refine s_isub C dX12_readSum_92 (by show -2147483648 ≤ (pI P4 a0 18).toInt - 1 ∧ (pI P4 a0 18).toInt - 1 ≤ 2147483647; omega) (fun z76114 h76115 => ?_)
                have h76115 : z76114.toInt = (pI P4 a0 18).toInt - 1 := h76115
                refine g_callVI (rest := [.int 1, .int v4_1]) C mv_X12_211 [.int 0, .int z76114] (s_X12_takeNumber I4 (by decide) (by omega) W4) (h75940).1 (h75940).2 rfl rfl (by decide) (Nat.le_of_ble_eq_true rfl) (by decide) dX12_readSum_93 (fun r76116 Y76117 h76118 => ?_)
                obtain ⟨Iy76119, Xy76120, W76121, p76122, p76123, p76124, h76118⟩ := h76118
                have p76122 : (pI P4 a0 7).toInt ≤ (pI Y76117 a0 7).toInt := p76122
                have p76123 : (pI P4 a0 8).toInt ≤ (pI Y76117 a0 8).toInt := p76123
                have p76124 : 1 ≤ (pI Y76117 a0 8).toInt ∨ (pI Y76117 a0 7).toInt = (pI P4 a0 7).toInt + 1 := p76124
                have q76125 := Xy76120.keepA e75942 (by decide) rfl 2
                have q76126 := Xy76120.keepF 18 (by decide)
                have Xz76127 : EM [7, 8, 15, 16] a0 P Y76117 := EM.tr ha0 X4 (Xy76120.mono (by decide))
                have e76128 := Xy76120.ref h75940 (by decide) e75942
                have h76129 := Xy76120.at h75940
                have h76130 := Xy76120.ar h75943
                have h76131 := Iy76119.rg h76129 7 rfl
                have h76132 := Iy76119.rg h76129 8 rfl
                have h76133 := Iy76119.rg h76129 7 rfl
                have h76134 := Iy76119.rg h76129 8 rfl
                obtain ⟨h76118, hi76135⟩ := h76118
                have hi76135 : (1 ≤ (pI Y76117 a0 8).toInt ∧ r76116.toInt = 0) ∨ (0 ≤ r76116.toInt ∧ r76116.toInt ≤ z76114.toInt) := hi76135
                have h76118 : 0 ≤ r76116.toInt ∧ r76116.toInt ≤ 999 := h76118
                refine a_ishl C dX12_readSum_96 (fun z76136 => ?_)
                refine a_ior C dX12_readSum_97 (fun z76138 => ?_)
                refine g_istore_n (lv' := [(1, .int z76138), (0, .ref a0), (2, .int v4_2)]) C dX12_readSum_98 rfl (by decide) rfl ?_
                refine a_iinc (lv0 := [(1, .int z76138), (0, .ref a0)]) C dX12_readSum_99 2 rfl (by decide) rfl (fun z76140 => ?_)
                refine g_goto C 4 dX12_readSum_102 (by decide) ?_
                refine g_lv (lv' := [(0, .ref a0), (1, .int z76138), (2, .int z76140)]) [2, 1, 0] rfl ?_
                exact ih4 Y76117 z76138 z76140 (by omega) Iy76119 Xz76127 W76121 (fun b9 e9 => by rw [e76128] at e9; cases e9; omega) (by show (pI P a0 7).toInt ≤ (pI Y76117 a0 7).toInt; omega) (by show (pI P a0 8).toInt ≤ (pI Y76117 a0 8).toInt; omega)
              · have h76112 : z76111.toInt < 0 := h76112
                refine g_iload_n C dX12_readSum_60 rfl 1 rfl ?_
                refine g_aload_n C dX12_readSum_61 rfl 0 rfl ?_
                refine g_getR C fi_X12_30 rfl e76106 (h75940).1 (h75940).2 dX12_readSum_62 ?_
                refine g_aload_n C dX12_readSum_65 rfl 0 rfl ?_
                refine g_getI C fi_X12_159 (by decide) (h75940).1 (h75940).2 dX12_readSum_66 ?_
                refine g_lald (j := ((pI P4 a0 7).toInt.toNat)) C h76107.1 h76107.2.1 (ix_in h76107.2.2 (by omega)) dX12_readSum_69 ?_
                refine g_topl (fun l76142 _ => ?_)
                refine a_l2i C dX12_readSum_70 (fun z76143 => ?_)
                refine a_ishr C dX12_readSum_71 (fun z76144 => ?_)
                refine g_iconst (v := 1) C dX12_readSum_72 (by decide) ?_
                refine s_iand C dX12_readSum_73 (by show 0 ≤ 1; omega) (fun z76146 h76147 => ?_)
                have h76147 : 0 ≤ z76146.toInt ∧ z76146.toInt ≤ 1 := h76147
                refine g_iconst (v := 1) C dX12_readSum_74 (by decide) ?_
                refine b_icmp_ne C 83 dX12_readSum_75 (by decide) (fun h76148 => ?_) (fun h76148 => ?_)
                · have h76148 : z76146.toInt ≠ 1 := ti_ne h76148
                  refine g_iload_n C dX12_readSum_83 rfl 1 rfl ?_
                  refine g_iconst (v := 1) C dX12_readSum_84 (by decide) ?_
                  refine g_aload_n C dX12_readSum_85 rfl 0 rfl ?_
                  refine g_iconst (v := 0) C dX12_readSum_86 (by decide) ?_
                  refine g_aload_n C dX12_readSum_87 rfl 0 rfl ?_
                  refine g_getI C fi_X12_202 (by decide) (h75940).1 (h75940).2 dX12_readSum_88 ?_
                  refine g_iconst (v := 1) C dX12_readSum_91 (by decide) ?_
                  refine s_isub C dX12_readSum_92 (by show -2147483648 ≤ (pI P4 a0 18).toInt - 1 ∧ (pI P4 a0 18).toInt - 1 ≤ 2147483647; omega) (fun z76149 h76150 => ?_)
                  have h76150 : z76149.toInt = (pI P4 a0 18).toInt - 1 := h76150
                  refine g_callVI (rest := [.int 1, .int v4_1]) C mv_X12_211 [.int 0, .int z76149] (s_X12_takeNumber I4 (by decide) (by omega) W4) (h75940).1 (h75940).2 rfl rfl (by decide) (Nat.le_of_ble_eq_true rfl) (by decide) dX12_readSum_93 (fun r76151 Y76152 h76153 => ?_)
                  obtain ⟨Iy76154, Xy76155, W76156, p76157, p76158, p76159, h76153⟩ := h76153
                  have p76157 : (pI P4 a0 7).toInt ≤ (pI Y76152 a0 7).toInt := p76157
                  have p76158 : (pI P4 a0 8).toInt ≤ (pI Y76152 a0 8).toInt := p76158
                  have p76159 : 1 ≤ (pI Y76152 a0 8).toInt ∨ (pI Y76152 a0 7).toInt = (pI P4 a0 7).toInt + 1 := p76159
                  have q76160 := Xy76155.keepA e75942 (by decide) rfl 2
                  have q76161 := Xy76155.keepF 18 (by decide)
                  have Xz76162 : EM [7, 8, 15, 16] a0 P Y76152 := EM.tr ha0 X4 (Xy76155.mono (by decide))
                  have e76163 := Xy76155.ref h75940 (by decide) e75942
                  have h76164 := Xy76155.at h75940
                  have h76165 := Xy76155.ar h75943
                  have h76166 := Iy76154.rg h76164 7 rfl
                  have h76167 := Iy76154.rg h76164 8 rfl
                  have h76168 := Iy76154.rg h76164 7 rfl
                  have h76169 := Iy76154.rg h76164 8 rfl
                  obtain ⟨h76153, hi76170⟩ := h76153
                  have hi76170 : (1 ≤ (pI Y76152 a0 8).toInt ∧ r76151.toInt = 0) ∨ (0 ≤ r76151.toInt ∧ r76151.toInt ≤ z76149.toInt) := hi76170
                  have h76153 : 0 ≤ r76151.toInt ∧ r76151.toInt ≤ 999 := h76153
                  refine a_ishl C dX12_readSum_96 (fun z76171 => ?_)
                  refine a_ior C dX12_readSum_97 (fun z76173 => ?_)
                  refine g_istore_n (lv' := [(1, .int z76173), (0, .ref a0), (2, .int v4_2)]) C dX12_readSum_98 rfl (by decide) rfl ?_
                  refine a_iinc (lv0 := [(1, .int z76173), (0, .ref a0)]) C dX12_readSum_99 2 rfl (by decide) rfl (fun z76175 => ?_)
                  refine g_goto C 4 dX12_readSum_102 (by decide) ?_
                  refine g_lv (lv' := [(0, .ref a0), (1, .int z76173), (2, .int z76175)]) [2, 1, 0] rfl ?_
                  exact ih4 Y76152 z76173 z76175 (by omega) Iy76154 Xz76162 W76156 (fun b9 e9 => by rw [e76163] at e9; cases e9; omega) (by show (pI P a0 7).toInt ≤ (pI Y76152 a0 7).toInt; omega) (by show (pI P a0 8).toInt ≤ (pI Y76152 a0 8).toInt; omega)
                · have h76148 : z76146.toInt = 1 := congrArg Int32.toInt h76148
                  refine g_aload_n C dX12_readSum_78 rfl 0 rfl ?_
                  refine g_iconst (v := 3) C dX12_readSum_79 (by decide) ?_
                  refine g_callVV (rest := []) C mv_X12_168 [.int 3] (s_X12_wrong I4 (by decide) W4) (h75940).1 (h75940).2 rfl rfl (by decide) (Nat.le_of_ble_eq_true rfl) (by decide) dX12_readSum_80 (fun Y76178 h76179 => ?_)
                  obtain ⟨Iy76180, Xy76181, W76182, p76183, p76184⟩ := h76179
                  have p76183 : 1 ≤ (pI Y76178 a0 8).toInt := p76183
                  have p76184 : (pI P4 a0 8).toInt ≤ (pI Y76178 a0 8).toInt := p76184
                  have q76185 := Xy76181.keepA e75942 (by decide) rfl 2
                  have q76186 := Xy76181.keepF 7 (by decide)
                  have q76187 := Xy76181.keepF 18 (by decide)
                  have Xz76188 : EM [7, 8, 15, 16] a0 P Y76178 := EM.tr ha0 X4 (Xy76181.mono (by decide))
                  have e76189 := Xy76181.ref h75940 (by decide) e75942
                  have h76190 := Xy76181.at h75940
                  have h76191 := Xy76181.ar h75943
                  have h76192 := Iy76180.rg h76190 8 rfl
                  refine g_iload_n C dX12_readSum_83 rfl 1 rfl ?_
                  refine g_iconst (v := 1) C dX12_readSum_84 (by decide) ?_
                  refine g_aload_n C dX12_readSum_85 rfl 0 rfl ?_
                  refine g_iconst (v := 0) C dX12_readSum_86 (by decide) ?_
                  refine g_aload_n C dX12_readSum_87 rfl 0 rfl ?_
                  refine g_getI C fi_X12_202 (by decide) (h76190).1 (h76190).2 dX12_readSum_88 ?_
                  refine g_iconst (v := 1) C dX12_readSum_91 (by decide) ?_
                  refine s_isub C dX12_readSum_92 (by show -2147483648 ≤ (pI Y76178 a0 18).toInt - 1 ∧ (pI Y76178 a0 18).toInt - 1 ≤ 2147483647; omega) (fun z76193 h76194 => ?_)
                  have h76194 : z76193.toInt = (pI Y76178 a0 18).toInt - 1 := h76194
                  refine g_callVI (rest := [.int 1, .int v4_1]) C mv_X12_211 [.int 0, .int z76193] (s_X12_takeNumber Iy76180 (by decide) (by omega) W76182) (h76190).1 (h76190).2 rfl rfl (by decide) (Nat.le_of_ble_eq_true rfl) (by decide) dX12_readSum_93 (fun r76195 Y76196 h76197 => ?_)
                  obtain ⟨Iy76198, Xy76199, W76200, p76201, p76202, p76203, h76197⟩ := h76197
                  have p76201 : (pI Y76178 a0 7).toInt ≤ (pI Y76196 a0 7).toInt := p76201
                  have p76202 : (pI Y76178 a0 8).toInt ≤ (pI Y76196 a0 8).toInt := p76202
                  have p76203 : 1 ≤ (pI Y76196 a0 8).toInt ∨ (pI Y76196 a0 7).toInt = (pI Y76178 a0 7).toInt + 1 := p76203
                  have q76204 := Xy76199.keepA e76189 (by decide) rfl 2
                  have q76205 := Xy76199.keepF 18 (by decide)
                  have Xz76206 : EM [7, 8, 15, 16] a0 P Y76196 := EM.tr ha0 Xz76188 (Xy76199.mono (by decide))
                  have e76207 := Xy76199.ref h76190 (by decide) e76189
                  have h76208 := Xy76199.at h76190
                  have h76209 := Xy76199.ar h76191
                  have h76210 := Iy76198.rg h76208 7 rfl
                  have h76211 := Iy76198.rg h76208 8 rfl
                  have h76212 := Iy76198.rg h76208 7 rfl
                  have h76213 := Iy76198.rg h76208 8 rfl
                  obtain ⟨h76197, hi76214⟩ := h76197
                  have hi76214 : (1 ≤ (pI Y76196 a0 8).toInt ∧ r76195.toInt = 0) ∨ (0 ≤ r76195.toInt ∧ r76195.toInt ≤ z76193.toInt) := hi76214
                  have h76197 : 0 ≤ r76195.toInt ∧ r76195.toInt ≤ 999 := h76197
                  refine a_ishl C dX12_readSum_96 (fun z76215 => ?_)
                  refine a_ior C dX12_readSum_97 (fun z76217 => ?_)
                  refine g_istore_n (lv' := [(1, .int z76217), (0, .ref a0), (2, .int v4_2)]) C dX12_readSum_98 rfl (by decide) rfl ?_
                  refine a_iinc (lv0 := [(1, .int z76217), (0, .ref a0)]) C dX12_readSum_99 2 rfl (by decide) rfl (fun z76219 => ?_)
                  refine g_goto C 4 dX12_readSum_102 (by decide) ?_
                  refine g_lv (lv' := [(0, .ref a0), (1, .int z76217), (2, .int z76219)]) [2, 1, 0] rfl ?_
                  exact ih4 Y76196 z76217 z76219 (by omega) Iy76198 Xz76206 W76200 (fun b9 e9 => by rw [e76207] at e9; cases e9; omega) (by show (pI P a0 7).toInt ≤ (pI Y76196 a0 7).toInt; omega) (by show (pI P a0 8).toInt ≤ (pI Y76196 a0 8).toInt; omega)
  obtain ⟨b76221, e76222, h76223⟩ := I.fld (ha0) 15 13 3 rfl
  have hf0 := hf0 b76221 e76222
  have h76224 := I.rg ha0 7 rfl
  have h76225 := I.rg ha0 8 rfl
  refine g_iconst (v := 0) C dX12_readSum_0 (by decide) ?_
  refine g_istore_n (lv' := [(1, .int 0), (0, .ref a0)]) C dX12_readSum_1 rfl (by decide) rfl ?_
  refine g_iconst (v := 0) C dX12_readSum_2 (by decide) ?_
  refine g_istore_n (lv' := [(2, .int 0), (1, .int 0), (0, .ref a0)]) C dX12_readSum_3 rfl (by decide) rfl ?_
  refine g_lv (lv' := [(0, .ref a0), (1, .int 0), (2, .int 0)]) [2, 1, 0] rfl ?_
  exact J4 _ P 0 0 (Nat.lt_succ_self _) I EM.rf hW (fun b9 e9 => by rw [e76222] at e9; cases e9; omega) (by show (pI P a0 7).toInt ≤ (pI P a0 7).toInt; omega) (by show (pI P a0 8).toInt ≤ (pI P a0 8).toInt; omega)
