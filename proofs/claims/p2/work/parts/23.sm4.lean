theorem dX12_degree_0 : decode cX12_degree 0 = .ok (.aload_n 0, 1) := by decide +kernel
theorem dX12_degree_1 : decode cX12_degree 1 = .ok (.iconst 0, 1) := by decide +kernel
theorem dX12_degree_2 : decode cX12_degree 2 = .ok (.putfield 1, 3) := by decide +kernel
theorem dX12_degree_5 : decode cX12_degree 5 = .ok (.aload_n 0, 1) := by decide +kernel
theorem dX12_degree_6 : decode cX12_degree 6 = .ok (.iload_n 1, 1) := by decide +kernel
theorem dX12_degree_7 : decode cX12_degree 7 = .ok (.iload_n 2, 1) := by decide +kernel
theorem dX12_degree_8 : decode cX12_degree 8 = .ok (.iload 4, 2) := by decide +kernel
theorem dX12_degree_10 : decode cX12_degree 10 = .ok (.invokevirtual 377, 3) := by decide +kernel
theorem dX12_degree_13 : decode cX12_degree 13 = .ok (.ifCond .eq 12, 3) := by decide +kernel
theorem dX12_degree_16 : decode cX12_degree 16 = .ok (.iload_n 3, 1) := by decide +kernel
theorem dX12_degree_17 : decode cX12_degree 17 = .ok (.iconst 0, 1) := by decide +kernel
theorem dX12_degree_18 : decode cX12_degree 18 = .ok (.iload_n 2, 1) := by decide +kernel
theorem dX12_degree_19 : decode cX12_degree 19 = .ok (.invokestatic 178, 3) := by decide +kernel
theorem dX12_degree_22 : decode cX12_degree 22 = .ok (.ifCond .ne 5, 3) := by decide +kernel
theorem dX12_degree_25 : decode cX12_degree 25 = .ok (.iconst (-1), 1) := by decide +kernel
theorem dX12_degree_26 : decode cX12_degree 26 = .ok (.ireturn, 1) := by decide +kernel
theorem dX12_degree_27 : decode cX12_degree 27 = .ok (.iconst 0, 1) := by decide +kernel
theorem dX12_degree_28 : decode cX12_degree 28 = .ok (.istore 5, 2) := by decide +kernel
theorem dX12_degree_30 : decode cX12_degree 30 = .ok (.iload 5, 2) := by decide +kernel
theorem dX12_degree_32 : decode cX12_degree 32 = .ok (.bipush 21, 2) := by decide +kernel
theorem dX12_degree_34 : decode cX12_degree 34 = .ok (.if_icmp .ge 41, 3) := by decide +kernel
theorem dX12_degree_37 : decode cX12_degree 37 = .ok (.aload_n 0, 1) := by decide +kernel
theorem dX12_degree_38 : decode cX12_degree 38 = .ok (.getfield 124, 3) := by decide +kernel
theorem dX12_degree_41 : decode cX12_degree 41 = .ok (.iload 5, 2) := by decide +kernel
theorem dX12_degree_43 : decode cX12_degree 43 = .ok (.aload_n 0, 1) := by decide +kernel
theorem dX12_degree_44 : decode cX12_degree 44 = .ok (.getfield 51, 3) := by decide +kernel
theorem dX12_degree_47 : decode cX12_degree 47 = .ok (.bipush 21, 2) := by decide +kernel
theorem dX12_degree_49 : decode cX12_degree 49 = .ok (.iload_n 1, 1) := by decide +kernel
theorem dX12_degree_50 : decode cX12_degree 50 = .ok (.imul, 1) := by decide +kernel
theorem dX12_degree_51 : decode cX12_degree 51 = .ok (.iload 5, 2) := by decide +kernel
theorem dX12_degree_53 : decode cX12_degree 53 = .ok (.iadd, 1) := by decide +kernel
theorem dX12_degree_54 : decode cX12_degree 54 = .ok (.iaload, 1) := by decide +kernel
theorem dX12_degree_55 : decode cX12_degree 55 = .ok (.iastore, 1) := by decide +kernel
theorem dX12_degree_56 : decode cX12_degree 56 = .ok (.aload_n 0, 1) := by decide +kernel
theorem dX12_degree_57 : decode cX12_degree 57 = .ok (.getfield 51, 3) := by decide +kernel
theorem dX12_degree_60 : decode cX12_degree 60 = .ok (.bipush 21, 2) := by decide +kernel
theorem dX12_degree_62 : decode cX12_degree 62 = .ok (.iload_n 1, 1) := by decide +kernel
theorem dX12_degree_63 : decode cX12_degree 63 = .ok (.imul, 1) := by decide +kernel
theorem dX12_degree_64 : decode cX12_degree 64 = .ok (.iload 5, 2) := by decide +kernel
theorem dX12_degree_66 : decode cX12_degree 66 = .ok (.iadd, 1) := by decide +kernel
theorem dX12_degree_67 : decode cX12_degree 67 = .ok (.iconst (-1), 1) := by decide +kernel
theorem dX12_degree_68 : decode cX12_degree 68 = .ok (.iastore, 1) := by decide +kernel
theorem dX12_degree_69 : decode cX12_degree 69 = .ok (.iinc 5 1, 3) := by decide +kernel
theorem dX12_degree_72 : decode cX12_degree 72 = .ok (.goto (-42), 3) := by decide +kernel
theorem dX12_degree_75 : decode cX12_degree 75 = .ok (.iconst (-1), 1) := by decide +kernel
theorem dX12_degree_76 : decode cX12_degree 76 = .ok (.istore 5, 2) := by decide +kernel
theorem dX12_degree_78 : decode cX12_degree 78 = .ok (.iconst (-1), 1) := by decide +kernel
theorem dX12_degree_79 : decode cX12_degree 79 = .ok (.istore 6, 2) := by decide +kernel
theorem dX12_degree_81 : decode cX12_degree 81 = .ok (.iconst 1, 1) := by decide +kernel
theorem dX12_degree_82 : decode cX12_degree 82 = .ok (.istore 7, 2) := by decide +kernel
theorem dX12_degree_84 : decode cX12_degree 84 = .ok (.iload 7, 2) := by decide +kernel
theorem dX12_degree_86 : decode cX12_degree 86 = .ok (.aload_n 0, 1) := by decide +kernel
theorem dX12_degree_87 : decode cX12_degree 87 = .ok (.iload_n 1, 1) := by decide +kernel
theorem dX12_degree_88 : decode cX12_degree 88 = .ok (.invokevirtual 238, 3) := by decide +kernel
theorem dX12_degree_91 : decode cX12_degree 91 = .ok (.if_icmp .gt 67, 3) := by decide +kernel
theorem dX12_degree_94 : decode cX12_degree 94 = .ok (.aload_n 0, 1) := by decide +kernel
theorem dX12_degree_95 : decode cX12_degree 95 = .ok (.getfield 51, 3) := by decide +kernel
theorem dX12_degree_98 : decode cX12_degree 98 = .ok (.bipush 21, 2) := by decide +kernel
theorem dX12_degree_100 : decode cX12_degree 100 = .ok (.iload_n 1, 1) := by decide +kernel
theorem dX12_degree_101 : decode cX12_degree 101 = .ok (.imul, 1) := by decide +kernel
theorem dX12_degree_102 : decode cX12_degree 102 = .ok (.iload 7, 2) := by decide +kernel
theorem dX12_degree_104 : decode cX12_degree 104 = .ok (.iadd, 1) := by decide +kernel
theorem dX12_degree_105 : decode cX12_degree 105 = .ok (.iconst 1, 1) := by decide +kernel
theorem dX12_degree_106 : decode cX12_degree 106 = .ok (.iastore, 1) := by decide +kernel
theorem dX12_degree_107 : decode cX12_degree 107 = .ok (.aload_n 0, 1) := by decide +kernel
theorem dX12_degree_108 : decode cX12_degree 108 = .ok (.iload_n 1, 1) := by decide +kernel
theorem dX12_degree_109 : decode cX12_degree 109 = .ok (.iload_n 2, 1) := by decide +kernel
theorem dX12_degree_110 : decode cX12_degree 110 = .ok (.invokevirtual 380, 3) := by decide +kernel
theorem dX12_degree_113 : decode cX12_degree 113 = .ok (.aload_n 0, 1) := by decide +kernel
theorem dX12_degree_114 : decode cX12_degree 114 = .ok (.iload_n 1, 1) := by decide +kernel
theorem dX12_degree_115 : decode cX12_degree 115 = .ok (.iload_n 2, 1) := by decide +kernel
theorem dX12_degree_116 : decode cX12_degree 116 = .ok (.iload_n 3, 1) := by decide +kernel
theorem dX12_degree_117 : decode cX12_degree 117 = .ok (.iload 4, 2) := by decide +kernel
theorem dX12_degree_119 : decode cX12_degree 119 = .ok (.invokevirtual 383, 3) := by decide +kernel
theorem dX12_degree_122 : decode cX12_degree 122 = .ok (.istore 8, 2) := by decide +kernel
theorem dX12_degree_124 : decode cX12_degree 124 = .ok (.aload_n 0, 1) := by decide +kernel
theorem dX12_degree_125 : decode cX12_degree 125 = .ok (.getfield 51, 3) := by decide +kernel
theorem dX12_degree_128 : decode cX12_degree 128 = .ok (.bipush 21, 2) := by decide +kernel
theorem dX12_degree_130 : decode cX12_degree 130 = .ok (.iload_n 1, 1) := by decide +kernel
theorem dX12_degree_131 : decode cX12_degree 131 = .ok (.imul, 1) := by decide +kernel
theorem dX12_degree_132 : decode cX12_degree 132 = .ok (.iload 7, 2) := by decide +kernel
theorem dX12_degree_134 : decode cX12_degree 134 = .ok (.iadd, 1) := by decide +kernel
theorem dX12_degree_135 : decode cX12_degree 135 = .ok (.iconst (-1), 1) := by decide +kernel
theorem dX12_degree_136 : decode cX12_degree 136 = .ok (.iastore, 1) := by decide +kernel
theorem dX12_degree_137 : decode cX12_degree 137 = .ok (.iload 8, 2) := by decide +kernel
theorem dX12_degree_139 : decode cX12_degree 139 = .ok (.iload 6, 2) := by decide +kernel
theorem dX12_degree_141 : decode cX12_degree 141 = .ok (.if_icmp .le 11, 3) := by decide +kernel
theorem dX12_degree_144 : decode cX12_degree 144 = .ok (.iload 8, 2) := by decide +kernel
theorem dX12_degree_146 : decode cX12_degree 146 = .ok (.istore 6, 2) := by decide +kernel
theorem dX12_degree_148 : decode cX12_degree 148 = .ok (.iload 7, 2) := by decide +kernel
theorem dX12_degree_150 : decode cX12_degree 150 = .ok (.istore 5, 2) := by decide +kernel
theorem dX12_degree_152 : decode cX12_degree 152 = .ok (.iinc 7 1, 3) := by decide +kernel
theorem dX12_degree_155 : decode cX12_degree 155 = .ok (.goto (-71), 3) := by decide +kernel
theorem dX12_degree_158 : decode cX12_degree 158 = .ok (.iconst 0, 1) := by decide +kernel
theorem dX12_degree_159 : decode cX12_degree 159 = .ok (.istore 7, 2) := by decide +kernel
theorem dX12_degree_161 : decode cX12_degree 161 = .ok (.iload 7, 2) := by decide +kernel
theorem dX12_degree_163 : decode cX12_degree 163 = .ok (.bipush 21, 2) := by decide +kernel
theorem dX12_degree_165 : decode cX12_degree 165 = .ok (.if_icmp .ge 28, 3) := by decide +kernel
theorem dX12_degree_168 : decode cX12_degree 168 = .ok (.aload_n 0, 1) := by decide +kernel
theorem dX12_degree_169 : decode cX12_degree 169 = .ok (.getfield 51, 3) := by decide +kernel
theorem dX12_degree_172 : decode cX12_degree 172 = .ok (.bipush 21, 2) := by decide +kernel
theorem dX12_degree_174 : decode cX12_degree 174 = .ok (.iload_n 1, 1) := by decide +kernel
theorem dX12_degree_175 : decode cX12_degree 175 = .ok (.imul, 1) := by decide +kernel
theorem dX12_degree_176 : decode cX12_degree 176 = .ok (.iload 7, 2) := by decide +kernel
theorem dX12_degree_178 : decode cX12_degree 178 = .ok (.iadd, 1) := by decide +kernel
theorem dX12_degree_179 : decode cX12_degree 179 = .ok (.aload_n 0, 1) := by decide +kernel
theorem dX12_degree_180 : decode cX12_degree 180 = .ok (.getfield 124, 3) := by decide +kernel
theorem dX12_degree_183 : decode cX12_degree 183 = .ok (.iload 7, 2) := by decide +kernel
theorem dX12_degree_185 : decode cX12_degree 185 = .ok (.iaload, 1) := by decide +kernel
theorem dX12_degree_186 : decode cX12_degree 186 = .ok (.iastore, 1) := by decide +kernel
theorem dX12_degree_187 : decode cX12_degree 187 = .ok (.iinc 7 1, 3) := by decide +kernel
theorem dX12_degree_190 : decode cX12_degree 190 = .ok (.goto (-29), 3) := by decide +kernel
theorem dX12_degree_193 : decode cX12_degree 193 = .ok (.iload 5, 2) := by decide +kernel
theorem dX12_degree_195 : decode cX12_degree 195 = .ok (.ireturn, 1) := by decide +kernel
set_option maxHeartbeats 4000000 in
set_option maxRecDepth 100000 in
theorem s_X12_degree {P : PP} {a0 : Nat} {a1 : Int32} {a2 : Int32} {a3 : Int32} {a4 : Int32} (I : IM P a0) (hW : MW P a0) : CtrI yX12_degree cX12_degree 9 (some Jvm.ClassFile.FieldType.int) ({ frames := 5, cells := 0, slots := 0, locals := 320 } : Room) 0 0 P [.ref a0, .int a1, .int a2, .int a3, .int a4] (fun r P2 => IM P2 a0 ∧ EM [0, 12, 28, 29, 30, 31, 33, 34, 35, 36, 37, 38, 43, 44] a0 P P2 ∧ MW P2 a0 ∧ (-1 ≤ r.toInt ∧ r.toInt ≤ 20)) := by
  refine enI (lv := [(0, .ref a0), (1, .int a1), (2, .int a2), (3, .int a3), (4, .int a4)]) (by decide) (Nat.le_of_ble_eq_true rfl) rfl (fun E D cy C Ci0 ret => ?_)
  have ha0 := I.2.1
  have J161 : ∀ (n161 : Nat) (P161 : PP) (v161_5 : Int32) (v161_7 : Int32), (21 - v161_7.toInt).toNat < n161 → (IM P161 a0) → (EM [0, 12, 28, 29, 30, 31, 33, 34, 35, 36, 37, 38, 43, 44] a0 P P161) → (MW P161 a0) → (0 ≤ a1.toInt ∧ a1.toInt ≤ 1) → (-1 ≤ v161_5.toInt ∧ v161_5.toInt ≤ 20) → (0 ≤ v161_7.toInt ∧ v161_7.toInt ≤ 21) → (0 ≤ (pI P161 a0 0).toInt ∧ (pI P161 a0 0).toInt ≤ 0) → (∀ b, pR P161 a0 10 = some b → 1 ≤ (pI P161 b (a1.toInt.toNat)).toInt ∧ (pI P161 b (a1.toInt.toNat)).toInt ≤ 16) → G E ({ frames := 5, cells := 0, slots := 0, locals := 320 } : Room) D cy 9 P161 0 0 161 [(0, .ref a0), (1, .int a1), (5, .int v161_5), (7, .int v161_7)] [] := by
    intro n161
    induction n161 with
    | zero => intro P161 v161_5 v161_7 hm161 I161 X161 W161 hv161_1 hv161_5 hv161_7 hq161_0 hq161_1; omega
    | succ n161 ih161 =>
      intro P161 v161_5 v161_7 hm161 I161 X161 W161 hv161_1 hv161_5 hv161_7 hq161_0 hq161_1
      have h57755 := X161.at ha0
      obtain ⟨b57756, e57757, h57758⟩ := I161.fld (h57755) 10 13 2 rfl
      have hq161_1 := hq161_1 b57756 e57757
      refine g_iload C dX12_degree_161 3 rfl ?_
      refine g_bipush (v := 21) C dX12_degree_163 (by decide) ?_
      refine b_icmp_ge C 193 dX12_degree_165 (by decide) (fun h57759 => ?_) (fun h57759 => ?_)
      · have h57759 : 21 ≤ v161_7.toInt := h57759
        refine g_iload C dX12_degree_193 2 rfl ?_
        exact ret _ _ _ _ _ _ dX12_degree_195 rfl (by decide) (by decide) ⟨I161, X161, W161, (by omega)⟩
      · have h57759 : v161_7.toInt < 21 := h57759
        refine g_aload_n C dX12_degree_168 rfl 0 rfl ?_
        obtain ⟨b57760, e57761, h57762⟩ := I161.fld (h57755) 12 13 63 rfl
        refine g_getR C fi_X12_51 rfl e57761 (h57755).1 (h57755).2 dX12_degree_169 ?_
        refine g_bipush (v := 21) C dX12_degree_172 (by decide) ?_
        refine g_iload_n C dX12_degree_174 rfl 1 rfl ?_
        refine s_imul C dX12_degree_175 (by show -2147483648 ≤ 21 * a1.toInt ∧ 21 * a1.toInt ≤ 2147483647; omega) (fun z57763 h57764 => ?_)
        have h57764 : z57763.toInt = 21 * a1.toInt := h57764
        refine g_iload C dX12_degree_176 3 rfl ?_
        refine s_iadd C dX12_degree_178 (by show -2147483648 ≤ z57763.toInt + v161_7.toInt ∧ z57763.toInt + v161_7.toInt ≤ 2147483647; omega) (fun z57765 h57766 => ?_)
        have h57766 : z57765.toInt = z57763.toInt + v161_7.toInt := h57766
        refine g_aload_n C dX12_degree_179 rfl 0 rfl ?_
        obtain ⟨b57767, e57768, h57769⟩ := I161.fld (h57755) 44 13 21 rfl
        refine g_getR C fi_X12_124 rfl e57768 (h57755).1 (h57755).2 dX12_degree_180 ?_
        refine g_iload C dX12_degree_183 3 rfl ?_
        refine g_iald (j := (v161_7.toInt.toNat)) C h57769.1 h57769.2.1 (ix_in h57769.2.2 (by omega)) dX12_degree_185 ?_
        have h57770 := I161.arr e57768 rfl (v161_7.toInt.toNat)
        refine g_iast (j := (z57765.toInt.toNat)) C h57762.1 h57762.2.1 (ix_in h57762.2.2 (by omega)) dX12_degree_186 ?_
        refine gqW (ks := [12]) (I161.setA e57761 h57762 (by decide) (arOk.of rfl (by omega))) (EM.setA I161 e57761 rfl (by decide)) (fun Y57771 Iy57772 Xy57773 w57774  => ?_)
        have w57774 : (pI Y57771 b57760 (z57765.toInt.toNat)).toInt = (pI P161 b57767 (v161_7.toInt.toNat)).toInt := w57774
        have q57775 := Xy57773.keepF 0 (by decide)
        have q57776 := Xy57773.keepA e57757 (by decide) rfl (a1.toInt.toNat)
        have q57777 := Xy57773.keepA e57768 (by decide) rfl (v161_7.toInt.toNat)
        have W57778 := W161.keep I161 Xy57773 (by decide) (by decide) (by decide)
        have Xz57779 : EM [0, 12, 28, 29, 30, 31, 33, 34, 35, 36, 37, 38, 43, 44] a0 P Y57771 := EM.tr ha0 X161 (Xy57773.mono (by decide))
        have e57780 := Xy57773.ref h57755 (by decide) e57757
        have e57781 := Xy57773.ref h57755 (by decide) e57761
        have e57782 := Xy57773.ref h57755 (by decide) e57768
        have h57783 := Xy57773.at h57755
        have h57784 := Xy57773.ar h57758
        have h57785 := Xy57773.ar h57762
        have h57786 := Xy57773.ar h57769
        refine s_iinc (lv0 := [(0, .ref a0), (1, .int a1), (5, .int v161_5)]) (m := 1) C dX12_degree_187 3 rfl (by decide) rfl (by decide) (by omega) (fun z57787 h57788 => ?_)
        have h57788 : z57787.toInt = v161_7.toInt + 1 := h57788
        refine g_goto C 161 dX12_degree_190 (by decide) ?_
        refine g_lv (lv' := [(0, .ref a0), (1, .int a1), (5, .int v161_5), (7, .int z57787)]) [1, 2, 3, 0] rfl ?_
        exact ih161 Y57771 v161_5 z57787 (by omega) Iy57772 Xz57779 W57778 (by omega) (by omega) (by omega) (by omega) (fun b9 e9 => by rw [e57780] at e9; cases e9; omega)
  have J84 : ∀ (n84 : Nat) (P84 : PP) (v84_5 : Int32) (v84_6 : Int32) (v84_7 : Int32), (21 - v84_7.toInt).toNat < n84 → (IM P84 a0) → (EM [0, 12, 28, 29, 30, 31, 33, 34, 35, 36, 37, 38, 43, 44] a0 P P84) → (MW P84 a0) → (0 ≤ a1.toInt ∧ a1.toInt ≤ 1) → (1 ≤ a2.toInt ∧ a2.toInt ≤ 11) → (0 ≤ a3.toInt ∧ a3.toInt ≤ 11) → (0 ≤ a4.toInt ∧ a4.toInt ≤ 1) → (-1 ≤ v84_5.toInt ∧ v84_5.toInt ≤ 20) → (-1 ≤ v84_6.toInt) → (1 ≤ v84_7.toInt ∧ v84_7.toInt ≤ 21) → (0 ≤ (pI P84 a0 0).toInt ∧ (pI P84 a0 0).toInt ≤ 0) → (∀ b, pR P84 a0 10 = some b → 1 ≤ (pI P84 b (a1.toInt.toNat)).toInt ∧ (pI P84 b (a1.toInt.toNat)).toInt ≤ 16) → G E ({ frames := 5, cells := 0, slots := 0, locals := 320 } : Room) D cy 9 P84 0 0 84 [(0, .ref a0), (1, .int a1), (2, .int a2), (3, .int a3), (4, .int a4), (5, .int v84_5), (6, .int v84_6), (7, .int v84_7)] [] := by
    intro n84
    induction n84 with
    | zero => intro P84 v84_5 v84_6 v84_7 hm84 I84 X84 W84 hv84_1 hv84_2 hv84_3 hv84_4 hv84_5 hv84_6 hv84_7 hq84_0 hq84_1; omega
    | succ n84 ih84 =>
      intro P84 v84_5 v84_6 v84_7 hm84 I84 X84 W84 hv84_1 hv84_2 hv84_3 hv84_4 hv84_5 hv84_6 hv84_7 hq84_0 hq84_1
      have h57789 := X84.at ha0
      obtain ⟨b57790, e57791, h57792⟩ := I84.fld (h57789) 10 13 2 rfl
      have hq84_1 := hq84_1 b57790 e57791
      have J152 : ∀ (P152 : PP) (v152_5 : Int32) (v152_6 : Int32), (IM P152 a0) → (EM [0, 12, 28, 29, 30, 31, 33, 34, 35, 36, 37, 38, 43, 44] a0 P P152) → (MW P152 a0) → (0 ≤ a1.toInt ∧ a1.toInt ≤ 1) → (1 ≤ a2.toInt ∧ a2.toInt ≤ 11) → (0 ≤ a3.toInt ∧ a3.toInt ≤ 11) → (0 ≤ a4.toInt ∧ a4.toInt ≤ 1) → (-1 ≤ v152_5.toInt ∧ v152_5.toInt ≤ 20) → (-1 ≤ v152_6.toInt) → (1 ≤ v84_7.toInt ∧ v84_7.toInt ≤ 20) → (0 ≤ (pI P152 a0 0).toInt ∧ (pI P152 a0 0).toInt ≤ 0) → (∀ b, pR P152 a0 10 = some b → 1 ≤ (pI P152 b (a1.toInt.toNat)).toInt ∧ (pI P152 b (a1.toInt.toNat)).toInt ≤ 16) → G E ({ frames := 5, cells := 0, slots := 0, locals := 320 } : Room) D cy 9 P152 0 0 152 [(0, .ref a0), (1, .int a1), (2, .int a2), (3, .int a3), (4, .int a4), (5, .int v152_5), (6, .int v152_6), (7, .int v84_7)] [] := by
        intro P152 v152_5 v152_6 I152 X152 W152 hv152_1 hv152_2 hv152_3 hv152_4 hv152_5 hv152_6 hv152_7 hq152_0 hq152_1
        have h57793 := X152.at ha0
        obtain ⟨b57794, e57795, h57796⟩ := I152.fld (h57793) 10 13 2 rfl
        have hq152_1 := hq152_1 b57794 e57795
        refine s_iinc (lv0 := [(0, .ref a0), (1, .int a1), (2, .int a2), (3, .int a3), (4, .int a4), (5, .int v152_5), (6, .int v152_6)]) (m := 1) C dX12_degree_152 7 rfl (by decide) rfl (by decide) (by omega) (fun z57797 h57798 => ?_)
        have h57798 : z57797.toInt = v84_7.toInt + 1 := h57798
        refine g_goto C 84 dX12_degree_155 (by decide) ?_
        refine g_lv (lv' := [(0, .ref a0), (1, .int a1), (2, .int a2), (3, .int a3), (4, .int a4), (5, .int v152_5), (6, .int v152_6), (7, .int z57797)]) [1, 2, 3, 4, 5, 6, 7, 0] rfl ?_
        exact ih84 P152 v152_5 v152_6 z57797 (by omega) I152 X152 W152 (by omega) (by omega) (by omega) (by omega) (by omega) (by omega) (by omega) (by omega) (fun b9 e9 => by rw [e57795] at e9; cases e9; omega)
      refine g_iload C dX12_degree_84 7 rfl ?_
      refine g_aload_n C dX12_degree_86 rfl 0 rfl ?_
      refine g_iload_n C dX12_degree_87 rfl 1 rfl ?_
      refine g_callVI (rest := [.int v84_7]) C mv_X12_238 [.int a1] (s_X12_allOf I84 (by omega) W84) (h57789).1 (h57789).2 rfl rfl (by decide) (Nat.le_of_ble_eq_true rfl) (by decide) dX12_degree_88 (fun r57799 Y57800 h57801 => ?_)
      obtain ⟨rfl, h57801⟩ := h57801
      obtain ⟨h57801, hi57802⟩ := h57801
      obtain ⟨b57803, e57804, h57805⟩ := I84.fld (h57789) 15 13 3 rfl
      have hi57802 : (r57799.toInt = 0 ∧ (pI P84 b57790 (a1.toInt.toNat)).toInt = 0) ∨ r57799.toInt = (pI P84 b57790 (a1.toInt.toNat)).toInt + (pI P84 b57803 (a1.toInt.toNat)).toInt := hi57802 b57790 b57803 e57791 e57804
      have h57806 := I84.arr e57804 rfl (a1.toInt.toNat)
      have h57801 : 0 ≤ r57799.toInt ∧ r57799.toInt ≤ 20 := h57801
      refine b_icmp_gt C 158 dX12_degree_91 (by decide) (fun h57807 => ?_) (fun h57807 => ?_)
      · have h57807 : r57799.toInt < v84_7.toInt := h57807
        refine g_iconst (v := 0) C dX12_degree_158 (by decide) ?_
        refine g_istore (lv' := [(7, .int 0), (0, .ref a0), (1, .int a1), (2, .int a2), (3, .int a3), (4, .int a4), (5, .int v84_5), (6, .int v84_6)]) C dX12_degree_159 (by decide) rfl ?_
        refine g_lv (lv' := [(0, .ref a0), (1, .int a1), (5, .int v84_5), (7, .int 0)]) [1, 2, 6, 0] rfl ?_
        exact J161 _ P84 v84_5 0 (Nat.lt_succ_self _) I84 X84 W84 (by omega) (by omega) (by decide) (by omega) (fun b9 e9 => by rw [e57791] at e9; cases e9; omega)
      · have h57807 : v84_7.toInt ≤ r57799.toInt := h57807
        refine g_aload_n C dX12_degree_94 rfl 0 rfl ?_
        obtain ⟨b57808, e57809, h57810⟩ := I84.fld (h57789) 12 13 63 rfl
        refine g_getR C fi_X12_51 rfl e57809 (h57789).1 (h57789).2 dX12_degree_95 ?_
        refine g_bipush (v := 21) C dX12_degree_98 (by decide) ?_
        refine g_iload_n C dX12_degree_100 rfl 1 rfl ?_
        refine s_imul C dX12_degree_101 (by show -2147483648 ≤ 21 * a1.toInt ∧ 21 * a1.toInt ≤ 2147483647; omega) (fun z57811 h57812 => ?_)
        have h57812 : z57811.toInt = 21 * a1.toInt := h57812
        refine g_iload C dX12_degree_102 7 rfl ?_
        refine s_iadd C dX12_degree_104 (by show -2147483648 ≤ z57811.toInt + v84_7.toInt ∧ z57811.toInt + v84_7.toInt ≤ 2147483647; omega) (fun z57813 h57814 => ?_)
        have h57814 : z57813.toInt = z57811.toInt + v84_7.toInt := h57814
        refine g_iconst (v := 1) C dX12_degree_105 (by decide) ?_
        refine g_iast (j := (z57813.toInt.toNat)) C h57810.1 h57810.2.1 (ix_in h57810.2.2 (by omega)) dX12_degree_106 ?_
        refine gqW (ks := [12]) (I84.setA e57809 h57810 (by decide) (arOk.of rfl (by decide))) (EM.setA I84 e57809 rfl (by decide)) (fun Y57815 Iy57816 Xy57817 w57818  => ?_)
        have w57818 : (pI Y57815 b57808 (z57813.toInt.toNat)).toInt = 1 := w57818
        have q57819 := Xy57817.keepF 0 (by decide)
        have q57820 := Xy57817.keepA e57791 (by decide) rfl (a1.toInt.toNat)
        have q57821 := Xy57817.keepA e57804 (by decide) rfl (a1.toInt.toNat)
        have W57822 := W84.keep I84 Xy57817 (by decide) (by decide) (by decide)
        have Xz57823 : EM [0, 12, 28, 29, 30, 31, 33, 34, 35, 36, 37, 38, 43, 44] a0 P Y57815 := EM.tr ha0 X84 (Xy57817.mono (by decide))
        have e57824 := Xy57817.ref h57789 (by decide) e57791
        have e57825 := Xy57817.ref h57789 (by decide) e57804
        have e57826 := Xy57817.ref h57789 (by decide) e57809
        have h57827 := Xy57817.at h57789
        have h57828 := Xy57817.ar h57792
        have h57829 := Xy57817.ar h57805
        have h57830 := Xy57817.ar h57810
        refine g_aload_n C dX12_degree_107 rfl 0 rfl ?_
        refine g_iload_n C dX12_degree_108 rfl 1 rfl ?_
        refine g_iload_n C dX12_degree_109 rfl 2 rfl ?_
        refine g_callVV (rest := []) C mv_X12_380 [.int a1, .int a2] (s_X12_keepsSets Iy57816 (by omega) (by omega) (fun b9 e9 => by rw [e57824] at e9; cases e9; show 1 ≤ (pI Y57815 b57790 (a1.toInt.toNat)).toInt ∧ (pI Y57815 b57790 (a1.toInt.toNat)).toInt ≤ 16; omega) W57822) (h57827).1 (h57827).2 rfl rfl (by decide) (Nat.le_of_ble_eq_true rfl) (by decide) dX12_degree_110 (fun Y57832 h57833 => ?_)
        obtain ⟨Iy57834, Xy57835, W57836⟩ := h57833
        have q57837 := Xy57835.keepF 0 (by decide)
        have q57838 := Xy57835.keepA e57824 (by decide) rfl (a1.toInt.toNat)
        have q57839 := Xy57835.keepA e57825 (by decide) rfl (a1.toInt.toNat)
        have q57840 := Xy57835.keepA e57826 (by decide) rfl (z57813.toInt.toNat)
        have Xz57841 : EM [0, 12, 28, 29, 30, 31, 33, 34, 35, 36, 37, 38, 43, 44] a0 P Y57832 := EM.tr ha0 Xz57823 (Xy57835.mono (by decide))
        have e57842 := Xy57835.ref h57827 (by decide) e57824
        have e57843 := Xy57835.ref h57827 (by decide) e57825
        have e57844 := Xy57835.ref h57827 (by decide) e57826
        have h57845 := Xy57835.at h57827
        have h57846 := Xy57835.ar h57828
        have h57847 := Xy57835.ar h57829
        have h57848 := Xy57835.ar h57830
        refine g_aload_n C dX12_degree_113 rfl 0 rfl ?_
        refine g_iload_n C dX12_degree_114 rfl 1 rfl ?_
        refine g_iload_n C dX12_degree_115 rfl 2 rfl ?_
        refine g_iload_n C dX12_degree_116 rfl 3 rfl ?_
        refine g_iload C dX12_degree_117 4 rfl ?_
        refine g_callVI (rest := []) C mv_X12_383 [.int a1, .int a2, .int a3, .int a4] (s_X12_chancesOf Iy57834 (by omega) (by omega) (fun b9 e9 => by rw [e57842] at e9; cases e9; show 1 ≤ (pI Y57832 b57790 (a1.toInt.toNat)).toInt ∧ (pI Y57832 b57790 (a1.toInt.toNat)).toInt ≤ 16; omega) W57836) (h57845).1 (h57845).2 rfl rfl (by decide) (Nat.le_of_ble_eq_true rfl) (by decide) dX12_degree_119 (fun r57849 Y57850 h57851 => ?_)
        obtain ⟨Iy57852, Xy57853, W57854, h57851⟩ := h57851
        have q57855 := Xy57853.keepF 0 (by decide)
        have q57856 := Xy57853.keepA e57842 (by decide) rfl (a1.toInt.toNat)
        have q57857 := Xy57853.keepA e57843 (by decide) rfl (a1.toInt.toNat)
        have q57858 := Xy57853.keepA e57844 (by decide) rfl (z57813.toInt.toNat)
        have Xz57859 : EM [0, 12, 28, 29, 30, 31, 33, 34, 35, 36, 37, 38, 43, 44] a0 P Y57850 := EM.tr ha0 Xz57841 (Xy57853.mono (by decide))
        have e57860 := Xy57853.ref h57845 (by decide) e57842
        have e57861 := Xy57853.ref h57845 (by decide) e57843
        have e57862 := Xy57853.ref h57845 (by decide) e57844
        have h57863 := Xy57853.at h57845
        have h57864 := Xy57853.ar h57846
        have h57865 := Xy57853.ar h57847
        have h57866 := Xy57853.ar h57848
        have h57851 : True := h57851
        refine g_istore (lv' := [(8, .int r57849), (0, .ref a0), (1, .int a1), (2, .int a2), (3, .int a3), (4, .int a4), (5, .int v84_5), (6, .int v84_6), (7, .int v84_7)]) C dX12_degree_122 (by decide) rfl ?_
        refine g_aload_n C dX12_degree_124 rfl 1 rfl ?_
        refine g_getR C fi_X12_51 rfl e57862 (h57863).1 (h57863).2 dX12_degree_125 ?_
        refine g_bipush (v := 21) C dX12_degree_128 (by decide) ?_
        refine g_iload_n C dX12_degree_130 rfl 2 rfl ?_
        refine s_imul C dX12_degree_131 (by show -2147483648 ≤ 21 * a1.toInt ∧ 21 * a1.toInt ≤ 2147483647; omega) (fun z57867 h57868 => ?_)
        have h57868 : z57867.toInt = 21 * a1.toInt := h57868
        refine g_iload C dX12_degree_132 8 rfl ?_
        refine s_iadd C dX12_degree_134 (by show -2147483648 ≤ z57867.toInt + v84_7.toInt ∧ z57867.toInt + v84_7.toInt ≤ 2147483647; omega) (fun z57869 h57870 => ?_)
        have h57870 : z57869.toInt = z57867.toInt + v84_7.toInt := h57870
        refine g_iconst (v := (-1)) C dX12_degree_135 (by decide) ?_
        refine g_iast (j := (z57869.toInt.toNat)) C h57866.1 h57866.2.1 (ix_in h57866.2.2 (by omega)) dX12_degree_136 ?_
        refine gqW (ks := [12]) (Iy57852.setA e57862 h57866 (by decide) (arOk.of rfl (by decide))) (EM.setA Iy57852 e57862 rfl (by decide)) (fun Y57871 Iy57872 Xy57873 w57874  => ?_)
        have w57874 : (pI Y57871 b57808 (z57869.toInt.toNat)).toInt = (-1) := w57874
        have q57875 := Xy57873.keepF 0 (by decide)
        have q57876 := Xy57873.keepA e57860 (by decide) rfl (a1.toInt.toNat)
        have q57877 := Xy57873.keepA e57861 (by decide) rfl (a1.toInt.toNat)
        have W57878 := W57854.keep Iy57852 Xy57873 (by decide) (by decide) (by decide)
        have Xz57879 : EM [0, 12, 28, 29, 30, 31, 33, 34, 35, 36, 37, 38, 43, 44] a0 P Y57871 := EM.tr ha0 Xz57859 (Xy57873.mono (by decide))
        have e57880 := Xy57873.ref h57863 (by decide) e57860
        have e57881 := Xy57873.ref h57863 (by decide) e57861
        have e57882 := Xy57873.ref h57863 (by decide) e57862
        have h57883 := Xy57873.at h57863
        have h57884 := Xy57873.ar h57864
        have h57885 := Xy57873.ar h57865
        have h57886 := Xy57873.ar h57866
        refine g_iload C dX12_degree_137 0 rfl ?_
        refine g_iload C dX12_degree_139 7 rfl ?_
        have u57888 := ti_rng r57849
        have u57889 := ti_rng v84_6
        refine b_icmp_le C 152 dX12_degree_141 (by decide) (fun h57887 => ?_) (fun h57887 => ?_)
        · have h57887 : r57849.toInt ≤ v84_6.toInt := h57887
          refine g_lv (lv' := [(0, .ref a0), (1, .int a1), (2, .int a2), (3, .int a3), (4, .int a4), (5, .int v84_5), (6, .int v84_6), (7, .int v84_7)]) [1, 2, 3, 4, 5, 6, 7, 8] rfl ?_
          exact J152 Y57871 v84_5 v84_6 Iy57872 Xz57879 W57878 (by omega) (by omega) (by omega) (by omega) (by omega) (by omega) (by omega) (by omega) (fun b9 e9 => by rw [e57880] at e9; cases e9; omega)
        · have h57887 : v84_6.toInt < r57849.toInt := h57887
          refine g_iload C dX12_degree_144 0 rfl ?_
          refine g_istore (lv' := [(6, .int r57849), (8, .int r57849), (0, .ref a0), (1, .int a1), (2, .int a2), (3, .int a3), (4, .int a4), (5, .int v84_5), (7, .int v84_7)]) C dX12_degree_146 (by decide) rfl ?_
          refine g_iload C dX12_degree_148 8 rfl ?_
          refine g_istore (lv' := [(5, .int v84_7), (6, .int r57849), (8, .int r57849), (0, .ref a0), (1, .int a1), (2, .int a2), (3, .int a3), (4, .int a4), (7, .int v84_7)]) C dX12_degree_150 (by decide) rfl ?_
          refine g_lv (lv' := [(0, .ref a0), (1, .int a1), (2, .int a2), (3, .int a3), (4, .int a4), (5, .int v84_7), (6, .int r57849), (7, .int v84_7)]) [3, 4, 5, 6, 7, 0, 1, 8] rfl ?_
          exact J152 Y57871 v84_7 r57849 Iy57872 Xz57879 W57878 (by omega) (by omega) (by omega) (by omega) (by omega) (by omega) (by omega) (by omega) (fun b9 e9 => by rw [e57880] at e9; cases e9; omega)
  have J30 : ∀ (n30 : Nat) (P30 : PP) (v30_5 : Int32), (21 - v30_5.toInt).toNat < n30 → (IM P30 a0) → (EM [0, 12, 28, 29, 30, 31, 33, 34, 35, 36, 37, 38, 43, 44] a0 P P30) → (MW P30 a0) → (0 ≤ a1.toInt ∧ a1.toInt ≤ 1) → (1 ≤ a2.toInt ∧ a2.toInt ≤ 11) → (0 ≤ a3.toInt ∧ a3.toInt ≤ 11) → (0 ≤ a4.toInt ∧ a4.toInt ≤ 1) → (0 ≤ v30_5.toInt ∧ v30_5.toInt ≤ 21) → (0 ≤ (pI P30 a0 0).toInt ∧ (pI P30 a0 0).toInt ≤ 0) → (∀ b, pR P30 a0 10 = some b → 1 ≤ (pI P30 b (a1.toInt.toNat)).toInt ∧ (pI P30 b (a1.toInt.toNat)).toInt ≤ 16) → G E ({ frames := 5, cells := 0, slots := 0, locals := 320 } : Room) D cy 9 P30 0 0 30 [(0, .ref a0), (1, .int a1), (2, .int a2), (3, .int a3), (4, .int a4), (5, .int v30_5)] [] := by
    intro n30
    induction n30 with
    | zero => intro P30 v30_5 hm30 I30 X30 W30 hv30_1 hv30_2 hv30_3 hv30_4 hv30_5 hq30_0 hq30_1; omega
    | succ n30 ih30 =>
      intro P30 v30_5 hm30 I30 X30 W30 hv30_1 hv30_2 hv30_3 hv30_4 hv30_5 hq30_0 hq30_1
      have h57890 := X30.at ha0
      obtain ⟨b57891, e57892, h57893⟩ := I30.fld (h57890) 10 13 2 rfl
      have hq30_1 := hq30_1 b57891 e57892
      refine g_iload C dX12_degree_30 5 rfl ?_
      refine g_bipush (v := 21) C dX12_degree_32 (by decide) ?_
      refine b_icmp_ge C 75 dX12_degree_34 (by decide) (fun h57894 => ?_) (fun h57894 => ?_)
      · have h57894 : 21 ≤ v30_5.toInt := h57894
        refine g_iconst (v := (-1)) C dX12_degree_75 (by decide) ?_
        refine g_istore (lv' := [(5, .int (-1)), (0, .ref a0), (1, .int a1), (2, .int a2), (3, .int a3), (4, .int a4)]) C dX12_degree_76 (by decide) rfl ?_
        refine g_iconst (v := (-1)) C dX12_degree_78 (by decide) ?_
        refine g_istore (lv' := [(6, .int (-1)), (5, .int (-1)), (0, .ref a0), (1, .int a1), (2, .int a2), (3, .int a3), (4, .int a4)]) C dX12_degree_79 (by decide) rfl ?_
        refine g_iconst (v := 1) C dX12_degree_81 (by decide) ?_
        refine g_istore (lv' := [(7, .int 1), (6, .int (-1)), (5, .int (-1)), (0, .ref a0), (1, .int a1), (2, .int a2), (3, .int a3), (4, .int a4)]) C dX12_degree_82 (by decide) rfl ?_
        refine g_lv (lv' := [(0, .ref a0), (1, .int a1), (2, .int a2), (3, .int a3), (4, .int a4), (5, .int (-1)), (6, .int (-1)), (7, .int 1)]) [3, 4, 5, 6, 7, 2, 1, 0] rfl ?_
        exact J84 _ P30 (-1) (-1) 1 (Nat.lt_succ_self _) I30 X30 W30 (by omega) (by omega) (by omega) (by omega) (by decide) (by decide) (by decide) (by omega) (fun b9 e9 => by rw [e57892] at e9; cases e9; omega)
      · have h57894 : v30_5.toInt < 21 := h57894
        refine g_aload_n C dX12_degree_37 rfl 0 rfl ?_
        obtain ⟨b57895, e57896, h57897⟩ := I30.fld (h57890) 44 13 21 rfl
        refine g_getR C fi_X12_124 rfl e57896 (h57890).1 (h57890).2 dX12_degree_38 ?_
        refine g_iload C dX12_degree_41 5 rfl ?_
        refine g_aload_n C dX12_degree_43 rfl 0 rfl ?_
        obtain ⟨b57898, e57899, h57900⟩ := I30.fld (h57890) 12 13 63 rfl
        refine g_getR C fi_X12_51 rfl e57899 (h57890).1 (h57890).2 dX12_degree_44 ?_
        refine g_bipush (v := 21) C dX12_degree_47 (by decide) ?_
        refine g_iload_n C dX12_degree_49 rfl 1 rfl ?_
        refine s_imul C dX12_degree_50 (by show -2147483648 ≤ 21 * a1.toInt ∧ 21 * a1.toInt ≤ 2147483647; omega) (fun z57901 h57902 => ?_)
        have h57902 : z57901.toInt = 21 * a1.toInt := h57902
        refine g_iload C dX12_degree_51 5 rfl ?_
        refine s_iadd C dX12_degree_53 (by show -2147483648 ≤ z57901.toInt + v30_5.toInt ∧ z57901.toInt + v30_5.toInt ≤ 2147483647; omega) (fun z57903 h57904 => ?_)
        have h57904 : z57903.toInt = z57901.toInt + v30_5.toInt := h57904
        refine g_iald (j := (z57903.toInt.toNat)) C h57900.1 h57900.2.1 (ix_in h57900.2.2 (by omega)) dX12_degree_54 ?_
        have h57905 := I30.arr e57899 rfl (z57903.toInt.toNat)
        refine g_iast (j := (v30_5.toInt.toNat)) C h57897.1 h57897.2.1 (ix_in h57897.2.2 (by omega)) dX12_degree_55 ?_
        refine gqW (ks := [44]) (I30.setA e57896 h57897 (by decide) (arOk.of rfl (by omega))) (EM.setA I30 e57896 rfl (by decide)) (fun Y57906 Iy57907 Xy57908 w57909  => ?_)
        have w57909 : (pI Y57906 b57895 (v30_5.toInt.toNat)).toInt = (pI P30 b57898 (z57903.toInt.toNat)).toInt := w57909
        have q57910 := Xy57908.keepF 0 (by decide)
        have q57911 := Xy57908.keepA e57892 (by decide) rfl (a1.toInt.toNat)
        have q57912 := Xy57908.keepA e57899 (by decide) rfl (z57903.toInt.toNat)
        have W57913 := W30.keep I30 Xy57908 (by decide) (by decide) (by decide)
        have Xz57914 : EM [0, 12, 28, 29, 30, 31, 33, 34, 35, 36, 37, 38, 43, 44] a0 P Y57906 := EM.tr ha0 X30 (Xy57908.mono (by decide))
        have e57915 := Xy57908.ref h57890 (by decide) e57892
        have e57916 := Xy57908.ref h57890 (by decide) e57896
        have e57917 := Xy57908.ref h57890 (by decide) e57899
        have h57918 := Xy57908.at h57890
        have h57919 := Xy57908.ar h57893
        have h57920 := Xy57908.ar h57897
        have h57921 := Xy57908.ar h57900
        refine g_aload_n C dX12_degree_56 rfl 0 rfl ?_
        refine g_getR C fi_X12_51 rfl e57917 (h57918).1 (h57918).2 dX12_degree_57 ?_
        refine g_bipush (v := 21) C dX12_degree_60 (by decide) ?_
        refine g_iload_n C dX12_degree_62 rfl 1 rfl ?_
        refine s_imul C dX12_degree_63 (by show -2147483648 ≤ 21 * a1.toInt ∧ 21 * a1.toInt ≤ 2147483647; omega) (fun z57922 h57923 => ?_)
        have h57923 : z57922.toInt = 21 * a1.toInt := h57923
        refine g_iload C dX12_degree_64 5 rfl ?_
        refine s_iadd C dX12_degree_66 (by show -2147483648 ≤ z57922.toInt + v30_5.toInt ∧ z57922.toInt + v30_5.toInt ≤ 2147483647; omega) (fun z57924 h57925 => ?_)
        have h57925 : z57924.toInt = z57922.toInt + v30_5.toInt := h57925
        refine g_iconst (v := (-1)) C dX12_degree_67 (by decide) ?_
        refine g_iast (j := (z57924.toInt.toNat)) C h57921.1 h57921.2.1 (ix_in h57921.2.2 (by omega)) dX12_degree_68 ?_
        refine gqW (ks := [12]) (Iy57907.setA e57917 h57921 (by decide) (arOk.of rfl (by decide))) (EM.setA Iy57907 e57917 rfl (by decide)) (fun Y57926 Iy57927 Xy57928 w57929  => ?_)
        have w57929 : (pI Y57926 b57898 (z57924.toInt.toNat)).toInt = (-1) := w57929
        have q57930 := Xy57928.keepF 0 (by decide)
        have q57931 := Xy57928.keepA e57915 (by decide) rfl (a1.toInt.toNat)
        have q57932 := Xy57928.keepA e57916 (by decide) rfl (v30_5.toInt.toNat)
        have W57933 := W57913.keep Iy57907 Xy57928 (by decide) (by decide) (by decide)
        have Xz57934 : EM [0, 12, 28, 29, 30, 31, 33, 34, 35, 36, 37, 38, 43, 44] a0 P Y57926 := EM.tr ha0 Xz57914 (Xy57928.mono (by decide))
        have e57935 := Xy57928.ref h57918 (by decide) e57915
        have e57936 := Xy57928.ref h57918 (by decide) e57916
        have e57937 := Xy57928.ref h57918 (by decide) e57917
        have h57938 := Xy57928.at h57918
        have h57939 := Xy57928.ar h57919
        have h57940 := Xy57928.ar h57920
        have h57941 := Xy57928.ar h57921
        refine s_iinc (lv0 := [(0, .ref a0), (1, .int a1), (2, .int a2), (3, .int a3), (4, .int a4)]) (m := 1) C dX12_degree_69 5 rfl (by decide) rfl (by decide) (by omega) (fun z57942 h57943 => ?_)
        have h57943 : z57942.toInt = v30_5.toInt + 1 := h57943
        refine g_goto C 30 dX12_degree_72 (by decide) ?_
        refine g_lv (lv' := [(0, .ref a0), (1, .int a1), (2, .int a2), (3, .int a3), (4, .int a4), (5, .int z57942)]) [1, 2, 3, 4, 5, 0] rfl ?_
        exact ih30 Y57926 z57942 (by omega) Iy57927 Xz57934 W57933 (by omega) (by omega) (by omega) (by omega) (by omega) (by omega) (fun b9 e9 => by rw [e57935] at e9; cases e9; omega)
  have J25 : ∀ (P25 : PP), (IM P25 a0) → (EM [0, 12, 28, 29, 30, 31, 33, 34, 35, 36, 37, 38, 43, 44] a0 P P25) → (MW P25 a0) → (0 ≤ (pI P25 a0 0).toInt ∧ (pI P25 a0 0).toInt ≤ 0) → G E ({ frames := 5, cells := 0, slots := 0, locals := 320 } : Room) D cy 9 P25 0 0 25 [] [] := by
    intro P25 I25 X25 W25 hq25_0
    have h57944 := X25.at ha0
    refine g_iconst (v := (-1)) C dX12_degree_25 (by decide) ?_
    exact ret _ _ _ _ _ _ dX12_degree_26 rfl (by decide) (by decide) ⟨I25, X25, W25, (by decide)⟩
  refine g_aload_n C dX12_degree_0 rfl 0 rfl ?_
  refine g_iconst (v := 0) C dX12_degree_1 (by decide) ?_
  refine g_putI C fi_X12_1 rfl (ha0).1 (ha0).2 dX12_degree_2 ?_
  refine gqW (ks := [0]) (I.setI (rgOk.of rfl (by decide))) (EM.setI I (by decide)) (fun Y57945 Iy57946 Xy57947 w57948  => ?_)
  have w57948 : (pI Y57945 a0 0).toInt = 0 := w57948
  have W57949 := hW.keep I Xy57947 (by decide) (by decide) (by decide)
  have Xz57950 : EM [0, 12, 28, 29, 30, 31, 33, 34, 35, 36, 37, 38, 43, 44] a0 P Y57945 := Xy57947.mono (by decide)
  have h57951 := Xy57947.at ha0
  refine g_aload_n C dX12_degree_5 rfl 0 rfl ?_
  refine g_iload_n C dX12_degree_6 rfl 1 rfl ?_
  refine g_iload_n C dX12_degree_7 rfl 2 rfl ?_
  refine g_iload C dX12_degree_8 4 rfl ?_
  refine g_callVI (rest := []) C mv_X12_377 [.int a1, .int a2, .int a4] (s_X12_areChances Iy57946 W57949) (h57951).1 (h57951).2 rfl rfl (by decide) (Nat.le_of_ble_eq_true rfl) (by decide) dX12_degree_10 (fun r57952 Y57953 h57954 => ?_)
  obtain ⟨rfl, h57954⟩ := h57954
  obtain ⟨h57954, hi57955, hi57956⟩ := h57954
  have hi57955 : r57952.toInt = 0 ∨ (((0 : Int) ≤ a1.toInt ∧ a1.toInt ≤ (1 : Int)) ∧ ((1 : Int) ≤ a2.toInt ∧ a2.toInt ≤ (11 : Int)) ∧ ((0 : Int) ≤ a4.toInt ∧ a4.toInt ≤ (1 : Int))) := hi57955
  have h57954 : 0 ≤ r57952.toInt ∧ r57952.toInt ≤ 1 := h57954
  refine b_if_eq C 25 dX12_degree_13 (by decide) (fun h57957 => ?_) (fun h57957 => ?_)
  · have h57957 : r57952.toInt = 0 := congrArg Int32.toInt h57957
    clear hi57955
    refine g_lv (lv' := []) [] rfl ?_
    exact J25 Y57945 Iy57946 Xz57950 W57949 (by omega)
  · have h57957 : r57952.toInt ≠ 0 := ti_ne h57957
    replace hi57955 := hi57955.resolve_left (by omega)
    obtain ⟨b57958, e57959, h57960⟩ := Iy57946.fld (h57951) 10 13 2 rfl
    have hi57956 := (hi57956.resolve_left (by omega)) b57958 e57959
    have hi57956 : 0 < (pI Y57945 b57958 (a1.toInt.toNat)).toInt := hi57956
    have h57961 := Iy57946.arr e57959 rfl (a1.toInt.toNat)
    refine g_iload_n C dX12_degree_16 rfl 3 rfl ?_
    refine g_iconst (v := 0) C dX12_degree_17 (by decide) ?_
    refine g_iload_n C dX12_degree_18 rfl 2 rfl ?_
    refine g_callSI (b := 0) (ci := 0) (rest := []) C ms_X12_178 [.int a3, .int 0, .int a2] (s_X12_within Iy57946.1) rfl rfl (by decide) (Nat.le_of_ble_eq_true rfl) (by decide) dX12_degree_19 (fun r57962 Y57963 h57964 => ?_)
    obtain ⟨rfl, h57964⟩ := h57964
    obtain ⟨h57964, hi57965⟩ := h57964
    have hi57965 : r57962.toInt = 0 ∨ (0 ≤ a3.toInt ∧ a3.toInt ≤ a2.toInt) := hi57965
    have h57964 : 0 ≤ r57962.toInt ∧ r57962.toInt ≤ 1 := h57964
    refine b_if_ne C 27 dX12_degree_22 (by decide) (fun h57966 => ?_) (fun h57966 => ?_)
    · have h57966 : r57962.toInt ≠ 0 := ti_ne h57966
      replace hi57965 := hi57965.resolve_left (by omega)
      refine g_iconst (v := 0) C dX12_degree_27 (by decide) ?_
      refine g_istore (lv' := [(5, .int 0), (0, .ref a0), (1, .int a1), (2, .int a2), (3, .int a3), (4, .int a4)]) C dX12_degree_28 (by decide) rfl ?_
      refine g_lv (lv' := [(0, .ref a0), (1, .int a1), (2, .int a2), (3, .int a3), (4, .int a4), (5, .int 0)]) [1, 2, 3, 4, 5, 0] rfl ?_
      exact J30 _ Y57945 0 (Nat.lt_succ_self _) Iy57946 Xz57950 W57949 (by omega) (by omega) (by omega) (by omega) (by decide) (by omega) (fun b9 e9 => by rw [e57959] at e9; cases e9; omega)
    · have h57966 : r57962.toInt = 0 := congrArg Int32.toInt h57966
      clear hi57965
      refine g_lv (lv' := []) [] rfl ?_
      exact J25 Y57945 Iy57946 Xz57950 W57949 (by omega)
theorem dX12_doubles_0 : decode cX12_doubles 0 = .ok (.aload_n 0, 1) := by decide +kernel
theorem dX12_doubles_1 : decode cX12_doubles 1 = .ok (.iconst 0, 1) := by decide +kernel
theorem dX12_doubles_2 : decode cX12_doubles 2 = .ok (.putfield 1, 3) := by decide +kernel
theorem dX12_doubles_5 : decode cX12_doubles 5 = .ok (.aload_n 0, 1) := by decide +kernel
theorem dX12_doubles_6 : decode cX12_doubles 6 = .ok (.iload_n 1, 1) := by decide +kernel
theorem dX12_doubles_7 : decode cX12_doubles 7 = .ok (.iload_n 2, 1) := by decide +kernel
theorem dX12_doubles_8 : decode cX12_doubles 8 = .ok (.iload_n 3, 1) := by decide +kernel
theorem dX12_doubles_9 : decode cX12_doubles 9 = .ok (.invokevirtual 333, 3) := by decide +kernel
theorem dX12_isAsked_0 : decode cX12_isAsked 0 = .ok (.iload_n 1, 1) := by decide +kernel
theorem dX12_isAsked_1 : decode cX12_isAsked 1 = .ok (.invokestatic 278, 3) := by decide +kernel
theorem dX12_isAsked_4 : decode cX12_isAsked 4 = .ok (.ifCond .eq 24, 3) := by decide +kernel
theorem dX12_isAsked_7 : decode cX12_isAsked 7 = .ok (.aload_n 0, 1) := by decide +kernel
theorem dX12_isAsked_8 : decode cX12_isAsked 8 = .ok (.iload_n 2, 1) := by decide +kernel
theorem dX12_isAsked_9 : decode cX12_isAsked 9 = .ok (.invokevirtual 192, 3) := by decide +kernel
theorem dX12_isAsked_12 : decode cX12_isAsked 12 = .ok (.ifCond .eq 16, 3) := by decide +kernel
theorem dX12_isAsked_15 : decode cX12_isAsked 15 = .ok (.iload_n 3, 1) := by decide +kernel
theorem dX12_isAsked_16 : decode cX12_isAsked 16 = .ok (.iconst 0, 1) := by decide +kernel
theorem dX12_isAsked_17 : decode cX12_isAsked 17 = .ok (.iconst 1, 1) := by decide +kernel
theorem dX12_isAsked_18 : decode cX12_isAsked 18 = .ok (.invokestatic 178, 3) := by decide +kernel
theorem dX12_isAsked_21 : decode cX12_isAsked 21 = .ok (.ifCond .eq 7, 3) := by decide +kernel
theorem dX12_isAsked_24 : decode cX12_isAsked 24 = .ok (.iconst 1, 1) := by decide +kernel
theorem dX12_isAsked_25 : decode cX12_isAsked 25 = .ok (.goto 4, 3) := by decide +kernel
theorem dX12_isAsked_28 : decode cX12_isAsked 28 = .ok (.iconst 0, 1) := by decide +kernel
theorem dX12_isAsked_29 : decode cX12_isAsked 29 = .ok (.ireturn, 1) := by decide +kernel
set_option maxHeartbeats 4000000 in
set_option maxRecDepth 100000 in
theorem s_X12_isAsked {P : PP} {a0 : Nat} {a1 : Int32} {a2 : Int32} {a3 : Int32} (I : IM P a0) (hW : MW P a0) : CtrI yX12_isAsked cX12_isAsked 4 (some Jvm.ClassFile.FieldType.boolean) ({ frames := 3, cells := 0, slots := 0, locals := 192 } : Room) 0 0 P [.ref a0, .int a1, .int a2, .int a3] (fun r P2 => P = P2 ∧ (0 ≤ r.toInt ∧ r.toInt ≤ 1) ∧ (r.toInt = 0 ∨ (((0 : Int) ≤ a1.toInt ∧ a1.toInt ≤ (3 : Int)) ∧ ((0 : Int) ≤ a2.toInt ∧ a2.toInt ≤ (1 : Int)) ∧ ((0 : Int) ≤ a3.toInt ∧ a3.toInt ≤ (1 : Int)))) ∧ (r.toInt = 0 ∨ ∀ b, pR P2 a0 10 = some b → 0 < (pI P2 b (a2.toInt.toNat)).toInt)) := by
  refine enI (lv := [(0, .ref a0), (1, .int a1), (2, .int a2), (3, .int a3)]) (by decide) (Nat.le_of_ble_eq_true rfl) rfl (fun E D cy C Ci0 ret => ?_)
  have ha0 := I.2.1
  have J28 : G E ({ frames := 3, cells := 0, slots := 0, locals := 192 } : Room) D cy 4 P 0 0 28 [] [] := by
    refine g_iconst (v := 0) C dX12_isAsked_28 (by decide) ?_
    exact ret _ _ _ _ _ _ dX12_isAsked_29 rfl (by decide) (by decide) ⟨rfl, (by decide), Or.inl rfl, Or.inl rfl⟩
  refine g_iload_n C dX12_isAsked_0 rfl 1 rfl ?_
  refine g_callSI (b := 0) (ci := 0) (rest := []) C ms_X12_278 [.int a1] (s_X12_isQuarter I.1) rfl rfl (by decide) (Nat.le_of_ble_eq_true rfl) (by decide) dX12_isAsked_1 (fun r57994 Y57995 h57996 => ?_)
  obtain ⟨rfl, h57996⟩ := h57996
  obtain ⟨h57996, hi57997⟩ := h57996
  have hi57997 : r57994.toInt = 0 ∨ (((0 : Int) ≤ a1.toInt ∧ a1.toInt ≤ (3 : Int))) := hi57997
  have h57996 : 0 ≤ r57994.toInt ∧ r57994.toInt ≤ 1 := h57996
  refine b_if_eq C 28 dX12_isAsked_4 (by decide) (fun h57998 => ?_) (fun h57998 => ?_)
  · have h57998 : r57994.toInt = 0 := congrArg Int32.toInt h57998
    clear hi57997
    refine g_lv (lv' := []) [] rfl ?_
    exact J28 
  · have h57998 : r57994.toInt ≠ 0 := ti_ne h57998
    replace hi57997 := hi57997.resolve_left (by omega)
    refine g_aload_n C dX12_isAsked_7 rfl 0 rfl ?_
    refine g_iload_n C dX12_isAsked_8 rfl 2 rfl ?_
    refine g_callVI (rest := []) C mv_X12_192 [.int a2] (s_X12_isBook I hW) (ha0).1 (ha0).2 rfl rfl (by decide) (Nat.le_of_ble_eq_true rfl) (by decide) dX12_isAsked_9 (fun r57999 Y58000 h58001 => ?_)
    obtain ⟨rfl, h58001⟩ := h58001
    obtain ⟨h58001, hi58002, hi58003⟩ := h58001
    have hi58002 : r57999.toInt = 0 ∨ (((0 : Int) ≤ a2.toInt ∧ a2.toInt ≤ (1 : Int))) := hi58002
    have h58001 : 0 ≤ r57999.toInt ∧ r57999.toInt ≤ 1 := h58001
    refine b_if_eq C 28 dX12_isAsked_12 (by decide) (fun h58004 => ?_) (fun h58004 => ?_)
    · have h58004 : r57999.toInt = 0 := congrArg Int32.toInt h58004
      clear hi58002
      refine g_lv (lv' := []) [] rfl ?_
      exact J28 
    · have h58004 : r57999.toInt ≠ 0 := ti_ne h58004
      replace hi58002 := hi58002.resolve_left (by omega)
      obtain ⟨b58005, e58006, h58007⟩ := I.fld (ha0) 10 13 2 rfl
      have hi58003 := (hi58003.resolve_left (by omega)) b58005 e58006
      have hi58003 : 0 < (pI P b58005 (a2.toInt.toNat)).toInt := hi58003
      have h58008 := I.arr e58006 rfl (a2.toInt.toNat)
      refine g_iload_n C dX12_isAsked_15 rfl 3 rfl ?_
      refine g_iconst (v := 0) C dX12_isAsked_16 (by decide) ?_
      refine g_iconst (v := 1) C dX12_isAsked_17 (by decide) ?_
      refine g_callSI (b := 0) (ci := 0) (rest := []) C ms_X12_178 [.int a3, .int 0, .int 1] (s_X12_within I.1) rfl rfl (by decide) (Nat.le_of_ble_eq_true rfl) (by decide) dX12_isAsked_18 (fun r58009 Y58010 h58011 => ?_)
      obtain ⟨rfl, h58011⟩ := h58011
      obtain ⟨h58011, hi58012⟩ := h58011
      have hi58012 : r58009.toInt = 0 ∨ (0 ≤ a3.toInt ∧ a3.toInt ≤ 1) := hi58012
      have h58011 : 0 ≤ r58009.toInt ∧ r58009.toInt ≤ 1 := h58011
      refine b_if_eq C 28 dX12_isAsked_21 (by decide) (fun h58013 => ?_) (fun h58013 => ?_)
      · have h58013 : r58009.toInt = 0 := congrArg Int32.toInt h58013
        clear hi58012
        refine g_lv (lv' := []) [] rfl ?_
        exact J28 
      · have h58013 : r58009.toInt ≠ 0 := ti_ne h58013
        replace hi58012 := hi58012.resolve_left (by omega)
        refine g_iconst (v := 1) C dX12_isAsked_24 (by decide) ?_
        refine g_goto C 29 dX12_isAsked_25 (by decide) ?_
        exact ret _ _ _ _ _ _ dX12_isAsked_29 rfl (by decide) (by decide) ⟨rfl, (by decide), Or.inr (by omega), Or.inr (fun b9 e9 => by rw [e58006] at e9; cases e9; show 0 < (pI P b58005 (a2.toInt.toNat)).toInt; omega)⟩
theorem dX12_doubles_12 : decode cX12_doubles 12 = .ok (.ifCond .ne 5, 3) := by decide +kernel
theorem dX12_doubles_15 : decode cX12_doubles 15 = .ok (.iconst (-1), 1) := by decide +kernel
theorem dX12_doubles_16 : decode cX12_doubles 16 = .ok (.ireturn, 1) := by decide +kernel
theorem dX12_doubles_17 : decode cX12_doubles 17 = .ok (.aload_n 0, 1) := by decide +kernel
theorem dX12_doubles_18 : decode cX12_doubles 18 = .ok (.invokevirtual 336, 3) := by decide +kernel
theorem dX12_doubles_21 : decode cX12_doubles 21 = .ok (.aload_n 0, 1) := by decide +kernel
theorem dX12_doubles_22 : decode cX12_doubles 22 = .ok (.iload_n 1, 1) := by decide +kernel
theorem dX12_doubles_23 : decode cX12_doubles 23 = .ok (.iload_n 2, 1) := by decide +kernel
theorem dX12_doubles_24 : decode cX12_doubles 24 = .ok (.iload_n 3, 1) := by decide +kernel
theorem dX12_doubles_25 : decode cX12_doubles 25 = .ok (.aload_n 0, 1) := by decide +kernel
theorem dX12_doubles_26 : decode cX12_doubles 26 = .ok (.getfield 69, 3) := by decide +kernel
theorem dX12_doubles_29 : decode cX12_doubles 29 = .ok (.iload_n 1, 1) := by decide +kernel
theorem dX12_doubles_30 : decode cX12_doubles 30 = .ok (.iaload, 1) := by decide +kernel
theorem dX12_doubles_31 : decode cX12_doubles 31 = .ok (.invokevirtual 339, 3) := by decide +kernel
theorem dX12_doubles_34 : decode cX12_doubles 34 = .ok (.aload_n 0, 1) := by decide +kernel
theorem dX12_doubles_35 : decode cX12_doubles 35 = .ok (.invokevirtual 346, 3) := by decide +kernel
theorem dX12_doubles_38 : decode cX12_doubles 38 = .ok (.aload_n 0, 1) := by decide +kernel
theorem dX12_doubles_39 : decode cX12_doubles 39 = .ok (.getfield 324, 3) := by decide +kernel
theorem dX12_doubles_42 : decode cX12_doubles 42 = .ok (.istore 4, 2) := by decide +kernel
theorem dX12_doubles_44 : decode cX12_doubles 44 = .ok (.iconst 0, 1) := by decide +kernel
theorem dX12_doubles_45 : decode cX12_doubles 45 = .ok (.istore 5, 2) := by decide +kernel
theorem dX12_doubles_47 : decode cX12_doubles 47 = .ok (.iconst 0, 1) := by decide +kernel
theorem dX12_doubles_48 : decode cX12_doubles 48 = .ok (.istore 6, 2) := by decide +kernel
theorem dX12_doubles_50 : decode cX12_doubles 50 = .ok (.iload 6, 2) := by decide +kernel
theorem dX12_doubles_52 : decode cX12_doubles 52 = .ok (.aload_n 0, 1) := by decide +kernel
theorem dX12_doubles_53 : decode cX12_doubles 53 = .ok (.getfield 69, 3) := by decide +kernel
theorem dX12_doubles_56 : decode cX12_doubles 56 = .ok (.iload_n 1, 1) := by decide +kernel
theorem dX12_doubles_57 : decode cX12_doubles 57 = .ok (.iaload, 1) := by decide +kernel
theorem dX12_doubles_58 : decode cX12_doubles 58 = .ok (.if_icmp .ge 96, 3) := by decide +kernel
theorem dX12_doubles_61 : decode cX12_doubles 61 = .ok (.bipush 40, 2) := by decide +kernel
theorem dX12_doubles_63 : decode cX12_doubles 63 = .ok (.iload_n 1, 1) := by decide +kernel
theorem dX12_doubles_64 : decode cX12_doubles 64 = .ok (.imul, 1) := by decide +kernel
theorem dX12_doubles_65 : decode cX12_doubles 65 = .ok (.iload 6, 2) := by decide +kernel
theorem dX12_doubles_67 : decode cX12_doubles 67 = .ok (.iadd, 1) := by decide +kernel
theorem dX12_doubles_68 : decode cX12_doubles 68 = .ok (.istore 7, 2) := by decide +kernel
theorem dX12_doubles_70 : decode cX12_doubles 70 = .ok (.aload_n 0, 1) := by decide +kernel
theorem dX12_doubles_71 : decode cX12_doubles 71 = .ok (.getfield 75, 3) := by decide +kernel
theorem dX12_doubles_74 : decode cX12_doubles 74 = .ok (.iload 7, 2) := by decide +kernel
theorem dX12_doubles_76 : decode cX12_doubles 76 = .ok (.iaload, 1) := by decide +kernel
theorem dX12_doubles_77 : decode cX12_doubles 77 = .ok (.iload_n 2, 1) := by decide +kernel
theorem dX12_doubles_78 : decode cX12_doubles 78 = .ok (.if_icmp .ne 70, 3) := by decide +kernel
theorem dX12_doubles_81 : decode cX12_doubles 81 = .ok (.aload_n 0, 1) := by decide +kernel
theorem dX12_doubles_82 : decode cX12_doubles 82 = .ok (.getfield 81, 3) := by decide +kernel
theorem dX12_doubles_85 : decode cX12_doubles 85 = .ok (.iload 7, 2) := by decide +kernel
theorem dX12_doubles_87 : decode cX12_doubles 87 = .ok (.iaload, 1) := by decide +kernel
theorem dX12_doubles_88 : decode cX12_doubles 88 = .ok (.iload_n 3, 1) := by decide +kernel
theorem dX12_doubles_89 : decode cX12_doubles 89 = .ok (.ishr, 1) := by decide +kernel
theorem dX12_doubles_90 : decode cX12_doubles 90 = .ok (.iconst 1, 1) := by decide +kernel
theorem dX12_doubles_91 : decode cX12_doubles 91 = .ok (.iand, 1) := by decide +kernel
theorem dX12_doubles_92 : decode cX12_doubles 92 = .ok (.iconst 1, 1) := by decide +kernel
theorem dX12_doubles_93 : decode cX12_doubles 93 = .ok (.if_icmp .ne 55, 3) := by decide +kernel
theorem dX12_doubles_96 : decode cX12_doubles 96 = .ok (.aload_n 0, 1) := by decide +kernel
theorem dX12_doubles_97 : decode cX12_doubles 97 = .ok (.getfield 100, 3) := by decide +kernel
theorem dX12_doubles_100 : decode cX12_doubles 100 = .ok (.iload 6, 2) := by decide +kernel
theorem dX12_doubles_102 : decode cX12_doubles 102 = .ok (.iconst 1, 1) := by decide +kernel
theorem dX12_doubles_103 : decode cX12_doubles 103 = .ok (.bastore, 1) := by decide +kernel
theorem dX12_doubles_104 : decode cX12_doubles 104 = .ok (.aload_n 0, 1) := by decide +kernel
theorem dX12_doubles_105 : decode cX12_doubles 105 = .ok (.iload_n 1, 1) := by decide +kernel
theorem dX12_doubles_106 : decode cX12_doubles 106 = .ok (.iload_n 2, 1) := by decide +kernel
theorem dX12_doubles_107 : decode cX12_doubles 107 = .ok (.iload_n 3, 1) := by decide +kernel
theorem dX12_doubles_108 : decode cX12_doubles 108 = .ok (.aload_n 0, 1) := by decide +kernel
theorem dX12_doubles_109 : decode cX12_doubles 109 = .ok (.getfield 69, 3) := by decide +kernel
theorem dX12_doubles_112 : decode cX12_doubles 112 = .ok (.iload_n 1, 1) := by decide +kernel
theorem dX12_doubles_113 : decode cX12_doubles 113 = .ok (.iaload, 1) := by decide +kernel
theorem dX12_doubles_114 : decode cX12_doubles 114 = .ok (.invokevirtual 339, 3) := by decide +kernel
theorem dX12_doubles_117 : decode cX12_doubles 117 = .ok (.aload_n 0, 1) := by decide +kernel
theorem dX12_doubles_118 : decode cX12_doubles 118 = .ok (.invokevirtual 346, 3) := by decide +kernel
theorem dX12_doubles_121 : decode cX12_doubles 121 = .ok (.iload 5, 2) := by decide +kernel
theorem dX12_doubles_123 : decode cX12_doubles 123 = .ok (.aload_n 0, 1) := by decide +kernel
theorem dX12_doubles_124 : decode cX12_doubles 124 = .ok (.getfield 324, 3) := by decide +kernel
theorem dX12_doubles_127 : decode cX12_doubles 127 = .ok (.iload 4, 2) := by decide +kernel
theorem dX12_doubles_129 : decode cX12_doubles 129 = .ok (.if_icmp .ne 7, 3) := by decide +kernel
theorem dX12_doubles_132 : decode cX12_doubles 132 = .ok (.iconst 1, 1) := by decide +kernel
theorem dX12_doubles_133 : decode cX12_doubles 133 = .ok (.goto 4, 3) := by decide +kernel
theorem dX12_doubles_136 : decode cX12_doubles 136 = .ok (.iconst 0, 1) := by decide +kernel
theorem dX12_doubles_137 : decode cX12_doubles 137 = .ok (.iadd, 1) := by decide +kernel
theorem dX12_doubles_138 : decode cX12_doubles 138 = .ok (.istore 5, 2) := by decide +kernel
theorem dX12_doubles_140 : decode cX12_doubles 140 = .ok (.aload_n 0, 1) := by decide +kernel
theorem dX12_doubles_141 : decode cX12_doubles 141 = .ok (.getfield 100, 3) := by decide +kernel
theorem dX12_doubles_144 : decode cX12_doubles 144 = .ok (.iload 6, 2) := by decide +kernel
theorem dX12_doubles_146 : decode cX12_doubles 146 = .ok (.iconst 0, 1) := by decide +kernel
theorem dX12_doubles_147 : decode cX12_doubles 147 = .ok (.bastore, 1) := by decide +kernel
theorem dX12_doubles_148 : decode cX12_doubles 148 = .ok (.iinc 6 1, 3) := by decide +kernel
theorem dX12_doubles_151 : decode cX12_doubles 151 = .ok (.goto (-101), 3) := by decide +kernel
theorem dX12_doubles_154 : decode cX12_doubles 154 = .ok (.iload 5, 2) := by decide +kernel
theorem dX12_doubles_156 : decode cX12_doubles 156 = .ok (.ireturn, 1) := by decide +kernel
set_option maxHeartbeats 4000000 in
set_option maxRecDepth 100000 in
theorem s_X12_doubles {P : PP} {a0 : Nat} {a1 : Int32} {a2 : Int32} {a3 : Int32} (I : IM P a0) (hW : MW P a0) : CtrI yX12_doubles cX12_doubles 8 (some Jvm.ClassFile.FieldType.int) ({ frames := 5, cells := 0, slots := 0, locals := 320 } : Room) 0 0 P [.ref a0, .int a1, .int a2, .int a3] (fun r P2 => IM P2 a0 ∧ EM [0, 28, 29, 30, 31, 32, 35, 36, 37, 38] a0 P P2 ∧ MW P2 a0 ∧ (True)) := by
  refine enI (lv := [(0, .ref a0), (1, .int a1), (2, .int a2), (3, .int a3)]) (by decide) (Nat.le_of_ble_eq_true rfl) rfl (fun E D cy C Ci0 ret => ?_)
  have ha0 := I.2.1
  have J50 : ∀ (n50 : Nat) (P50 : PP) (v50_4 : Int32) (v50_5 : Int32) (v50_6 : Int32), (40 - v50_6.toInt).toNat < n50 → (IM P50 a0) → (EM [0, 28, 29, 30, 31, 32, 35, 36, 37, 38] a0 P P50) → (MW P50 a0) → (0 ≤ a1.toInt ∧ a1.toInt ≤ 3) → (0 ≤ a2.toInt ∧ a2.toInt ≤ 1) → (0 ≤ a3.toInt ∧ a3.toInt ≤ 1) → (0 ≤ v50_6.toInt ∧ v50_6.toInt ≤ 40) → (0 ≤ (pI P50 a0 0).toInt ∧ (pI P50 a0 0).toInt ≤ 0) → (0 ≤ (pI P50 a0 28).toInt ∧ (pI P50 a0 28).toInt ≤ 44) → (∀ b, pR P50 a0 10 = some b → 1 ≤ (pI P50 b (a2.toInt.toNat)).toInt ∧ (pI P50 b (a2.toInt.toNat)).toInt ≤ 16) → G E ({ frames := 5, cells := 0, slots := 0, locals := 320 } : Room) D cy 8 P50 0 0 50 [(0, .ref a0), (1, .int a1), (2, .int a2), (3, .int a3), (4, .int v50_4), (5, .int v50_5), (6, .int v50_6)] [] := by
    intro n50
    induction n50 with
    | zero => intro P50 v50_4 v50_5 v50_6 hm50 I50 X50 W50 hv50_1 hv50_2 hv50_3 hv50_6 hq50_0 hq50_1 hq50_2; omega
    | succ n50 ih50 =>
      intro P50 v50_4 v50_5 v50_6 hm50 I50 X50 W50 hv50_1 hv50_2 hv50_3 hv50_6 hq50_0 hq50_1 hq50_2
      have h63797 := X50.at ha0
      obtain ⟨b63798, e63799, h63800⟩ := I50.fld (h63797) 10 13 2 rfl
      have hq50_2 := hq50_2 b63798 e63799
      have J148 : ∀ (P148 : PP) (v148_5 : Int32), (IM P148 a0) → (EM [0, 28, 29, 30, 31, 32, 35, 36, 37, 38] a0 P P148) → (MW P148 a0) → (0 ≤ a1.toInt ∧ a1.toInt ≤ 3) → (0 ≤ a2.toInt ∧ a2.toInt ≤ 1) → (0 ≤ a3.toInt ∧ a3.toInt ≤ 1) → (0 ≤ v50_6.toInt ∧ v50_6.toInt ≤ 39) → (0 ≤ (pI P148 a0 0).toInt ∧ (pI P148 a0 0).toInt ≤ 0) → (0 ≤ (pI P148 a0 28).toInt ∧ (pI P148 a0 28).toInt ≤ 44) → (∀ b, pR P148 a0 10 = some b → 1 ≤ (pI P148 b (a2.toInt.toNat)).toInt ∧ (pI P148 b (a2.toInt.toNat)).toInt ≤ 16) → (∀ b, pR P148 a0 20 = some b → 1 ≤ (pI P148 b (a1.toInt.toNat)).toInt ∧ (pI P148 b (a1.toInt.toNat)).toInt ≤ 40) → G E ({ frames := 5, cells := 0, slots := 0, locals := 320 } : Room) D cy 8 P148 0 0 148 [(0, .ref a0), (1, .int a1), (2, .int a2), (3, .int a3), (4, .int v50_4), (5, .int v148_5), (6, .int v50_6)] [] := by
        intro P148 v148_5 I148 X148 W148 hv148_1 hv148_2 hv148_3 hv148_6 hq148_0 hq148_1 hq148_2 hq148_3
        have h63801 := X148.at ha0
        obtain ⟨b63802, e63803, h63804⟩ := I148.fld (h63801) 10 13 2 rfl
        have hq148_2 := hq148_2 b63802 e63803
        obtain ⟨b63805, e63806, h63807⟩ := I148.fld (h63801) 20 13 20 rfl
        have hq148_3 := hq148_3 b63805 e63806
        refine s_iinc (lv0 := [(0, .ref a0), (1, .int a1), (2, .int a2), (3, .int a3), (4, .int v50_4), (5, .int v148_5)]) (m := 1) C dX12_doubles_148 6 rfl (by decide) rfl (by decide) (by omega) (fun z63808 h63809 => ?_)
        have h63809 : z63808.toInt = v50_6.toInt + 1 := h63809
        refine g_goto C 50 dX12_doubles_151 (by decide) ?_
        refine g_lv (lv' := [(0, .ref a0), (1, .int a1), (2, .int a2), (3, .int a3), (4, .int v50_4), (5, .int v148_5), (6, .int z63808)]) [1, 2, 3, 4, 5, 6, 0] rfl ?_
        exact ih50 P148 v50_4 v148_5 z63808 (by omega) I148 X148 W148 (by omega) (by omega) (by omega) (by omega) (by omega) (by omega) (fun b9 e9 => by rw [e63803] at e9; cases e9; omega)
      have J137 : ∀ (P137 : PP) (v137_s0 : Int32), (IM P137 a0) → (EM [0, 28, 29, 30, 31, 32, 35, 36, 37, 38] a0 P P137) → (MW P137 a0) → (0 ≤ a1.toInt ∧ a1.toInt ≤ 3) → (0 ≤ a2.toInt ∧ a2.toInt ≤ 1) → (0 ≤ a3.toInt ∧ a3.toInt ≤ 1) → (0 ≤ v50_6.toInt ∧ v50_6.toInt ≤ 39) → (0 ≤ v137_s0.toInt ∧ v137_s0.toInt ≤ 1) → (0 ≤ (pI P137 a0 0).toInt ∧ (pI P137 a0 0).toInt ≤ 0) → (0 ≤ (pI P137 a0 28).toInt ∧ (pI P137 a0 28).toInt ≤ 44) → (∀ b, pR P137 a0 10 = some b → 1 ≤ (pI P137 b (a2.toInt.toNat)).toInt ∧ (pI P137 b (a2.toInt.toNat)).toInt ≤ 16) → (∀ b, pR P137 a0 20 = some b → 1 ≤ (pI P137 b (a1.toInt.toNat)).toInt ∧ (pI P137 b (a1.toInt.toNat)).toInt ≤ 40) → (∀ b, pR P137 a0 32 = some b → 1 ≤ (pI P137 b (v50_6.toInt.toNat)).toInt ∧ (pI P137 b (v50_6.toInt.toNat)).toInt ≤ 1) → G E ({ frames := 5, cells := 0, slots := 0, locals := 320 } : Room) D cy 8 P137 0 0 137 [(0, .ref a0), (1, .int a1), (2, .int a2), (3, .int a3), (4, .int v50_4), (6, .int v50_6)] [.int v137_s0, .int v50_5] := by
        intro P137 v137_s0 I137 X137 W137 hv137_1 hv137_2 hv137_3 hv137_6 hv137_s0 hq137_0 hq137_1 hq137_2 hq137_3 hq137_4
        have h63810 := X137.at ha0
        obtain ⟨b63811, e63812, h63813⟩ := I137.fld (h63810) 10 13 2 rfl
        have hq137_2 := hq137_2 b63811 e63812
        obtain ⟨b63814, e63815, h63816⟩ := I137.fld (h63810) 20 13 20 rfl
        have hq137_3 := hq137_3 b63814 e63815
        obtain ⟨b63817, e63818, h63819⟩ := I137.fld (h63810) 32 15 40 rfl
        have hq137_4 := hq137_4 b63817 e63818
        refine a_iadd C dX12_doubles_137 (fun z63820 => ?_)
        refine g_istore (lv' := [(5, .int z63820), (0, .ref a0), (1, .int a1), (2, .int a2), (3, .int a3), (4, .int v50_4), (6, .int v50_6)]) C dX12_doubles_138 (by decide) rfl ?_
        refine g_aload_n C dX12_doubles_140 rfl 1 rfl ?_
        refine g_getR C fi_X12_100 rfl e63818 (h63810).1 (h63810).2 dX12_doubles_141 ?_
        refine g_iload C dX12_doubles_144 6 rfl ?_
        refine g_iconst (v := 0) C dX12_doubles_146 (by decide) ?_
        refine g_zast (j := (v50_6.toInt.toNat)) C h63819.1 h63819.2.1 (ix_in h63819.2.2 (by omega)) (Or.inl rfl) dX12_doubles_147 ?_
        refine gqW (ks := [32]) (I137.setA e63818 h63819 (by decide) (arOk.none rfl)) (EM.setA I137 e63818 rfl (by decide)) (fun Y63822 Iy63823 Xy63824 w63825  => ?_)
        have w63825 : (pI Y63822 b63817 (v50_6.toInt.toNat)).toInt = 0 := w63825
        have q63826 := Xy63824.keepF 0 (by decide)
        have q63827 := Xy63824.keepF 28 (by decide)
        have q63828 := Xy63824.keepA e63812 (by decide) rfl (a2.toInt.toNat)
        have q63829 := Xy63824.keepA e63815 (by decide) rfl (a1.toInt.toNat)
        have W63830 := W137.keep I137 Xy63824 (by decide) (by decide) (by decide)
        have Xz63831 : EM [0, 28, 29, 30, 31, 32, 35, 36, 37, 38] a0 P Y63822 := EM.tr ha0 X137 (Xy63824.mono (by decide))
        have e63832 := Xy63824.ref h63810 (by decide) e63812
        have e63833 := Xy63824.ref h63810 (by decide) e63815
        have e63834 := Xy63824.ref h63810 (by decide) e63818
        have h63835 := Xy63824.at h63810
        have h63836 := Xy63824.ar h63813
        have h63837 := Xy63824.ar h63816
        have h63838 := Xy63824.ar h63819
        refine g_lv (lv' := [(0, .ref a0), (1, .int a1), (2, .int a2), (3, .int a3), (4, .int v50_4), (5, .int z63820), (6, .int v50_6)]) [1, 2, 3, 4, 5, 0, 6] rfl ?_
        exact J148 Y63822 z63820 Iy63823 Xz63831 W63830 (by omega) (by omega) (by omega) (by omega) (by omega) (by omega) (fun b9 e9 => by rw [e63832] at e9; cases e9; omega) (fun b9 e9 => by rw [e63833] at e9; cases e9; omega)
      refine g_iload C dX12_doubles_50 6 rfl ?_
      refine g_aload_n C dX12_doubles_52 rfl 0 rfl ?_
      obtain ⟨b63839, e63840, h63841⟩ := I50.fld (h63797) 20 13 20 rfl
      refine g_getR C fi_X12_69 rfl e63840 (h63797).1 (h63797).2 dX12_doubles_53 ?_
      refine g_iload_n C dX12_doubles_56 rfl 1 rfl ?_
      refine g_iald (j := (a1.toInt.toNat)) C h63841.1 h63841.2.1 (ix_in h63841.2.2 (by omega)) dX12_doubles_57 ?_
      have h63842 := I50.arr e63840 rfl (a1.toInt.toNat)
      refine b_icmp_ge C 154 dX12_doubles_58 (by decide) (fun h63843 => ?_) (fun h63843 => ?_)
      · have h63843 : (pI P50 b63839 (a1.toInt.toNat)).toInt ≤ v50_6.toInt := h63843
        refine g_iload C dX12_doubles_154 5 rfl ?_
        exact ret _ _ _ _ _ _ dX12_doubles_156 rfl (by decide) (by decide) ⟨I50, X50, W50, trivial⟩
      · have h63843 : v50_6.toInt < (pI P50 b63839 (a1.toInt.toNat)).toInt := h63843
        refine g_bipush (v := 40) C dX12_doubles_61 (by decide) ?_
        refine g_iload_n C dX12_doubles_63 rfl 1 rfl ?_
        refine s_imul C dX12_doubles_64 (by show -2147483648 ≤ 40 * a1.toInt ∧ 40 * a1.toInt ≤ 2147483647; omega) (fun z63844 h63845 => ?_)
        have h63845 : z63844.toInt = 40 * a1.toInt := h63845
        refine g_iload C dX12_doubles_65 6 rfl ?_
        refine s_iadd C dX12_doubles_67 (by show -2147483648 ≤ z63844.toInt + v50_6.toInt ∧ z63844.toInt + v50_6.toInt ≤ 2147483647; omega) (fun z63846 h63847 => ?_)
        have h63847 : z63846.toInt = z63844.toInt + v50_6.toInt := h63847
        refine g_istore (lv' := [(7, .int z63846), (0, .ref a0), (1, .int a1), (2, .int a2), (3, .int a3), (4, .int v50_4), (5, .int v50_5), (6, .int v50_6)]) C dX12_doubles_68 (by decide) rfl ?_
        refine g_aload_n C dX12_doubles_70 rfl 1 rfl ?_
        obtain ⟨b63848, e63849, h63850⟩ := I50.fld (h63797) 22 13 800 rfl
        refine g_getR C fi_X12_75 rfl e63849 (h63797).1 (h63797).2 dX12_doubles_71 ?_
        refine g_iload C dX12_doubles_74 0 rfl ?_
        refine g_iald (j := (z63846.toInt.toNat)) C h63850.1 h63850.2.1 (ix_in h63850.2.2 (by omega)) dX12_doubles_76 ?_
        have h63851 := I50.arr e63849 rfl (z63846.toInt.toNat)
        refine g_iload_n C dX12_doubles_77 rfl 3 rfl ?_
        refine b_icmp_ne C 148 dX12_doubles_78 (by decide) (fun h63852 => ?_) (fun h63852 => ?_)
        · have h63852 : (pI P50 b63848 (z63846.toInt.toNat)).toInt ≠ a2.toInt := ti_ne h63852
          refine g_lv (lv' := [(0, .ref a0), (1, .int a1), (2, .int a2), (3, .int a3), (4, .int v50_4), (5, .int v50_5), (6, .int v50_6)]) [1, 2, 3, 4, 5, 6, 7] rfl ?_
          exact J148 P50 v50_5 I50 X50 W50 (by omega) (by omega) (by omega) (by omega) (by omega) (by omega) (fun b9 e9 => by rw [e63799] at e9; cases e9; omega) (fun b9 e9 => by rw [e63840] at e9; cases e9; omega)
        · have h63852 : (pI P50 b63848 (z63846.toInt.toNat)).toInt = a2.toInt := congrArg Int32.toInt h63852
          refine g_aload_n C dX12_doubles_81 rfl 1 rfl ?_
          obtain ⟨b63853, e63854, h63855⟩ := I50.fld (h63797) 24 13 800 rfl
          refine g_getR C fi_X12_81 rfl e63854 (h63797).1 (h63797).2 dX12_doubles_82 ?_
          refine g_iload C dX12_doubles_85 0 rfl ?_
          refine g_iald (j := (z63846.toInt.toNat)) C h63855.1 h63855.2.1 (ix_in h63855.2.2 (by omega)) dX12_doubles_87 ?_
          refine g_iload_n C dX12_doubles_88 rfl 4 rfl ?_
          refine a_ishr C dX12_doubles_89 (fun z63856 => ?_)
          refine g_iconst (v := 1) C dX12_doubles_90 (by decide) ?_
          refine s_iand C dX12_doubles_91 (by show 0 ≤ 1; omega) (fun z63858 h63859 => ?_)
          have h63859 : 0 ≤ z63858.toInt ∧ z63858.toInt ≤ 1 := h63859
          refine g_iconst (v := 1) C dX12_doubles_92 (by decide) ?_
          refine b_icmp_ne C 148 dX12_doubles_93 (by decide) (fun h63860 => ?_) (fun h63860 => ?_)
          · have h63860 : z63858.toInt ≠ 1 := ti_ne h63860
            refine g_lv (lv' := [(0, .ref a0), (1, .int a1), (2, .int a2), (3, .int a3), (4, .int v50_4), (5, .int v50_5), (6, .int v50_6)]) [1, 2, 3, 4, 5, 6, 7] rfl ?_
            exact J148 P50 v50_5 I50 X50 W50 (by omega) (by omega) (by omega) (by omega) (by omega) (by omega) (fun b9 e9 => by rw [e63799] at e9; cases e9; omega) (fun b9 e9 => by rw [e63840] at e9; cases e9; omega)
          · have h63860 : z63858.toInt = 1 := congrArg Int32.toInt h63860
            refine g_aload_n C dX12_doubles_96 rfl 1 rfl ?_
            obtain ⟨b63861, e63862, h63863⟩ := I50.fld (h63797) 32 15 40 rfl
            refine g_getR C fi_X12_100 rfl e63862 (h63797).1 (h63797).2 dX12_doubles_97 ?_
            refine g_iload C dX12_doubles_100 7 rfl ?_
            refine g_iconst (v := 1) C dX12_doubles_102 (by decide) ?_
            refine g_zast (j := (v50_6.toInt.toNat)) C h63863.1 h63863.2.1 (ix_in h63863.2.2 (by omega)) (Or.inr rfl) dX12_doubles_103 ?_
            refine gqW (ks := [32]) (I50.setA e63862 h63863 (by decide) (arOk.none rfl)) (EM.setA I50 e63862 rfl (by decide)) (fun Y63864 Iy63865 Xy63866 w63867  => ?_)
            have w63867 : (pI Y63864 b63861 (v50_6.toInt.toNat)).toInt = 1 := w63867
            have q63868 := Xy63866.keepF 0 (by decide)
            have q63869 := Xy63866.keepF 28 (by decide)
            have q63870 := Xy63866.keepA e63799 (by decide) rfl (a2.toInt.toNat)
            have q63871 := Xy63866.keepA e63840 (by decide) rfl (a1.toInt.toNat)
            have q63872 := Xy63866.keepA e63849 (by decide) rfl (z63846.toInt.toNat)
            have W63873 := W50.keep I50 Xy63866 (by decide) (by decide) (by decide)
            have Xz63874 : EM [0, 28, 29, 30, 31, 32, 35, 36, 37, 38] a0 P Y63864 := EM.tr ha0 X50 (Xy63866.mono (by decide))
            have e63875 := Xy63866.ref h63797 (by decide) e63799
            have e63876 := Xy63866.ref h63797 (by decide) e63840
            have e63877 := Xy63866.ref h63797 (by decide) e63849
            have e63878 := Xy63866.ref h63797 (by decide) e63862
            have h63879 := Xy63866.at h63797
            have h63880 := Xy63866.ar h63800
            have h63881 := Xy63866.ar h63841
            have h63882 := Xy63866.ar h63850
            have h63883 := Xy63866.ar h63863
            refine g_aload_n C dX12_doubles_104 rfl 1 rfl ?_
            refine g_iload_n C dX12_doubles_105 rfl 2 rfl ?_
            refine g_iload_n C dX12_doubles_106 rfl 3 rfl ?_
            refine g_iload_n C dX12_doubles_107 rfl 4 rfl ?_
            refine g_aload_n C dX12_doubles_108 rfl 1 rfl ?_
            refine g_getR C fi_X12_69 rfl e63876 (h63879).1 (h63879).2 dX12_doubles_109 ?_
            refine g_iload_n C dX12_doubles_112 rfl 2 rfl ?_
            refine g_iald (j := (a1.toInt.toNat)) C h63881.1 h63881.2.1 (ix_in h63881.2.2 (by omega)) dX12_doubles_113 ?_
            refine g_callVV (rest := []) C mv_X12_339 [.int a1, .int a2, .int a3, .int (pI Y63864 b63839 (a1.toInt.toNat))] (s_X12_gathers Iy63865 (by omega) (by omega) (by omega) (fun b9 e9 => by rw [e63875] at e9; cases e9; show 1 ≤ (pI Y63864 b63798 (a2.toInt.toNat)).toInt ∧ (pI Y63864 b63798 (a2.toInt.toNat)).toInt ≤ 16; omega) W63873) (h63879).1 (h63879).2 rfl rfl (by decide) (Nat.le_of_ble_eq_true rfl) (by decide) dX12_doubles_114 (fun Y63885 h63886 => ?_)
            obtain ⟨Iy63887, Xy63888, W63889, p63890, p63891⟩ := h63886
            have p63890 : (pI Y63885 a0 28).toInt ≤ 4 + (pI Y63864 b63839 (a1.toInt.toNat)).toInt := p63890
            have q63892 := Xy63888.keepF 0 (by decide)
            have q63893 := Xy63888.keepA e63875 (by decide) rfl (a2.toInt.toNat)
            have q63894 := Xy63888.keepA e63876 (by decide) rfl (a1.toInt.toNat)
            have q63895 := Xy63888.keepA e63877 (by decide) rfl (z63846.toInt.toNat)
            have q63896 := Xy63888.keepA e63878 (by decide) rfl (v50_6.toInt.toNat)
            have Xz63897 : EM [0, 28, 29, 30, 31, 32, 35, 36, 37, 38] a0 P Y63885 := EM.tr ha0 Xz63874 (Xy63888.mono (by decide))
            have e63898 := Xy63888.ref h63879 (by decide) e63875
            have e63899 := Xy63888.ref h63879 (by decide) e63876
            have e63900 := Xy63888.ref h63879 (by decide) e63877
            have e63901 := Xy63888.ref h63879 (by decide) e63878
            have h63902 := Xy63888.at h63879
            have h63903 := Xy63888.ar h63880
            have h63904 := Xy63888.ar h63881
            have h63905 := Xy63888.ar h63882
            have h63906 := Xy63888.ar h63883
            have p63891 := p63891 b63848 e63900
            rw [Xz63897.2.2.2 22 (by decide) rfl b63848 (EM.refB Xz63897 ha0 e63900)] at p63891
            have p63891 : (pI Y63885 a0 28).toInt ≤ 4 + kC (pI P b63848) (40 * a1.toInt).toNat a2.toInt ((pI Y63864 b63839 (a1.toInt.toNat)).toInt : Int).toNat := p63891
            have h63907 := Iy63887.rg h63902 28 rfl
            refine g_aload_n C dX12_doubles_117 rfl 1 rfl ?_
            refine g_callVV (rest := []) C mv_X12_346 [] (s_X12_findSolved Iy63887 W63889) (h63902).1 (h63902).2 rfl rfl (by decide) (Nat.le_of_ble_eq_true rfl) (by decide) dX12_doubles_118 (fun Y63909 h63910 => ?_)
            obtain ⟨Iy63911, Xy63912, W63913⟩ := h63910
            have q63914 := Xy63912.keepF 0 (by decide)
            have q63915 := Xy63912.keepA e63898 (by decide) rfl (a2.toInt.toNat)
            have q63916 := Xy63912.keepA e63899 (by decide) rfl (a1.toInt.toNat)
            have q63917 := Xy63912.keepA e63900 (by decide) rfl (z63846.toInt.toNat)
            have q63918 := Xy63912.keepA e63901 (by decide) rfl (v50_6.toInt.toNat)
            have q63919 := Xy63912.keepF 28 (by decide)
            have Xz63920 : EM [0, 28, 29, 30, 31, 32, 35, 36, 37, 38] a0 P Y63909 := EM.tr ha0 Xz63897 (Xy63912.mono (by decide))
            have e63921 := Xy63912.ref h63902 (by decide) e63898
            have e63922 := Xy63912.ref h63902 (by decide) e63899
            have e63923 := Xy63912.ref h63902 (by decide) e63900
            have e63924 := Xy63912.ref h63902 (by decide) e63901
            have h63925 := Xy63912.at h63902
            have h63926 := Xy63912.ar h63903
            have h63927 := Xy63912.ar h63904
            have h63928 := Xy63912.ar h63905
            have h63929 := Xy63912.ar h63906
            refine g_iload C dX12_doubles_121 6 rfl ?_
            refine g_aload_n C dX12_doubles_123 rfl 1 rfl ?_
            refine g_getI C fi_X12_324 (by decide) (h63925).1 (h63925).2 dX12_doubles_124 ?_
            refine g_iload C dX12_doubles_127 5 rfl ?_
            have u63931 := ti_rng (pI Y63909 a0 35)
            have u63932 := ti_rng v50_4
            refine b_icmp_ne C 136 dX12_doubles_129 (by decide) (fun h63930 => ?_) (fun h63930 => ?_)
            · have h63930 : (pI Y63909 a0 35).toInt ≠ v50_4.toInt := ti_ne h63930
              refine g_iconst (v := 0) C dX12_doubles_136 (by decide) ?_
              refine g_lv (lv' := [(0, .ref a0), (1, .int a1), (2, .int a2), (3, .int a3), (4, .int v50_4), (6, .int v50_6)]) [1, 2, 3, 4, 5, 7] rfl ?_
              exact J137 Y63909 0 Iy63911 Xz63920 W63913 (by omega) (by omega) (by omega) (by omega) (by decide) (by omega) (by omega) (fun b9 e9 => by rw [e63921] at e9; cases e9; omega) (fun b9 e9 => by rw [e63922] at e9; cases e9; omega) (fun b9 e9 => by rw [e63924] at e9; cases e9; omega)
            · have h63930 : (pI Y63909 a0 35).toInt = v50_4.toInt := congrArg Int32.toInt h63930
              refine g_iconst (v := 1) C dX12_doubles_132 (by decide) ?_
              refine g_goto C 137 dX12_doubles_133 (by decide) ?_
              refine g_lv (lv' := [(0, .ref a0), (1, .int a1), (2, .int a2), (3, .int a3), (4, .int v50_4), (6, .int v50_6)]) [1, 2, 3, 4, 5, 7] rfl ?_
              exact J137 Y63909 1 Iy63911 Xz63920 W63913 (by omega) (by omega) (by omega) (by omega) (by decide) (by omega) (by omega) (fun b9 e9 => by rw [e63921] at e9; cases e9; omega) (fun b9 e9 => by rw [e63922] at e9; cases e9; omega) (fun b9 e9 => by rw [e63924] at e9; cases e9; omega)
  refine g_aload_n C dX12_doubles_0 rfl 0 rfl ?_
  refine g_iconst (v := 0) C dX12_doubles_1 (by decide) ?_
  refine g_putI C fi_X12_1 rfl (ha0).1 (ha0).2 dX12_doubles_2 ?_
  refine gqW (ks := [0]) (I.setI (rgOk.of rfl (by decide))) (EM.setI I (by decide)) (fun Y63933 Iy63934 Xy63935 w63936  => ?_)
  have w63936 : (pI Y63933 a0 0).toInt = 0 := w63936
  have W63937 := hW.keep I Xy63935 (by decide) (by decide) (by decide)
  have Xz63938 : EM [0, 28, 29, 30, 31, 32, 35, 36, 37, 38] a0 P Y63933 := Xy63935.mono (by decide)
  have h63939 := Xy63935.at ha0
  refine g_aload_n C dX12_doubles_5 rfl 0 rfl ?_
  refine g_iload_n C dX12_doubles_6 rfl 1 rfl ?_
  refine g_iload_n C dX12_doubles_7 rfl 2 rfl ?_
  refine g_iload_n C dX12_doubles_8 rfl 3 rfl ?_
  refine g_callVI (rest := []) C mv_X12_333 [.int a1, .int a2, .int a3] (s_X12_isAsked Iy63934 W63937) (h63939).1 (h63939).2 rfl rfl (by decide) (Nat.le_of_ble_eq_true rfl) (by decide) dX12_doubles_9 (fun r63940 Y63941 h63942 => ?_)
  obtain ⟨rfl, h63942⟩ := h63942
  obtain ⟨h63942, hi63943, hi63944⟩ := h63942
  have hi63943 : r63940.toInt = 0 ∨ (((0 : Int) ≤ a1.toInt ∧ a1.toInt ≤ (3 : Int)) ∧ ((0 : Int) ≤ a2.toInt ∧ a2.toInt ≤ (1 : Int)) ∧ ((0 : Int) ≤ a3.toInt ∧ a3.toInt ≤ (1 : Int))) := hi63943
  have h63942 : 0 ≤ r63940.toInt ∧ r63940.toInt ≤ 1 := h63942
  refine b_if_ne C 17 dX12_doubles_12 (by decide) (fun h63945 => ?_) (fun h63945 => ?_)
  · have h63945 : r63940.toInt ≠ 0 := ti_ne h63945
    replace hi63943 := hi63943.resolve_left (by omega)
    obtain ⟨b63946, e63947, h63948⟩ := Iy63934.fld (h63939) 10 13 2 rfl
    have hi63944 := (hi63944.resolve_left (by omega)) b63946 e63947
    have hi63944 : 0 < (pI Y63933 b63946 (a2.toInt.toNat)).toInt := hi63944
    have h63949 := Iy63934.arr e63947 rfl (a2.toInt.toNat)
    refine g_aload_n C dX12_doubles_17 rfl 0 rfl ?_
    refine g_callVV (rest := []) C mv_X12_336 [] (s_X12_leavesNone Iy63934 W63937) (h63939).1 (h63939).2 rfl rfl (by decide) (Nat.le_of_ble_eq_true rfl) (by decide) dX12_doubles_18 (fun Y63951 h63952 => ?_)
    obtain ⟨Iy63953, Xy63954, W63955⟩ := h63952
    have q63956 := Xy63954.keepF 0 (by decide)
    have q63957 := Xy63954.keepA e63947 (by decide) rfl (a2.toInt.toNat)
    have Xz63958 : EM [0, 28, 29, 30, 31, 32, 35, 36, 37, 38] a0 P Y63951 := EM.tr ha0 Xz63938 (Xy63954.mono (by decide))
    have e63959 := Xy63954.ref h63939 (by decide) e63947
    have h63960 := Xy63954.at h63939
    have h63961 := Xy63954.ar h63948
    refine g_aload_n C dX12_doubles_21 rfl 0 rfl ?_
    refine g_iload_n C dX12_doubles_22 rfl 1 rfl ?_
    refine g_iload_n C dX12_doubles_23 rfl 2 rfl ?_
    refine g_iload_n C dX12_doubles_24 rfl 3 rfl ?_
    refine g_aload_n C dX12_doubles_25 rfl 0 rfl ?_
    obtain ⟨b63962, e63963, h63964⟩ := Iy63953.fld (h63960) 20 13 20 rfl
    refine g_getR C fi_X12_69 rfl e63963 (h63960).1 (h63960).2 dX12_doubles_26 ?_
    refine g_iload_n C dX12_doubles_29 rfl 1 rfl ?_
    refine g_iald (j := (a1.toInt.toNat)) C h63964.1 h63964.2.1 (ix_in h63964.2.2 (by omega)) dX12_doubles_30 ?_
    have h63965 := Iy63953.arr e63963 rfl (a1.toInt.toNat)
    refine g_callVV (rest := []) C mv_X12_339 [.int a1, .int a2, .int a3, .int (pI Y63951 b63962 (a1.toInt.toNat))] (s_X12_gathers Iy63953 (by omega) (by omega) (by omega) (fun b9 e9 => by rw [e63959] at e9; cases e9; show 1 ≤ (pI Y63951 b63946 (a2.toInt.toNat)).toInt ∧ (pI Y63951 b63946 (a2.toInt.toNat)).toInt ≤ 16; omega) W63955) (h63960).1 (h63960).2 rfl rfl (by decide) (Nat.le_of_ble_eq_true rfl) (by decide) dX12_doubles_31 (fun Y63967 h63968 => ?_)
    obtain ⟨Iy63969, Xy63970, W63971, p63972, p63973⟩ := h63968
    have p63972 : (pI Y63967 a0 28).toInt ≤ 4 + (pI Y63951 b63962 (a1.toInt.toNat)).toInt := p63972
    have q63974 := Xy63970.keepF 0 (by decide)
    have q63975 := Xy63970.keepA e63959 (by decide) rfl (a2.toInt.toNat)
    have q63976 := Xy63970.keepA e63963 (by decide) rfl (a1.toInt.toNat)
    have Xz63977 : EM [0, 28, 29, 30, 31, 32, 35, 36, 37, 38] a0 P Y63967 := EM.tr ha0 Xz63958 (Xy63970.mono (by decide))
    have e63978 := Xy63970.ref h63960 (by decide) e63959
    have e63979 := Xy63970.ref h63960 (by decide) e63963
    have h63980 := Xy63970.at h63960
    have h63981 := Xy63970.ar h63961
    have h63982 := Xy63970.ar h63964
    obtain ⟨b63983, e63984, h63985⟩ := Iy63969.fld (h63980) 22 13 800 rfl
    have p63973 := p63973 b63983 e63984
    rw [Xz63977.2.2.2 22 (by decide) rfl b63983 (EM.refB Xz63977 ha0 e63984)] at p63973
    have p63973 : (pI Y63967 a0 28).toInt ≤ 4 + kC (pI P b63983) (40 * a1.toInt).toNat a2.toInt ((pI Y63951 b63962 (a1.toInt.toNat)).toInt : Int).toNat := p63973
    have h63986 := Iy63969.rg h63980 28 rfl
    refine g_aload_n C dX12_doubles_34 rfl 0 rfl ?_
    refine g_callVV (rest := []) C mv_X12_346 [] (s_X12_findSolved Iy63969 W63971) (h63980).1 (h63980).2 rfl rfl (by decide) (Nat.le_of_ble_eq_true rfl) (by decide) dX12_doubles_35 (fun Y63988 h63989 => ?_)
    obtain ⟨Iy63990, Xy63991, W63992⟩ := h63989
    have q63993 := Xy63991.keepF 0 (by decide)
    have q63994 := Xy63991.keepA e63978 (by decide) rfl (a2.toInt.toNat)
    have q63995 := Xy63991.keepA e63979 (by decide) rfl (a1.toInt.toNat)
    have q63996 := Xy63991.keepF 28 (by decide)
    have Xz63997 : EM [0, 28, 29, 30, 31, 32, 35, 36, 37, 38] a0 P Y63988 := EM.tr ha0 Xz63977 (Xy63991.mono (by decide))
    have e63998 := Xy63991.ref h63980 (by decide) e63978
    have e63999 := Xy63991.ref h63980 (by decide) e63979
    have h64000 := Xy63991.at h63980
    have h64001 := Xy63991.ar h63981
    have h64002 := Xy63991.ar h63982
    refine g_aload_n C dX12_doubles_38 rfl 0 rfl ?_
    refine g_getI C fi_X12_324 (by decide) (h64000).1 (h64000).2 dX12_doubles_39 ?_
    refine g_topi (fun z64003 h64004 => ?_)
    have h64004 : z64003.toInt = (pI Y63988 a0 35).toInt := congrArg Int32.toInt h64004
    refine g_istore (lv' := [(4, .int z64003), (0, .ref a0), (1, .int a1), (2, .int a2), (3, .int a3)]) C dX12_doubles_42 (by decide) rfl ?_
    refine g_iconst (v := 0) C dX12_doubles_44 (by decide) ?_
    refine g_istore (lv' := [(5, .int 0), (4, .int z64003), (0, .ref a0), (1, .int a1), (2, .int a2), (3, .int a3)]) C dX12_doubles_45 (by decide) rfl ?_
    refine g_iconst (v := 0) C dX12_doubles_47 (by decide) ?_
    refine g_istore (lv' := [(6, .int 0), (5, .int 0), (4, .int z64003), (0, .ref a0), (1, .int a1), (2, .int a2), (3, .int a3)]) C dX12_doubles_48 (by decide) rfl ?_
    refine g_lv (lv' := [(0, .ref a0), (1, .int a1), (2, .int a2), (3, .int a3), (4, .int z64003), (5, .int 0), (6, .int 0)]) [3, 4, 5, 6, 2, 1, 0] rfl ?_
    exact J50 _ Y63988 z64003 0 0 (Nat.lt_succ_self _) Iy63990 Xz63997 W63992 (by omega) (by omega) (by omega) (by decide) (by omega) (by omega) (fun b9 e9 => by rw [e63998] at e9; cases e9; omega)
  · have h63945 : r63940.toInt = 0 := congrArg Int32.toInt h63945
    clear hi63943
    refine g_iconst (v := (-1)) C dX12_doubles_15 (by decide) ?_
    exact ret _ _ _ _ _ _ dX12_doubles_16 rfl (by decide) (by decide) ⟨Iy63934, Xz63938, W63937, trivial⟩
theorem dX12_draw_0 : decode cX12_draw 0 = .ok (.aload_n 0, 1) := by decide +kernel
theorem dX12_draw_1 : decode cX12_draw 1 = .ok (.iconst 0, 1) := by decide +kernel
theorem dX12_draw_2 : decode cX12_draw 2 = .ok (.putfield 1, 3) := by decide +kernel
theorem dX12_draw_5 : decode cX12_draw 5 = .ok (.aload_n 0, 1) := by decide +kernel
theorem dX12_draw_6 : decode cX12_draw 6 = .ok (.iload_n 1, 1) := by decide +kernel
theorem dX12_draw_7 : decode cX12_draw 7 = .ok (.invokevirtual 192, 3) := by decide +kernel
theorem dX12_draw_10 : decode cX12_draw 10 = .ok (.ifCond .eq 11, 3) := by decide +kernel
theorem dX12_draw_13 : decode cX12_draw 13 = .ok (.aload_n 0, 1) := by decide +kernel
theorem dX12_draw_14 : decode cX12_draw 14 = .ok (.iload_n 1, 1) := by decide +kernel
theorem dX12_draw_15 : decode cX12_draw 15 = .ok (.invokevirtual 196, 3) := by decide +kernel
theorem dX12_isOut_0 : decode cX12_isOut 0 = .ok (.iconst 0, 1) := by decide +kernel
theorem dX12_isOut_1 : decode cX12_isOut 1 = .ok (.istore_n 2, 1) := by decide +kernel
theorem dX12_isOut_2 : decode cX12_isOut 2 = .ok (.iconst 0, 1) := by decide +kernel
theorem dX12_isOut_3 : decode cX12_isOut 3 = .ok (.istore_n 3, 1) := by decide +kernel
theorem dX12_isOut_4 : decode cX12_isOut 4 = .ok (.iload_n 3, 1) := by decide +kernel
theorem dX12_isOut_5 : decode cX12_isOut 5 = .ok (.iconst 4, 1) := by decide +kernel
theorem dX12_isOut_6 : decode cX12_isOut 6 = .ok (.if_icmp .ge 70, 3) := by decide +kernel
theorem dX12_isOut_9 : decode cX12_isOut 9 = .ok (.iconst 0, 1) := by decide +kernel
theorem dX12_isOut_10 : decode cX12_isOut 10 = .ok (.istore 4, 2) := by decide +kernel
theorem dX12_isOut_12 : decode cX12_isOut 12 = .ok (.iload 4, 2) := by decide +kernel
theorem dX12_isOut_14 : decode cX12_isOut 14 = .ok (.aload_n 0, 1) := by decide +kernel
theorem dX12_isOut_15 : decode cX12_isOut 15 = .ok (.getfield 69, 3) := by decide +kernel
theorem dX12_isOut_18 : decode cX12_isOut 18 = .ok (.iload_n 3, 1) := by decide +kernel
theorem dX12_isOut_19 : decode cX12_isOut 19 = .ok (.iaload, 1) := by decide +kernel
theorem dX12_isOut_20 : decode cX12_isOut 20 = .ok (.if_icmp .ge 50, 3) := by decide +kernel
theorem dX12_isOut_23 : decode cX12_isOut 23 = .ok (.iload_n 2, 1) := by decide +kernel
theorem dX12_isOut_24 : decode cX12_isOut 24 = .ok (.ifCond .ne 34, 3) := by decide +kernel
theorem dX12_isOut_27 : decode cX12_isOut 27 = .ok (.aload_n 0, 1) := by decide +kernel
theorem dX12_isOut_28 : decode cX12_isOut 28 = .ok (.getfield 75, 3) := by decide +kernel
theorem dX12_isOut_31 : decode cX12_isOut 31 = .ok (.bipush 40, 2) := by decide +kernel
theorem dX12_isOut_33 : decode cX12_isOut 33 = .ok (.iload_n 3, 1) := by decide +kernel
theorem dX12_isOut_34 : decode cX12_isOut 34 = .ok (.imul, 1) := by decide +kernel
theorem dX12_isOut_35 : decode cX12_isOut 35 = .ok (.iload 4, 2) := by decide +kernel
theorem dX12_isOut_37 : decode cX12_isOut 37 = .ok (.iadd, 1) := by decide +kernel
theorem dX12_isOut_38 : decode cX12_isOut 38 = .ok (.iaload, 1) := by decide +kernel
theorem dX12_isOut_39 : decode cX12_isOut 39 = .ok (.iload_n 1, 1) := by decide +kernel
theorem dX12_isOut_40 : decode cX12_isOut 40 = .ok (.if_icmp .eq 18, 3) := by decide +kernel
theorem dX12_isOut_43 : decode cX12_isOut 43 = .ok (.aload_n 0, 1) := by decide +kernel
theorem dX12_isOut_44 : decode cX12_isOut 44 = .ok (.getfield 75, 3) := by decide +kernel
theorem dX12_isOut_47 : decode cX12_isOut 47 = .ok (.bipush 40, 2) := by decide +kernel
theorem dX12_isOut_49 : decode cX12_isOut 49 = .ok (.iload_n 3, 1) := by decide +kernel
theorem dX12_isOut_50 : decode cX12_isOut 50 = .ok (.imul, 1) := by decide +kernel
theorem dX12_isOut_51 : decode cX12_isOut 51 = .ok (.iload 4, 2) := by decide +kernel
theorem dX12_isOut_53 : decode cX12_isOut 53 = .ok (.iadd, 1) := by decide +kernel
theorem dX12_isOut_54 : decode cX12_isOut 54 = .ok (.iaload, 1) := by decide +kernel
theorem dX12_isOut_55 : decode cX12_isOut 55 = .ok (.ifCond .ge 7, 3) := by decide +kernel
theorem dX12_isOut_58 : decode cX12_isOut 58 = .ok (.iconst 1, 1) := by decide +kernel
theorem dX12_isOut_59 : decode cX12_isOut 59 = .ok (.goto 4, 3) := by decide +kernel
theorem dX12_isOut_62 : decode cX12_isOut 62 = .ok (.iconst 0, 1) := by decide +kernel
theorem dX12_isOut_63 : decode cX12_isOut 63 = .ok (.istore_n 2, 1) := by decide +kernel
theorem dX12_isOut_64 : decode cX12_isOut 64 = .ok (.iinc 4 1, 3) := by decide +kernel
theorem dX12_isOut_67 : decode cX12_isOut 67 = .ok (.goto (-55), 3) := by decide +kernel
theorem dX12_isOut_70 : decode cX12_isOut 70 = .ok (.iinc 3 1, 3) := by decide +kernel
theorem dX12_isOut_73 : decode cX12_isOut 73 = .ok (.goto (-69), 3) := by decide +kernel
theorem dX12_isOut_76 : decode cX12_isOut 76 = .ok (.iload_n 2, 1) := by decide +kernel
theorem dX12_isOut_77 : decode cX12_isOut 77 = .ok (.ireturn, 1) := by decide +kernel
set_option maxHeartbeats 4000000 in
set_option maxRecDepth 100000 in
theorem s_X12_isOut {P : PP} {a0 : Nat} {a1 : Int32} (I : IM P a0) (hW : MW P a0) : CtrI yX12_isOut cX12_isOut 5 (some Jvm.ClassFile.FieldType.boolean) ({ frames := 1, cells := 0, slots := 0, locals := 64 } : Room) 0 0 P [.ref a0, .int a1] (fun r P2 => P = P2 ∧ (0 ≤ r.toInt ∧ r.toInt ≤ 1)) := by
  refine enI (lv := [(0, .ref a0), (1, .int a1)]) (by decide) (Nat.le_of_ble_eq_true rfl) rfl (fun E D cy C Ci0 ret => ?_)
  have ha0 := I.2.1
  have J4 : ∀ (n4 : Nat) (v4_2 : Int32) (v4_3 : Int32), (4 - v4_3.toInt).toNat < n4 → (0 ≤ v4_2.toInt ∧ v4_2.toInt ≤ 1) → (0 ≤ v4_3.toInt ∧ v4_3.toInt ≤ 4) → G E ({ frames := 1, cells := 0, slots := 0, locals := 64 } : Room) D cy 5 P 0 0 4 [(0, .ref a0), (1, .int a1), (2, .int v4_2), (3, .int v4_3)] [] := by
    intro n4
    induction n4 with
    | zero => intro v4_2 v4_3 hm4 hv4_2 hv4_3; omega
    | succ n4 ih4 =>
      intro v4_2 v4_3 hm4 hv4_2 hv4_3
      have J12 : ∀ (n12 : Nat) (v12_2 : Int32) (v12_4 : Int32), (40 - v12_4.toInt).toNat < n12 → (0 ≤ v12_2.toInt ∧ v12_2.toInt ≤ 1) → (0 ≤ v4_3.toInt ∧ v4_3.toInt ≤ 3) → (0 ≤ v12_4.toInt ∧ v12_4.toInt ≤ 40) → G E ({ frames := 1, cells := 0, slots := 0, locals := 64 } : Room) D cy 5 P 0 0 12 [(0, .ref a0), (1, .int a1), (2, .int v12_2), (3, .int v4_3), (4, .int v12_4)] [] := by
        intro n12
        induction n12 with
        | zero => intro v12_2 v12_4 hm12 hv12_2 hv12_3 hv12_4; omega
        | succ n12 ih12 =>
          intro v12_2 v12_4 hm12 hv12_2 hv12_3 hv12_4
          have J63 : ∀ (v63_s0 : Int32), (0 ≤ v4_3.toInt ∧ v4_3.toInt ≤ 3) → (0 ≤ v12_4.toInt ∧ v12_4.toInt ≤ 39) → (0 ≤ v63_s0.toInt ∧ v63_s0.toInt ≤ 1) → (∀ b, pR P a0 20 = some b → 1 ≤ (pI P b (v4_3.toInt.toNat)).toInt ∧ (pI P b (v4_3.toInt.toNat)).toInt ≤ 40) → G E ({ frames := 1, cells := 0, slots := 0, locals := 64 } : Room) D cy 5 P 0 0 63 [(0, .ref a0), (1, .int a1), (3, .int v4_3), (4, .int v12_4)] [.int v63_s0] := by
            intro v63_s0 hv63_3 hv63_4 hv63_s0 hq63_0
            obtain ⟨b64507, e64508, h64509⟩ := I.fld (ha0) 20 13 20 rfl
            have hq63_0 := hq63_0 b64507 e64508
            refine g_istore_n (lv' := [(2, .int v63_s0), (0, .ref a0), (1, .int a1), (3, .int v4_3), (4, .int v12_4)]) C dX12_isOut_63 rfl (by decide) rfl ?_
            refine s_iinc (lv0 := [(2, .int v63_s0), (0, .ref a0), (1, .int a1), (3, .int v4_3)]) (m := 1) C dX12_isOut_64 4 rfl (by decide) rfl (by decide) (by omega) (fun z64510 h64511 => ?_)
            have h64511 : z64510.toInt = v12_4.toInt + 1 := h64511
            refine g_goto C 12 dX12_isOut_67 (by decide) ?_
            refine g_lv (lv' := [(0, .ref a0), (1, .int a1), (2, .int v63_s0), (3, .int v4_3), (4, .int z64510)]) [2, 3, 1, 4, 0] rfl ?_
            exact ih12 v63_s0 z64510 (by omega) (by omega) (by omega) (by omega)
          have J58 : (0 ≤ v4_3.toInt ∧ v4_3.toInt ≤ 3) → (0 ≤ v12_4.toInt ∧ v12_4.toInt ≤ 39) → (∀ b, pR P a0 20 = some b → 1 ≤ (pI P b (v4_3.toInt.toNat)).toInt ∧ (pI P b (v4_3.toInt.toNat)).toInt ≤ 40) → G E ({ frames := 1, cells := 0, slots := 0, locals := 64 } : Room) D cy 5 P 0 0 58 [(0, .ref a0), (1, .int a1), (3, .int v4_3), (4, .int v12_4)] [] := by
            intro hv58_3 hv58_4 hq58_0
            obtain ⟨b64512, e64513, h64514⟩ := I.fld (ha0) 20 13 20 rfl
            have hq58_0 := hq58_0 b64512 e64513
            refine g_iconst (v := 1) C dX12_isOut_58 (by decide) ?_
            refine g_goto C 63 dX12_isOut_59 (by decide) ?_
            exact J63 1 (by omega) (by omega) (by decide) (fun b9 e9 => by rw [e64513] at e9; cases e9; omega)
          refine g_iload C dX12_isOut_12 4 rfl ?_
          refine g_aload_n C dX12_isOut_14 rfl 0 rfl ?_
          obtain ⟨b64515, e64516, h64517⟩ := I.fld (ha0) 20 13 20 rfl
          refine g_getR C fi_X12_69 rfl e64516 (ha0).1 (ha0).2 dX12_isOut_15 ?_
          refine g_iload_n C dX12_isOut_18 rfl 3 rfl ?_
          refine g_iald (j := (v4_3.toInt.toNat)) C h64517.1 h64517.2.1 (ix_in h64517.2.2 (by omega)) dX12_isOut_19 ?_
          have h64518 := I.arr e64516 rfl (v4_3.toInt.toNat)
          refine b_icmp_ge C 70 dX12_isOut_20 (by decide) (fun h64519 => ?_) (fun h64519 => ?_)
          · have h64519 : (pI P b64515 (v4_3.toInt.toNat)).toInt ≤ v12_4.toInt := h64519
            refine s_iinc (lv0 := [(0, .ref a0), (1, .int a1), (2, .int v12_2), (4, .int v12_4)]) (m := 1) C dX12_isOut_70 3 rfl (by decide) rfl (by decide) (by omega) (fun z64520 h64521 => ?_)
            have h64521 : z64520.toInt = v4_3.toInt + 1 := h64521
            refine g_goto C 4 dX12_isOut_73 (by decide) ?_
            refine g_lv (lv' := [(0, .ref a0), (1, .int a1), (2, .int v12_2), (3, .int z64520)]) [1, 2, 3, 0] rfl ?_
            exact ih4 v12_2 z64520 (by omega) (by omega) (by omega)
          · have h64519 : v12_4.toInt < (pI P b64515 (v4_3.toInt.toNat)).toInt := h64519
            refine g_iload_n C dX12_isOut_23 rfl 2 rfl ?_
            refine b_if_ne C 58 dX12_isOut_24 (by decide) (fun h64522 => ?_) (fun h64522 => ?_)
            · have h64522 : v12_2.toInt ≠ 0 := ti_ne h64522
              refine g_lv (lv' := [(0, .ref a0), (1, .int a1), (3, .int v4_3), (4, .int v12_4)]) [0, 1, 3, 4] rfl ?_
              exact J58 (by omega) (by omega) (fun b9 e9 => by rw [e64516] at e9; cases e9; omega)
            · have h64522 : v12_2.toInt = 0 := congrArg Int32.toInt h64522
              refine g_aload_n C dX12_isOut_27 rfl 0 rfl ?_
              obtain ⟨b64523, e64524, h64525⟩ := I.fld (ha0) 22 13 800 rfl
              refine g_getR C fi_X12_75 rfl e64524 (ha0).1 (ha0).2 dX12_isOut_28 ?_
              refine g_bipush (v := 40) C dX12_isOut_31 (by decide) ?_
              refine g_iload_n C dX12_isOut_33 rfl 3 rfl ?_
              refine s_imul C dX12_isOut_34 (by show -2147483648 ≤ 40 * v4_3.toInt ∧ 40 * v4_3.toInt ≤ 2147483647; omega) (fun z64526 h64527 => ?_)
              have h64527 : z64526.toInt = 40 * v4_3.toInt := h64527
              refine g_iload C dX12_isOut_35 4 rfl ?_
              refine s_iadd C dX12_isOut_37 (by show -2147483648 ≤ z64526.toInt + v12_4.toInt ∧ z64526.toInt + v12_4.toInt ≤ 2147483647; omega) (fun z64528 h64529 => ?_)
              have h64529 : z64528.toInt = z64526.toInt + v12_4.toInt := h64529
              refine g_iald (j := (z64528.toInt.toNat)) C h64525.1 h64525.2.1 (ix_in h64525.2.2 (by omega)) dX12_isOut_38 ?_
              have h64530 := I.arr e64524 rfl (z64528.toInt.toNat)
              refine g_iload_n C dX12_isOut_39 rfl 1 rfl ?_
              have u64532 := ti_rng a1
              refine b_icmp_eq C 58 dX12_isOut_40 (by decide) (fun h64531 => ?_) (fun h64531 => ?_)
              · have h64531 : (pI P b64523 (z64528.toInt.toNat)).toInt = a1.toInt := congrArg Int32.toInt h64531
                refine g_lv (lv' := [(0, .ref a0), (1, .int a1), (3, .int v4_3), (4, .int v12_4)]) [0, 1, 3, 4] rfl ?_
                exact J58 (by omega) (by omega) (fun b9 e9 => by rw [e64516] at e9; cases e9; omega)
              · have h64531 : (pI P b64523 (z64528.toInt.toNat)).toInt ≠ a1.toInt := ti_ne h64531
                refine g_aload_n C dX12_isOut_43 rfl 0 rfl ?_
                refine g_getR C fi_X12_75 rfl e64524 (ha0).1 (ha0).2 dX12_isOut_44 ?_
                refine g_bipush (v := 40) C dX12_isOut_47 (by decide) ?_
                refine g_iload_n C dX12_isOut_49 rfl 3 rfl ?_
                refine s_imul C dX12_isOut_50 (by show -2147483648 ≤ 40 * v4_3.toInt ∧ 40 * v4_3.toInt ≤ 2147483647; omega) (fun z64533 h64534 => ?_)
                have h64534 : z64533.toInt = 40 * v4_3.toInt := h64534
                refine g_iload C dX12_isOut_51 4 rfl ?_
                refine s_iadd C dX12_isOut_53 (by show -2147483648 ≤ z64533.toInt + v12_4.toInt ∧ z64533.toInt + v12_4.toInt ≤ 2147483647; omega) (fun z64535 h64536 => ?_)
                have h64536 : z64535.toInt = z64533.toInt + v12_4.toInt := h64536
                refine g_iald (j := (z64535.toInt.toNat)) C h64525.1 h64525.2.1 (ix_in h64525.2.2 (by omega)) dX12_isOut_54 ?_
                have h64537 := I.arr e64524 rfl (z64535.toInt.toNat)
                refine b_if_ge C 62 dX12_isOut_55 (by decide) (fun h64538 => ?_) (fun h64538 => ?_)
                · have h64538 : 0 ≤ (pI P b64523 (z64535.toInt.toNat)).toInt := h64538
                  refine g_iconst (v := 0) C dX12_isOut_62 (by decide) ?_
                  refine g_lv (lv' := [(0, .ref a0), (1, .int a1), (3, .int v4_3), (4, .int v12_4)]) [0, 1, 3, 4] rfl ?_
                  exact J63 0 (by omega) (by omega) (by decide) (fun b9 e9 => by rw [e64516] at e9; cases e9; omega)
                · have h64538 : (pI P b64523 (z64535.toInt.toNat)).toInt < 0 := h64538
                  refine g_lv (lv' := [(0, .ref a0), (1, .int a1), (3, .int v4_3), (4, .int v12_4)]) [0, 1, 3, 4] rfl ?_
                  exact J58 (by omega) (by omega) (fun b9 e9 => by rw [e64516] at e9; cases e9; omega)
      refine g_iload_n C dX12_isOut_4 rfl 3 rfl ?_
      refine g_iconst (v := 4) C dX12_isOut_5 (by decide) ?_
      refine b_icmp_ge C 76 dX12_isOut_6 (by decide) (fun h64539 => ?_) (fun h64539 => ?_)
      · have h64539 : 4 ≤ v4_3.toInt := h64539
        refine g_iload_n C dX12_isOut_76 rfl 2 rfl ?_
        exact ret _ _ _ _ _ _ dX12_isOut_77 (nar_b (b01 (by omega))) (by decide) (by decide) ⟨rfl, (by omega)⟩
      · have h64539 : v4_3.toInt < 4 := h64539
        refine g_iconst (v := 0) C dX12_isOut_9 (by decide) ?_
        refine g_istore (lv' := [(4, .int 0), (0, .ref a0), (1, .int a1), (2, .int v4_2), (3, .int v4_3)]) C dX12_isOut_10 (by decide) rfl ?_
        refine g_lv (lv' := [(0, .ref a0), (1, .int a1), (2, .int v4_2), (3, .int v4_3), (4, .int 0)]) [1, 2, 3, 4, 0] rfl ?_
        exact J12 _ v4_2 0 (Nat.lt_succ_self _) (by omega) (by omega) (by decide)
  refine g_iconst (v := 0) C dX12_isOut_0 (by decide) ?_
  refine g_istore_n (lv' := [(2, .int 0), (0, .ref a0), (1, .int a1)]) C dX12_isOut_1 rfl (by decide) rfl ?_
  refine g_iconst (v := 0) C dX12_isOut_2 (by decide) ?_
  refine g_istore_n (lv' := [(3, .int 0), (2, .int 0), (0, .ref a0), (1, .int a1)]) C dX12_isOut_3 rfl (by decide) rfl ?_
  refine g_lv (lv' := [(0, .ref a0), (1, .int a1), (2, .int 0), (3, .int 0)]) [2, 3, 1, 0] rfl ?_
  exact J4 _ 0 0 (Nat.lt_succ_self _) (by decide) (by decide)
theorem dX12_draw_18 : decode cX12_draw 18 = .ok (.ifCond .eq 10, 3) := by decide +kernel
theorem dX12_draw_28 : decode cX12_draw 28 = .ok (.aload_n 0, 1) := by decide +kernel
theorem dX12_draw_29 : decode cX12_draw 29 = .ok (.invokevirtual 199, 3) := by decide +kernel
theorem dX12_draw_32 : decode cX12_draw 32 = .ok (.aload_n 0, 1) := by decide +kernel
theorem dX12_draw_33 : decode cX12_draw 33 = .ok (.iconst 2, 1) := by decide +kernel
theorem dX12_draw_34 : decode cX12_draw 34 = .ok (.invokevirtual 182, 3) := by decide +kernel
set_option maxHeartbeats 4000000 in
set_option maxRecDepth 100000 in
theorem s_X12_forgetsDraw {P : PP} {a0 : Nat} {a1 : Int32} (I : IM P a0) (ha1 : 0 ≤ a1.toInt ∧ a1.toInt ≤ 2) (hW : MW P a0) : CtrV yX12_forgetsDraw cX12_forgetsDraw 3 none ({ frames := 1, cells := 0, slots := 0, locals := 64 } : Room) 0 0 P [.ref a0, .int a1] (fun P2 => IM P2 a0 ∧ EM [12, 13, 14, 15, 17] a0 P P2 ∧ MW P2 a0 ∧ (∀ b, pR P a0 14 = some b → (pI P2 b (a1.toInt.toNat)).toInt = 1)) := by
  refine enV (lv := [(0, .ref a0), (1, .int a1)]) (by decide) (Nat.le_of_ble_eq_true rfl) rfl (fun E D cy C Ci0 ret => ?_)
  have ha0 := I.2.1
  have J2 : ∀ (n2 : Nat) (P2 : PP) (v2_2 : Int32), (21 - v2_2.toInt).toNat < n2 → (IM P2 a0) → (EM [12, 13, 14, 15, 17] a0 P P2) → (MW P2 a0) → (0 ≤ v2_2.toInt ∧ v2_2.toInt ≤ 21) → G E ({ frames := 1, cells := 0, slots := 0, locals := 64 } : Room) D cy 3 P2 0 0 2 [(0, .ref a0), (1, .int a1), (2, .int v2_2)] [] := by
    intro n2
    induction n2 with
    | zero => intro P2 v2_2 hm2 I2 X2 W2 hv2_2; omega
    | succ n2 ih2 =>
      intro P2 v2_2 hm2 I2 X2 W2 hv2_2
      have h64918 := X2.at ha0
      refine g_iload_n C dX12_forgetsDraw_2 rfl 2 rfl ?_
      refine g_bipush (v := 21) C dX12_forgetsDraw_3 (by decide) ?_
      refine b_icmp_ge C 26 dX12_forgetsDraw_5 (by decide) (fun h64919 => ?_) (fun h64919 => ?_)
      · have h64919 : 21 ≤ v2_2.toInt := h64919
        refine g_aload_n C dX12_forgetsDraw_26 rfl 0 rfl ?_
        obtain ⟨b64920, e64921, h64922⟩ := I2.fld (h64918) 13 13 3 rfl
        refine g_getR C fi_X12_54 rfl e64921 (h64918).1 (h64918).2 dX12_forgetsDraw_27 ?_
        refine g_iload_n C dX12_forgetsDraw_30 rfl 1 rfl ?_
        refine g_iconst (v := 0) C dX12_forgetsDraw_31 (by decide) ?_
        refine g_iast (j := (a1.toInt.toNat)) C h64922.1 h64922.2.1 (ix_in h64922.2.2 (by omega)) dX12_forgetsDraw_32 ?_
        refine gqW (ks := [13]) (I2.setA e64921 h64922 (by decide) (arOk.none rfl)) (EM.setA I2 e64921 rfl (by decide)) (fun Y64923 Iy64924 Xy64925 w64926  => ?_)
        have w64926 : (pI Y64923 b64920 (a1.toInt.toNat)).toInt = 0 := w64926
        have W64927 := W2.keep I2 Xy64925 (by decide) (by decide) (by decide)
        have Xz64928 : EM [12, 13, 14, 15, 17] a0 P Y64923 := EM.tr ha0 X2 (Xy64925.mono (by decide))
        have e64929 := Xy64925.ref h64918 (by decide) e64921
        have h64930 := Xy64925.at h64918
        have h64931 := Xy64925.ar h64922
        refine g_aload_n C dX12_forgetsDraw_33 rfl 0 rfl ?_
        obtain ⟨b64932, e64933, h64934⟩ := Iy64924.fld (h64930) 14 13 3 rfl
        refine g_getR C fi_X12_57 rfl e64933 (h64930).1 (h64930).2 dX12_forgetsDraw_34 ?_
        refine g_iload_n C dX12_forgetsDraw_37 rfl 1 rfl ?_
        refine g_iconst (v := 1) C dX12_forgetsDraw_38 (by decide) ?_
        refine g_iast (j := (a1.toInt.toNat)) C h64934.1 h64934.2.1 (ix_in h64934.2.2 (by omega)) dX12_forgetsDraw_39 ?_
        refine gqX (ks := [14]) (W := (fun P => MW P a0)) (Iy64924.setA e64933 h64934 (by decide) (arOk.of rfl (by decide))) (EM.setA Iy64924 e64933 rfl (by decide)) (W64927.set14 Iy64924 e64933 (by first | exact Or.inl (by omega) | exact Or.inr (by decide))) (fun Y64935 Iy64936 Xy64937 w64938 W64939 => ?_)
        have w64938 : (pI Y64935 b64932 (a1.toInt.toNat)).toInt = 1 := w64938
        have q64940 := Xy64937.keepA e64929 (by decide) rfl (a1.toInt.toNat)
        have Xz64941 : EM [12, 13, 14, 15, 17] a0 P Y64935 := EM.tr ha0 Xz64928 (Xy64937.mono (by decide))
        have e64942 := Xy64937.ref h64930 (by decide) e64929
        have e64943 := Xy64937.ref h64930 (by decide) e64933
        have h64944 := Xy64937.at h64930
        have h64945 := Xy64937.ar h64931
        have h64946 := Xy64937.ar h64934
        refine g_aload_n C dX12_forgetsDraw_40 rfl 0 rfl ?_
        obtain ⟨b64947, e64948, h64949⟩ := Iy64936.fld (h64944) 15 13 3 rfl
        refine g_getR C fi_X12_60 rfl e64948 (h64944).1 (h64944).2 dX12_forgetsDraw_41 ?_
        refine g_iload_n C dX12_forgetsDraw_44 rfl 1 rfl ?_
        refine g_iconst (v := 0) C dX12_forgetsDraw_45 (by decide) ?_
        refine g_iast (j := (a1.toInt.toNat)) C h64949.1 h64949.2.1 (ix_in h64949.2.2 (by omega)) dX12_forgetsDraw_46 ?_
        refine gqW (ks := [15]) (Iy64936.setA e64948 h64949 (by decide) (arOk.of rfl (by decide))) (EM.setA Iy64936 e64948 rfl (by decide)) (fun Y64950 Iy64951 Xy64952 w64953  => ?_)
        have w64953 : (pI Y64950 b64947 (a1.toInt.toNat)).toInt = 0 := w64953
        have q64954 := Xy64952.keepA e64942 (by decide) rfl (a1.toInt.toNat)
        have q64955 := Xy64952.keepA e64943 (by decide) rfl (a1.toInt.toNat)
        have W64956 := W64939.keep Iy64936 Xy64952 (by decide) (by decide) (by decide)
        have Xz64957 : EM [12, 13, 14, 15, 17] a0 P Y64950 := EM.tr ha0 Xz64941 (Xy64952.mono (by decide))
        have e64958 := Xy64952.ref h64944 (by decide) e64942
        have e64959 := Xy64952.ref h64944 (by decide) e64943
        have e64960 := Xy64952.ref h64944 (by decide) e64948
        have h64961 := Xy64952.at h64944
        have h64962 := Xy64952.ar h64945
        have h64963 := Xy64952.ar h64946
        have h64964 := Xy64952.ar h64949
        refine g_aload_n C dX12_forgetsDraw_47 rfl 0 rfl ?_
        obtain ⟨b64965, e64966, h64967⟩ := Iy64951.fld (h64961) 17 13 3 rfl
        refine g_getR C fi_X12_66 rfl e64966 (h64961).1 (h64961).2 dX12_forgetsDraw_48 ?_
        refine g_iload_n C dX12_forgetsDraw_51 rfl 1 rfl ?_
        refine g_iconst (v := 0) C dX12_forgetsDraw_52 (by decide) ?_
        refine g_iast (j := (a1.toInt.toNat)) C h64967.1 h64967.2.1 (ix_in h64967.2.2 (by omega)) dX12_forgetsDraw_53 ?_
        refine gqW (ks := [17]) (Iy64951.setA e64966 h64967 (by decide) (arOk.none rfl)) (EM.setA Iy64951 e64966 rfl (by decide)) (fun Y64968 Iy64969 Xy64970 w64971  => ?_)
        have w64971 : (pI Y64968 b64965 (a1.toInt.toNat)).toInt = 0 := w64971
        have q64972 := Xy64970.keepA e64958 (by decide) rfl (a1.toInt.toNat)
        have q64973 := Xy64970.keepA e64959 (by decide) rfl (a1.toInt.toNat)
        have q64974 := Xy64970.keepA e64960 (by decide) rfl (a1.toInt.toNat)
        have W64975 := W64956.keep Iy64951 Xy64970 (by decide) (by decide) (by decide)
        have Xz64976 : EM [12, 13, 14, 15, 17] a0 P Y64968 := EM.tr ha0 Xz64957 (Xy64970.mono (by decide))
        have e64977 := Xy64970.ref h64961 (by decide) e64958
        have e64978 := Xy64970.ref h64961 (by decide) e64959
        have e64979 := Xy64970.ref h64961 (by decide) e64960
        have e64980 := Xy64970.ref h64961 (by decide) e64966
        have h64981 := Xy64970.at h64961
        have h64982 := Xy64970.ar h64962
        have h64983 := Xy64970.ar h64963
        have h64984 := Xy64970.ar h64964
        have h64985 := Xy64970.ar h64967
        exact ret _ _ _ _ _ dX12_forgetsDraw_54 (by decide) (by decide) ⟨Iy64969, Xz64976, W64975, (fun b9 e9 => by have e8 := EM.ref Xz64976 ha0 (by decide) e9; rw [e64978] at e8; cases e8; show (pI Y64968 b64932 (a1.toInt.toNat)).toInt = 1; omega)⟩
      · have h64919 : v2_2.toInt < 21 := h64919
        refine g_aload_n C dX12_forgetsDraw_8 rfl 0 rfl ?_
        obtain ⟨b64986, e64987, h64988⟩ := I2.fld (h64918) 12 13 63 rfl
        refine g_getR C fi_X12_51 rfl e64987 (h64918).1 (h64918).2 dX12_forgetsDraw_9 ?_
        refine g_bipush (v := 21) C dX12_forgetsDraw_12 (by decide) ?_
        refine g_iload_n C dX12_forgetsDraw_14 rfl 1 rfl ?_
        refine s_imul C dX12_forgetsDraw_15 (by show -2147483648 ≤ 21 * a1.toInt ∧ 21 * a1.toInt ≤ 2147483647; omega) (fun z64989 h64990 => ?_)
        have h64990 : z64989.toInt = 21 * a1.toInt := h64990
        refine g_iload_n C dX12_forgetsDraw_16 rfl 2 rfl ?_
        refine s_iadd C dX12_forgetsDraw_17 (by show -2147483648 ≤ z64989.toInt + v2_2.toInt ∧ z64989.toInt + v2_2.toInt ≤ 2147483647; omega) (fun z64991 h64992 => ?_)
        have h64992 : z64991.toInt = z64989.toInt + v2_2.toInt := h64992
        refine g_iconst (v := (-1)) C dX12_forgetsDraw_18 (by decide) ?_
        refine g_iast (j := (z64991.toInt.toNat)) C h64988.1 h64988.2.1 (ix_in h64988.2.2 (by omega)) dX12_forgetsDraw_19 ?_
        refine gqW (ks := [12]) (I2.setA e64987 h64988 (by decide) (arOk.of rfl (by decide))) (EM.setA I2 e64987 rfl (by decide)) (fun Y64993 Iy64994 Xy64995 w64996  => ?_)
        have w64996 : (pI Y64993 b64986 (z64991.toInt.toNat)).toInt = (-1) := w64996
        have W64997 := W2.keep I2 Xy64995 (by decide) (by decide) (by decide)
        have Xz64998 : EM [12, 13, 14, 15, 17] a0 P Y64993 := EM.tr ha0 X2 (Xy64995.mono (by decide))
        have e64999 := Xy64995.ref h64918 (by decide) e64987
        have h65000 := Xy64995.at h64918
        have h65001 := Xy64995.ar h64988
        refine s_iinc (lv0 := [(0, .ref a0), (1, .int a1)]) (m := 1) C dX12_forgetsDraw_20 2 rfl (by decide) rfl (by decide) (by omega) (fun z65002 h65003 => ?_)
        have h65003 : z65002.toInt = v2_2.toInt + 1 := h65003
        refine g_goto C 2 dX12_forgetsDraw_23 (by decide) ?_
        refine g_lv (lv' := [(0, .ref a0), (1, .int a1), (2, .int z65002)]) [1, 2, 0] rfl ?_
        exact ih2 Y64993 z65002 (by omega) Iy64994 Xz64998 W64997 (by omega)
  refine g_iconst (v := 0) C dX12_forgetsDraw_0 (by decide) ?_
  refine g_istore_n (lv' := [(2, .int 0), (0, .ref a0), (1, .int a1)]) C dX12_forgetsDraw_1 rfl (by decide) rfl ?_
  refine g_lv (lv' := [(0, .ref a0), (1, .int a1), (2, .int 0)]) [1, 2, 0] rfl ?_
  exact J2 _ P 0 (Nat.lt_succ_self _) I EM.rf hW (by decide)
theorem dX12_draw_21 : decode cX12_draw 21 = .ok (.aload_n 0, 1) := by decide +kernel
theorem dX12_draw_22 : decode cX12_draw 22 = .ok (.iconst 0, 1) := by decide +kernel
theorem dX12_draw_23 : decode cX12_draw 23 = .ok (.putfield 11, 3) := by decide +kernel
theorem dX12_draw_26 : decode cX12_draw 26 = .ok (.iconst (-1), 1) := by decide +kernel
theorem dX12_draw_27 : decode cX12_draw 27 = .ok (.ireturn, 1) := by decide +kernel
theorem dX12_draw_37 : decode cX12_draw 37 = .ok (.aload_n 0, 1) := by decide +kernel
theorem dX12_draw_38 : decode cX12_draw 38 = .ok (.aload_n 0, 1) := by decide +kernel
theorem dX12_draw_39 : decode cX12_draw 39 = .ok (.getfield 45, 3) := by decide +kernel
theorem dX12_draw_42 : decode cX12_draw 42 = .ok (.iload_n 1, 1) := by decide +kernel
theorem dX12_draw_43 : decode cX12_draw 43 = .ok (.iaload, 1) := by decide +kernel
theorem dX12_draw_44 : decode cX12_draw 44 = .ok (.putfield 202, 3) := by decide +kernel
theorem dX12_draw_47 : decode cX12_draw 47 = .ok (.aload_n 0, 1) := by decide +kernel
theorem dX12_draw_48 : decode cX12_draw 48 = .ok (.getfield 162, 3) := by decide +kernel
theorem dX12_draw_51 : decode cX12_draw 51 = .ok (.ifCond .ne 22, 3) := by decide +kernel
theorem dX12_draw_54 : decode cX12_draw 54 = .ok (.aload_n 0, 1) := by decide +kernel
theorem dX12_draw_55 : decode cX12_draw 55 = .ok (.getfield 24, 3) := by decide +kernel
theorem dX12_draw_58 : decode cX12_draw 58 = .ok (.aload_n 0, 1) := by decide +kernel
theorem dX12_draw_59 : decode cX12_draw 59 = .ok (.getfield 159, 3) := by decide +kernel
theorem dX12_draw_62 : decode cX12_draw 62 = .ok (.iaload, 1) := by decide +kernel
theorem dX12_draw_63 : decode cX12_draw 63 = .ok (.ifCond .eq 10, 3) := by decide +kernel
theorem dX12_draw_66 : decode cX12_draw 66 = .ok (.aload_n 0, 1) := by decide +kernel
theorem dX12_draw_67 : decode cX12_draw 67 = .ok (.invokevirtual 205, 3) := by decide +kernel
theorem dX12_readLine_0 : decode cX12_readLine 0 = .ok (.aload_n 0, 1) := by decide +kernel
theorem dX12_readLine_1 : decode cX12_readLine 1 = .ok (.iconst 1, 1) := by decide +kernel
theorem dX12_readLine_2 : decode cX12_readLine 2 = .ok (.invokevirtual 172, 3) := by decide +kernel
theorem dX12_isWord_0 : decode cX12_isWord 0 = .ok (.aload_n 0, 1) := by decide +kernel
theorem dX12_isWord_1 : decode cX12_isWord 1 = .ok (.getfield 162, 3) := by decide +kernel
theorem dX12_isWord_4 : decode cX12_isWord 4 = .ok (.ifCond .ne 39, 3) := by decide +kernel
theorem dX12_isWord_7 : decode cX12_isWord 7 = .ok (.aload_n 0, 1) := by decide +kernel
theorem dX12_isWord_8 : decode cX12_isWord 8 = .ok (.getfield 24, 3) := by decide +kernel
theorem dX12_isWord_11 : decode cX12_isWord 11 = .ok (.aload_n 0, 1) := by decide +kernel
theorem dX12_isWord_12 : decode cX12_isWord 12 = .ok (.getfield 159, 3) := by decide +kernel
theorem dX12_isWord_15 : decode cX12_isWord 15 = .ok (.iaload, 1) := by decide +kernel
theorem dX12_isWord_16 : decode cX12_isWord 16 = .ok (.iconst 1, 1) := by decide +kernel
theorem dX12_isWord_17 : decode cX12_isWord 17 = .ok (.if_icmp .ne 26, 3) := by decide +kernel
theorem dX12_isWord_20 : decode cX12_isWord 20 = .ok (.aload_n 0, 1) := by decide +kernel
theorem dX12_isWord_21 : decode cX12_isWord 21 = .ok (.getfield 30, 3) := by decide +kernel
theorem dX12_isWord_24 : decode cX12_isWord 24 = .ok (.aload_n 0, 1) := by decide +kernel
theorem dX12_isWord_25 : decode cX12_isWord 25 = .ok (.getfield 159, 3) := by decide +kernel
theorem dX12_isWord_28 : decode cX12_isWord 28 = .ok (.laload, 1) := by decide +kernel
theorem dX12_isWord_29 : decode cX12_isWord 29 = .ok (.aload_n 0, 1) := by decide +kernel
theorem dX12_isWord_30 : decode cX12_isWord 30 = .ok (.getfield 42, 3) := by decide +kernel
theorem dX12_isWord_33 : decode cX12_isWord 33 = .ok (.iload_n 1, 1) := by decide +kernel
theorem dX12_isWord_34 : decode cX12_isWord 34 = .ok (.laload, 1) := by decide +kernel
theorem dX12_isWord_35 : decode cX12_isWord 35 = .ok (.lcmp, 1) := by decide +kernel
theorem dX12_isWord_36 : decode cX12_isWord 36 = .ok (.ifCond .ne 7, 3) := by decide +kernel
theorem dX12_isWord_39 : decode cX12_isWord 39 = .ok (.iconst 1, 1) := by decide +kernel
theorem dX12_isWord_40 : decode cX12_isWord 40 = .ok (.goto 4, 3) := by decide +kernel
theorem dX12_isWord_43 : decode cX12_isWord 43 = .ok (.iconst 0, 1) := by decide +kernel
theorem dX12_isWord_44 : decode cX12_isWord 44 = .ok (.ireturn, 1) := by decide +kernel
set_option maxHeartbeats 4000000 in
set_option maxRecDepth 100000 in
theorem s_X12_isWord {P : PP} {a0 : Nat} {a1 : Int32} (I : IM P a0) (ha1 : 0 ≤ a1.toInt ∧ a1.toInt ≤ 3) (hW : MW P a0) : CtrI yX12_isWord cX12_isWord 2 (some Jvm.ClassFile.FieldType.boolean) ({ frames := 1, cells := 0, slots := 0, locals := 64 } : Room) 0 0 P [.ref a0, .int a1] (fun r P2 => P = P2 ∧ (0 ≤ r.toInt ∧ r.toInt ≤ 1) ∧ ((r.toInt = 0 ∨ ((pI P2 a0 8).toInt = 0 ∧ (pI P2 a0 7).toInt ≤ 999)) ∧ ∀ b4 b6 b9, pR P2 a0 4 = some b4 → pR P2 a0 6 = some b6 → pR P2 a0 9 = some b9 → r.toInt = iwA P2 a0 b4 b6 b9 a1.toInt.toNat)) := by
  refine enI (lv := [(0, .ref a0), (1, .int a1)]) (by decide) (Nat.le_of_ble_eq_true rfl) rfl (fun E D cy C Ci0 ret => ?_)
  have ha0 := I.2.1
  have h65126 := I.rg ha0 7 rfl
  have h65127 := I.rg ha0 8 rfl
  refine g_aload_n C dX12_isWord_0 rfl 0 rfl ?_
  refine g_getI C fi_X12_162 (by decide) (ha0).1 (ha0).2 dX12_isWord_1 ?_
  refine b_if_ne C 43 dX12_isWord_4 (by decide) (fun h65128 => ?_) (fun h65128 => ?_)
  · have h65128 : (pI P a0 8).toInt ≠ 0 := ti_ne h65128
    refine g_iconst (v := 0) C dX12_isWord_43 (by decide) ?_
    obtain ⟨b65129, e65130, h65131⟩ := I.fld (ha0) 4 13 1002 rfl
    obtain ⟨b65132, e65133, h65134⟩ := I.fld (ha0) 6 14 1002 rfl
    obtain ⟨b65135, e65136, h65137⟩ := I.fld (ha0) 9 14 4 rfl
    exact ret _ _ _ _ _ _ dX12_isWord_44 rfl (by decide) (by decide) ⟨rfl, (by decide), ⟨Or.inl rfl, fun b49 b69 b99 e49 e69 e99 => by rw [e65130] at e49; cases e49; rw [e65133] at e69; cases e69; rw [e65136] at e99; cases e99; show (0 : Int) = iwA P a0 b65129 b65132 b65135 a1.toInt.toNat; unfold iwA; split <;> rename_i h9 <;> first | rfl | (exfalso; have h7 := congrArg Int64.toInt h9.2.2; have h6 := h9.1; have h5 := h9.2.1; omega)⟩⟩
  · have h65128 : (pI P a0 8).toInt = 0 := congrArg Int32.toInt h65128
    refine g_aload_n C dX12_isWord_7 rfl 0 rfl ?_
    obtain ⟨b65138, e65139, h65140⟩ := I.fld (ha0) 4 13 1002 rfl
    refine g_getR C fi_X12_24 rfl e65139 (ha0).1 (ha0).2 dX12_isWord_8 ?_
    refine g_aload_n C dX12_isWord_11 rfl 0 rfl ?_
    refine g_getI C fi_X12_159 (by decide) (ha0).1 (ha0).2 dX12_isWord_12 ?_
    refine g_iald (j := ((pI P a0 7).toInt.toNat)) C h65140.1 h65140.2.1 (ix_in h65140.2.2 (by omega)) dX12_isWord_15 ?_
    have h65141 := I.arr e65139 rfl ((pI P a0 7).toInt.toNat)
    refine g_iconst (v := 1) C dX12_isWord_16 (by decide) ?_
    have hs65142 := I.s1000 e65139 (j := (pI P a0 7).toInt) (by omega)
    refine b_icmp_ne C 43 dX12_isWord_17 (by decide) (fun h65143 => ?_) (fun h65143 => ?_)
    · have h65143 : (pI P b65138 ((pI P a0 7).toInt.toNat)).toInt ≠ 1 := ti_ne h65143
      refine g_iconst (v := 0) C dX12_isWord_43 (by decide) ?_
      obtain ⟨b65144, e65145, h65146⟩ := I.fld (ha0) 6 14 1002 rfl
      obtain ⟨b65147, e65148, h65149⟩ := I.fld (ha0) 9 14 4 rfl
      exact ret _ _ _ _ _ _ dX12_isWord_44 rfl (by decide) (by decide) ⟨rfl, (by decide), ⟨Or.inl rfl, fun b49 b69 b99 e49 e69 e99 => by rw [e65139] at e49; cases e49; rw [e65145] at e69; cases e69; rw [e65148] at e99; cases e99; show (0 : Int) = iwA P a0 b65138 b65144 b65147 a1.toInt.toNat; unfold iwA; split <;> rename_i h9 <;> first | rfl | (exfalso; have h7 := congrArg Int64.toInt h9.2.2; have h6 := h9.1; have h5 := h9.2.1; omega)⟩⟩
    · have h65143 : (pI P b65138 ((pI P a0 7).toInt.toNat)).toInt = 1 := congrArg Int32.toInt h65143
      refine g_aload_n C dX12_isWord_20 rfl 0 rfl ?_
      obtain ⟨b65150, e65151, h65152⟩ := I.fld (ha0) 6 14 1002 rfl
      refine g_getR C fi_X12_30 rfl e65151 (ha0).1 (ha0).2 dX12_isWord_21 ?_
      refine g_aload_n C dX12_isWord_24 rfl 0 rfl ?_
      refine g_getI C fi_X12_159 (by decide) (ha0).1 (ha0).2 dX12_isWord_25 ?_
      refine g_lald (j := ((pI P a0 7).toInt.toNat)) C h65152.1 h65152.2.1 (ix_in h65152.2.2 (by omega)) dX12_isWord_28 ?_
      refine g_topl (fun l65153 h65154 => ?_)
      have hl65155 : l65153.toInt = (pJ P b65150 ((pI P a0 7).toInt.toNat)).toInt := congrArg Int64.toInt h65154
      refine g_aload_n C dX12_isWord_29 rfl 0 rfl ?_
      obtain ⟨b65156, e65157, h65158⟩ := I.fld (ha0) 9 14 4 rfl
      refine g_getR C fi_X12_42 rfl e65157 (ha0).1 (ha0).2 dX12_isWord_30 ?_
      refine g_iload_n C dX12_isWord_33 rfl 1 rfl ?_
      refine g_lald (j := (a1.toInt.toNat)) C h65158.1 h65158.2.1 (ix_in h65158.2.2 (by omega)) dX12_isWord_34 ?_
      refine g_topl (fun l65159 h65160 => ?_)
      have hl65161 : l65159.toInt = (pJ P b65156 (a1.toInt.toNat)).toInt := congrArg Int64.toInt h65160
      refine g_lcmp C dX12_isWord_35 ?_
      refine g_topi (fun z65162 h65163 => ?_)
      have hc65164 := cmp_or h65163
      have h65165 := cmp_rg h65163
      refine b_if_ne C 43 dX12_isWord_36 (by decide) (fun h65166 => ?_) (fun h65166 => ?_)
      · have h65166 : z65162.toInt ≠ 0 := ti_ne h65166
        refine g_iconst (v := 0) C dX12_isWord_43 (by decide) ?_
        exact ret _ _ _ _ _ _ dX12_isWord_44 rfl (by decide) (by decide) ⟨rfl, (by decide), ⟨Or.inl rfl, fun b49 b69 b99 e49 e69 e99 => by rw [e65139] at e49; cases e49; rw [e65151] at e69; cases e69; rw [e65157] at e99; cases e99; show (0 : Int) = iwA P a0 b65138 b65150 b65156 a1.toInt.toNat; unfold iwA; split <;> rename_i h9 <;> first | rfl | (exfalso; have h7 := congrArg Int64.toInt h9.2.2; have h6 := h9.1; have h5 := h9.2.1; omega)⟩⟩
      · have h65166 : z65162.toInt = 0 := congrArg Int32.toInt h65166
        refine g_iconst (v := 1) C dX12_isWord_39 (by decide) ?_
        refine g_goto C 44 dX12_isWord_40 (by decide) ?_
        exact ret _ _ _ _ _ _ dX12_isWord_44 rfl (by decide) (by decide) ⟨rfl, (by decide), ⟨Or.inr ⟨by omega, by omega⟩, fun b49 b69 b99 e49 e69 e99 => by rw [e65139] at e49; cases e49; rw [e65151] at e69; cases e69; rw [e65157] at e99; cases e99; show (1 : Int) = iwA P a0 b65138 b65150 b65156 a1.toInt.toNat; unfold iwA; split <;> rename_i h9 <;> first | rfl | exact absurd ⟨by omega, by omega, Int64.toInt_inj.mp (by omega)⟩ h9⟩⟩
theorem dX12_readLine_5 : decode cX12_readLine 5 = .ok (.ifCond .eq 12, 3) := by decide +kernel
theorem dX12_readLine_8 : decode cX12_readLine 8 = .ok (.aload_n 0, 1) := by decide +kernel
theorem dX12_readLine_9 : decode cX12_readLine 9 = .ok (.getfield 54, 3) := by decide +kernel
theorem dX12_readLine_12 : decode cX12_readLine 12 = .ok (.iconst 2, 1) := by decide +kernel
theorem dX12_readLine_13 : decode cX12_readLine 13 = .ok (.iaload, 1) := by decide +kernel
theorem dX12_readLine_14 : decode cX12_readLine 14 = .ok (.ifCond .gt 20, 3) := by decide +kernel
theorem dX12_readLine_17 : decode cX12_readLine 17 = .ok (.aload_n 0, 1) := by decide +kernel
theorem dX12_readLine_18 : decode cX12_readLine 18 = .ok (.iconst 3, 1) := by decide +kernel
theorem dX12_readLine_19 : decode cX12_readLine 19 = .ok (.invokevirtual 172, 3) := by decide +kernel
theorem dX12_readLine_22 : decode cX12_readLine 22 = .ok (.ifCond .eq 16, 3) := by decide +kernel
theorem dX12_readLine_25 : decode cX12_readLine 25 = .ok (.aload_n 0, 1) := by decide +kernel
theorem dX12_readLine_26 : decode cX12_readLine 26 = .ok (.getfield 66, 3) := by decide +kernel
theorem dX12_readLine_29 : decode cX12_readLine 29 = .ok (.iconst 2, 1) := by decide +kernel
theorem dX12_readLine_30 : decode cX12_readLine 30 = .ok (.iaload, 1) := by decide +kernel
theorem dX12_readLine_31 : decode cX12_readLine 31 = .ok (.ifCond .le 7, 3) := by decide +kernel
theorem dX12_readLine_34 : decode cX12_readLine 34 = .ok (.iconst 1, 1) := by decide +kernel
theorem dX12_readLine_35 : decode cX12_readLine 35 = .ok (.goto 4, 3) := by decide +kernel
theorem dX12_readLine_38 : decode cX12_readLine 38 = .ok (.iconst 0, 1) := by decide +kernel
theorem dX12_readLine_39 : decode cX12_readLine 39 = .ok (.istore_n 1, 1) := by decide +kernel
theorem dX12_readLine_40 : decode cX12_readLine 40 = .ok (.aload_n 0, 1) := by decide +kernel
theorem dX12_readLine_41 : decode cX12_readLine 41 = .ok (.iconst 0, 1) := by decide +kernel
theorem dX12_readLine_42 : decode cX12_readLine 42 = .ok (.invokevirtual 172, 3) := by decide +kernel
theorem dX12_readLine_45 : decode cX12_readLine 45 = .ok (.ifCond .ne 35, 3) := by decide +kernel
theorem dX12_readLine_48 : decode cX12_readLine 48 = .ok (.aload_n 0, 1) := by decide +kernel
theorem dX12_readLine_49 : decode cX12_readLine 49 = .ok (.iconst 1, 1) := by decide +kernel
theorem dX12_readLine_50 : decode cX12_readLine 50 = .ok (.invokevirtual 172, 3) := by decide +kernel
theorem dX12_readLine_53 : decode cX12_readLine 53 = .ok (.ifCond .ne 27, 3) := by decide +kernel
theorem dX12_readLine_56 : decode cX12_readLine 56 = .ok (.aload_n 0, 1) := by decide +kernel
theorem dX12_readLine_57 : decode cX12_readLine 57 = .ok (.iconst 2, 1) := by decide +kernel
theorem dX12_readLine_58 : decode cX12_readLine 58 = .ok (.invokevirtual 172, 3) := by decide +kernel
theorem dX12_readLine_61 : decode cX12_readLine 61 = .ok (.ifCond .ne 19, 3) := by decide +kernel
theorem dX12_readLine_64 : decode cX12_readLine 64 = .ok (.aload_n 0, 1) := by decide +kernel
theorem dX12_readLine_65 : decode cX12_readLine 65 = .ok (.iconst 3, 1) := by decide +kernel
theorem dX12_readLine_66 : decode cX12_readLine 66 = .ok (.invokevirtual 172, 3) := by decide +kernel
theorem dX12_readLine_69 : decode cX12_readLine 69 = .ok (.ifCond .ne 11, 3) := by decide +kernel
theorem dX12_readLine_72 : decode cX12_readLine 72 = .ok (.aload_n 0, 1) := by decide +kernel
theorem dX12_readLine_73 : decode cX12_readLine 73 = .ok (.iconst 1, 1) := by decide +kernel
theorem dX12_readLine_74 : decode cX12_readLine 74 = .ok (.invokevirtual 168, 3) := by decide +kernel
theorem dX12_wrong_0 : decode cX12_wrong 0 = .ok (.aload_n 0, 1) := by decide +kernel
theorem dX12_wrong_1 : decode cX12_wrong 1 = .ok (.getfield 162, 3) := by decide +kernel
theorem dX12_wrong_4 : decode cX12_wrong 4 = .ok (.ifCond .ne 21, 3) := by decide +kernel
theorem dX12_wrong_7 : decode cX12_wrong 7 = .ok (.aload_n 0, 1) := by decide +kernel
theorem dX12_wrong_8 : decode cX12_wrong 8 = .ok (.iload_n 1, 1) := by decide +kernel
theorem dX12_wrong_9 : decode cX12_wrong 9 = .ok (.bipush 16, 2) := by decide +kernel
theorem dX12_wrong_11 : decode cX12_wrong 11 = .ok (.aload_n 0, 1) := by decide +kernel
theorem dX12_wrong_12 : decode cX12_wrong 12 = .ok (.getfield 27, 3) := by decide +kernel
theorem dX12_wrong_15 : decode cX12_wrong 15 = .ok (.aload_n 0, 1) := by decide +kernel
theorem dX12_wrong_16 : decode cX12_wrong 16 = .ok (.getfield 159, 3) := by decide +kernel
theorem dX12_wrong_19 : decode cX12_wrong 19 = .ok (.iaload, 1) := by decide +kernel
theorem dX12_wrong_20 : decode cX12_wrong 20 = .ok (.imul, 1) := by decide +kernel
theorem dX12_wrong_21 : decode cX12_wrong 21 = .ok (.iadd, 1) := by decide +kernel
theorem dX12_wrong_22 : decode cX12_wrong 22 = .ok (.putfield 162, 3) := by decide +kernel
theorem dX12_wrong_25 : decode cX12_wrong 25 = .ok (.return_, 1) := by decide +kernel
set_option maxHeartbeats 4000000 in
set_option maxRecDepth 100000 in
theorem s_X12_wrong {P : PP} {a0 : Nat} {a1 : Int32} (I : IM P a0) (ha1 : 1 ≤ a1.toInt ∧ a1.toInt ≤ 5) (hW : MW P a0) : CtrV yX12_wrong cX12_wrong 2 none ({ frames := 1, cells := 0, slots := 0, locals := 64 } : Room) 0 0 P [.ref a0, .int a1] (fun P2 => IM P2 a0 ∧ EM [8] a0 P P2 ∧ MW P2 a0 ∧ (1 ≤ (pI P2 a0 8).toInt) ∧ ((pI P a0 8).toInt ≤ (pI P2 a0 8).toInt)) := by
  refine enV (lv := [(0, .ref a0), (1, .int a1)]) (by decide) (Nat.le_of_ble_eq_true rfl) rfl (fun E D cy C Ci0 ret => ?_)
  have ha0 := I.2.1
  have h65280 := I.rg ha0 7 rfl
  have h65281 := I.rg ha0 8 rfl
  refine g_aload_n C dX12_wrong_0 rfl 0 rfl ?_
  refine g_getI C fi_X12_162 (by decide) (ha0).1 (ha0).2 dX12_wrong_1 ?_
  refine b_if_ne C 25 dX12_wrong_4 (by decide) (fun h65282 => ?_) (fun h65282 => ?_)
  · have h65282 : (pI P a0 8).toInt ≠ 0 := ti_ne h65282
    exact ret _ _ _ _ _ dX12_wrong_25 (by decide) (by decide) ⟨I, EM.rf, hW, (by show 1 ≤ (pI P a0 8).toInt; omega), (by show (pI P a0 8).toInt ≤ (pI P a0 8).toInt; omega)⟩
  · have h65282 : (pI P a0 8).toInt = 0 := congrArg Int32.toInt h65282
    refine g_aload_n C dX12_wrong_7 rfl 0 rfl ?_
    refine g_iload_n C dX12_wrong_8 rfl 1 rfl ?_
    refine g_bipush (v := 16) C dX12_wrong_9 (by decide) ?_
    refine g_aload_n C dX12_wrong_11 rfl 0 rfl ?_
    obtain ⟨b65283, e65284, h65285⟩ := I.fld (ha0) 5 13 1002 rfl
    refine g_getR C fi_X12_27 rfl e65284 (ha0).1 (ha0).2 dX12_wrong_12 ?_
    refine g_aload_n C dX12_wrong_15 rfl 0 rfl ?_
    refine g_getI C fi_X12_159 (by decide) (ha0).1 (ha0).2 dX12_wrong_16 ?_
    refine g_iald (j := ((pI P a0 7).toInt.toNat)) C h65285.1 h65285.2.1 (ix_in h65285.2.2 (by omega)) dX12_wrong_19 ?_
    have h65286 := I.arr e65284 rfl ((pI P a0 7).toInt.toNat)
    refine s_imul C dX12_wrong_20 (by show -2147483648 ≤ 16 * (pI P b65283 ((pI P a0 7).toInt.toNat)).toInt ∧ 16 * (pI P b65283 ((pI P a0 7).toInt.toNat)).toInt ≤ 2147483647; omega) (fun z65287 h65288 => ?_)
    have h65288 : z65287.toInt = 16 * (pI P b65283 ((pI P a0 7).toInt.toNat)).toInt := h65288
    refine s_iadd C dX12_wrong_21 (by show -2147483648 ≤ a1.toInt + z65287.toInt ∧ a1.toInt + z65287.toInt ≤ 2147483647; omega) (fun z65289 h65290 => ?_)
    have h65290 : z65289.toInt = a1.toInt + z65287.toInt := h65290
    refine g_putI C fi_X12_162 rfl (ha0).1 (ha0).2 dX12_wrong_22 ?_
    refine gqW (ks := [8]) (I.setI (rgOk.of rfl (by omega))) (EM.setI I (by decide)) (fun Y65291 Iy65292 Xy65293 w65294  => ?_)
    have w65294 : (pI Y65291 a0 8).toInt = z65289.toInt := w65294
    have q65295 := Xy65293.keepF 7 (by decide)
    have W65296 := hW.keep I Xy65293 (by decide) (by decide) (by decide)
    have Xz65297 : EM [8] a0 P Y65291 := Xy65293.mono (by decide)
    have h65298 := Xy65293.at ha0
    exact ret _ _ _ _ _ dX12_wrong_25 (by decide) (by decide) ⟨Iy65292, Xz65297, W65296, (by show 1 ≤ (pI Y65291 a0 8).toInt; omega), (by show (pI P a0 8).toInt ≤ (pI Y65291 a0 8).toInt; omega)⟩
theorem dX12_readLine_77 : decode cX12_readLine 77 = .ok (.goto 38, 3) := by decide +kernel
theorem dX12_readLine_80 : decode cX12_readLine 80 = .ok (.iload_n 1, 1) := by decide +kernel
theorem dX12_readLine_81 : decode cX12_readLine 81 = .ok (.ifCond .eq 11, 3) := by decide +kernel
theorem dX12_readLine_84 : decode cX12_readLine 84 = .ok (.aload_n 0, 1) := by decide +kernel
theorem dX12_readLine_85 : decode cX12_readLine 85 = .ok (.iconst 3, 1) := by decide +kernel
theorem dX12_readLine_86 : decode cX12_readLine 86 = .ok (.invokevirtual 168, 3) := by decide +kernel
theorem dX12_readLine_89 : decode cX12_readLine 89 = .ok (.goto 26, 3) := by decide +kernel
theorem dX12_readLine_92 : decode cX12_readLine 92 = .ok (.aload_n 0, 1) := by decide +kernel
theorem dX12_readLine_93 : decode cX12_readLine 93 = .ok (.iconst 2, 1) := by decide +kernel
theorem dX12_readLine_94 : decode cX12_readLine 94 = .ok (.invokevirtual 172, 3) := by decide +kernel
theorem dX12_readLine_97 : decode cX12_readLine 97 = .ok (.ifCond .eq 18, 3) := by decide +kernel
theorem dX12_readLine_100 : decode cX12_readLine 100 = .ok (.aload_n 0, 1) := by decide +kernel
theorem dX12_readLine_101 : decode cX12_readLine 101 = .ok (.getfield 60, 3) := by decide +kernel
theorem dX12_readLine_104 : decode cX12_readLine 104 = .ok (.iconst 2, 1) := by decide +kernel
theorem dX12_readLine_105 : decode cX12_readLine 105 = .ok (.iaload, 1) := by decide +kernel
theorem dX12_readLine_106 : decode cX12_readLine 106 = .ok (.iconst 4, 1) := by decide +kernel
theorem dX12_readLine_107 : decode cX12_readLine 107 = .ok (.if_icmp .ne 8, 3) := by decide +kernel
theorem dX12_readLine_110 : decode cX12_readLine 110 = .ok (.aload_n 0, 1) := by decide +kernel
theorem dX12_readLine_111 : decode cX12_readLine 111 = .ok (.iconst 5, 1) := by decide +kernel
theorem dX12_readLine_112 : decode cX12_readLine 112 = .ok (.invokevirtual 168, 3) := by decide +kernel
theorem dX12_readLine_115 : decode cX12_readLine 115 = .ok (.aload_n 0, 1) := by decide +kernel
theorem dX12_readLine_116 : decode cX12_readLine 116 = .ok (.getfield 162, 3) := by decide +kernel
theorem dX12_readLine_119 : decode cX12_readLine 119 = .ok (.ifCond .le 4, 3) := by decide +kernel
theorem dX12_readLine_123 : decode cX12_readLine 123 = .ok (.aload_n 0, 1) := by decide +kernel
theorem dX12_readLine_124 : decode cX12_readLine 124 = .ok (.iconst 0, 1) := by decide +kernel
theorem dX12_readLine_125 : decode cX12_readLine 125 = .ok (.invokevirtual 175, 3) := by decide +kernel
theorem dX12_hasWord_0 : decode cX12_hasWord 0 = .ok (.aload_n 0, 1) := by decide +kernel
theorem dX12_hasWord_1 : decode cX12_hasWord 1 = .ok (.iload_n 1, 1) := by decide +kernel
theorem dX12_hasWord_2 : decode cX12_hasWord 2 = .ok (.invokevirtual 172, 3) := by decide +kernel
theorem dX12_hasWord_5 : decode cX12_hasWord 5 = .ok (.istore_n 2, 1) := by decide +kernel
theorem dX12_hasWord_6 : decode cX12_hasWord 6 = .ok (.aload_n 0, 1) := by decide +kernel
theorem dX12_hasWord_7 : decode cX12_hasWord 7 = .ok (.dup, 1) := by decide +kernel
theorem dX12_hasWord_8 : decode cX12_hasWord 8 = .ok (.getfield 159, 3) := by decide +kernel
theorem dX12_hasWord_11 : decode cX12_hasWord 11 = .ok (.iload_n 2, 1) := by decide +kernel
theorem dX12_hasWord_12 : decode cX12_hasWord 12 = .ok (.ifCond .eq 7, 3) := by decide +kernel
theorem dX12_hasWord_15 : decode cX12_hasWord 15 = .ok (.iconst 1, 1) := by decide +kernel
theorem dX12_hasWord_16 : decode cX12_hasWord 16 = .ok (.goto 4, 3) := by decide +kernel
theorem dX12_hasWord_19 : decode cX12_hasWord 19 = .ok (.iconst 0, 1) := by decide +kernel
theorem dX12_hasWord_20 : decode cX12_hasWord 20 = .ok (.iadd, 1) := by decide +kernel
theorem dX12_hasWord_21 : decode cX12_hasWord 21 = .ok (.putfield 159, 3) := by decide +kernel
theorem dX12_hasWord_24 : decode cX12_hasWord 24 = .ok (.iload_n 2, 1) := by decide +kernel
theorem dX12_hasWord_25 : decode cX12_hasWord 25 = .ok (.ireturn, 1) := by decide +kernel
set_option maxHeartbeats 4000000 in
set_option maxRecDepth 100000 in
theorem s_X12_hasWord {P : PP} {a0 : Nat} {a1 : Int32} (I : IM P a0) (ha1 : 0 ≤ a1.toInt ∧ a1.toInt ≤ 3) (hW : MW P a0) : CtrI yX12_hasWord cX12_hasWord 3 (some Jvm.ClassFile.FieldType.boolean) ({ frames := 2, cells := 0, slots := 0, locals := 128 } : Room) 0 0 P [.ref a0, .int a1] (fun r P2 => IM P2 a0 ∧ EM [7] a0 P P2 ∧ MW P2 a0 ∧ (0 ≤ r.toInt ∧ r.toInt ≤ 1) ∧ (((r.toInt = 0 ∨ ((pI P a0 8).toInt = 0 ∧ (pI P a0 7).toInt ≤ 999)) ∧ (pI P2 a0 7).toInt = (pI P a0 7).toInt + r.toInt) ∧ ∀ b4 b6 b9, pR P a0 4 = some b4 → pR P a0 6 = some b6 → pR P a0 9 = some b9 → r.toInt = iwA P a0 b4 b6 b9 a1.toInt.toNat ∧ (r.toInt = 0 → ∀ w, iwA P2 a0 b4 b6 b9 w = iwA P a0 b4 b6 b9 w))) := by
  refine enI (lv := [(0, .ref a0), (1, .int a1)]) (by decide) (Nat.le_of_ble_eq_true rfl) rfl (fun E D cy C Ci0 ret => ?_)
  have ha0 := I.2.1
  have h65538 := I.rg ha0 7 rfl
  have h65539 := I.rg ha0 8 rfl
  refine g_aload_n C dX12_hasWord_0 rfl 0 rfl ?_
  refine g_iload_n C dX12_hasWord_1 rfl 1 rfl ?_
  refine g_callVI (rest := []) C mv_X12_172 [.int a1] (s_X12_isWord I (by omega) hW) (ha0).1 (ha0).2 rfl rfl (by decide) (Nat.le_of_ble_eq_true rfl) (by decide) dX12_hasWord_2 (fun r65540 Y65541 h65542 => ?_)
  obtain ⟨rfl, h65542⟩ := h65542
  obtain ⟨h65542, hi65543⟩ := h65542
  obtain ⟨b65544, e65545, h65546⟩ := I.fld (ha0) 4 13 1002 rfl
  obtain ⟨b65547, e65548, h65549⟩ := I.fld (ha0) 6 14 1002 rfl
  obtain ⟨b65550, e65551, h65552⟩ := I.fld (ha0) 9 14 4 rfl
  obtain ⟨hi65543, hw65553⟩ := hi65543
  have hi65543 : r65540.toInt = 0 ∨ ((pI P a0 8).toInt = 0 ∧ (pI P a0 7).toInt ≤ 999) := hi65543
  have hw65553 : r65540.toInt = iwA P a0 b65544 b65547 b65550 a1.toInt.toNat := hw65553 b65544 b65547 b65550 e65545 e65548 e65551
  have h65542 : 0 ≤ r65540.toInt ∧ r65540.toInt ≤ 1 := h65542
  refine g_istore_n (lv' := [(2, .int r65540), (0, .ref a0), (1, .int a1)]) C dX12_hasWord_5 rfl (by decide) rfl ?_
  refine g_aload_n C dX12_hasWord_6 rfl 1 rfl ?_
  refine g_dup C dX12_hasWord_7 rfl ?_
  refine g_getI C fi_X12_159 (by decide) (ha0).1 (ha0).2 dX12_hasWord_8 ?_
  refine g_iload_n C dX12_hasWord_11 rfl 0 rfl ?_
  refine b_if_eq C 19 dX12_hasWord_12 (by decide) (fun h65554 => ?_) (fun h65554 => ?_)
  · have h65554 : r65540.toInt = 0 := congrArg Int32.toInt h65554
    refine g_iconst (v := 0) C dX12_hasWord_19 (by decide) ?_
    refine s_iadd C dX12_hasWord_20 (by show -2147483648 ≤ (pI P a0 7).toInt + 0 ∧ (pI P a0 7).toInt + 0 ≤ 2147483647; omega) (fun z65555 h65556 => ?_)
    have h65556 : z65555.toInt = (pI P a0 7).toInt + 0 := h65556
    refine g_putI C fi_X12_159 rfl (ha0).1 (ha0).2 dX12_hasWord_21 ?_
    refine gqWJ (ks := [7]) (I.setI (rgOk.of rfl (by omega))) (EM.setI I (by decide)) (fun Y65557 Iy65558 Xy65559 w65560 hJ65561 => ?_)
    have w65560 : (pI Y65557 a0 7).toInt = z65555.toInt := w65560
    have q65562 := Xy65559.keepF 8 (by decide)
    have W65563 := hW.keep I Xy65559 (by decide) (by decide) (by decide)
    have Xz65564 : EM [7] a0 P Y65557 := Xy65559.mono (by decide)
    have h65565 := Xy65559.at ha0
    refine g_iload_n C dX12_hasWord_24 rfl 0 rfl ?_
    exact ret _ _ _ _ _ _ dX12_hasWord_25 (nar_b (b01 (by omega))) (by decide) (by decide) ⟨Iy65558, Xz65564, W65563, (by omega), ⟨⟨by omega, by show (pI Y65557 a0 7).toInt = (pI P a0 7).toInt + r65540.toInt; omega⟩, fun b49 b69 b99 e49 e69 e99 => by rw [e65545] at e49; cases e49; rw [e65548] at e69; cases e69; rw [e65551] at e99; cases e99; refine ⟨by omega, fun h9 w => iw_keep Xy65559 (by assumption) hJ65561 (by omega) w⟩⟩⟩
  · have h65554 : r65540.toInt ≠ 0 := ti_ne h65554
    refine g_iconst (v := 1) C dX12_hasWord_15 (by decide) ?_
    refine g_goto C 20 dX12_hasWord_16 (by decide) ?_
    refine s_iadd C dX12_hasWord_20 (by show -2147483648 ≤ (pI P a0 7).toInt + 1 ∧ (pI P a0 7).toInt + 1 ≤ 2147483647; omega) (fun z65566 h65567 => ?_)
    have h65567 : z65566.toInt = (pI P a0 7).toInt + 1 := h65567
    refine g_putI C fi_X12_159 rfl (ha0).1 (ha0).2 dX12_hasWord_21 ?_
    refine gqWJ (ks := [7]) (I.setI (rgOk.of rfl (by omega))) (EM.setI I (by decide)) (fun Y65568 Iy65569 Xy65570 w65571 hJ65572 => ?_)
    have w65571 : (pI Y65568 a0 7).toInt = z65566.toInt := w65571
    have q65573 := Xy65570.keepF 8 (by decide)
    have W65574 := hW.keep I Xy65570 (by decide) (by decide) (by decide)
    have Xz65575 : EM [7] a0 P Y65568 := Xy65570.mono (by decide)
    have h65576 := Xy65570.at ha0
    refine g_iload_n C dX12_hasWord_24 rfl 0 rfl ?_
    exact ret _ _ _ _ _ _ dX12_hasWord_25 (nar_b (b01 (by omega))) (by decide) (by decide) ⟨Iy65569, Xz65575, W65574, (by omega), ⟨⟨by omega, by show (pI Y65568 a0 7).toInt = (pI P a0 7).toInt + r65540.toInt; omega⟩, fun b49 b69 b99 e49 e69 e99 => by rw [e65545] at e49; cases e49; rw [e65548] at e69; cases e69; rw [e65551] at e99; cases e99; refine ⟨by omega, fun h9 w => iw_keep Xy65570 (by assumption) hJ65572 (by omega) w⟩⟩⟩
theorem dX12_readLine_128 : decode cX12_readLine 128 = .ok (.ifCond .eq 10, 3) := by decide +kernel
theorem dX12_readLine_138 : decode cX12_readLine 138 = .ok (.aload_n 0, 1) := by decide +kernel
theorem dX12_readLine_139 : decode cX12_readLine 139 = .ok (.iconst 1, 1) := by decide +kernel
theorem dX12_readLine_140 : decode cX12_readLine 140 = .ok (.invokevirtual 175, 3) := by decide +kernel
theorem dX12_readLine_143 : decode cX12_readLine 143 = .ok (.ifCond .eq 32, 3) := by decide +kernel
theorem dX12_readLine_175 : decode cX12_readLine 175 = .ok (.aload_n 0, 1) := by decide +kernel
theorem dX12_readLine_176 : decode cX12_readLine 176 = .ok (.iconst 2, 1) := by decide +kernel
theorem dX12_readLine_177 : decode cX12_readLine 177 = .ok (.invokevirtual 175, 3) := by decide +kernel
theorem dX12_readLine_180 : decode cX12_readLine 180 = .ok (.ifCond .eq 10, 3) := by decide +kernel
theorem dX12_readLine_190 : decode cX12_readLine 190 = .ok (.aload_n 0, 1) := by decide +kernel
theorem dX12_readLine_191 : decode cX12_readLine 191 = .ok (.dup, 1) := by decide +kernel
theorem dX12_readLine_192 : decode cX12_readLine 192 = .ok (.getfield 159, 3) := by decide +kernel
theorem dX12_readLine_195 : decode cX12_readLine 195 = .ok (.iconst 1, 1) := by decide +kernel
theorem dX12_readLine_196 : decode cX12_readLine 196 = .ok (.iadd, 1) := by decide +kernel
theorem dX12_readLine_197 : decode cX12_readLine 197 = .ok (.putfield 159, 3) := by decide +kernel
theorem dX12_readLine_200 : decode cX12_readLine 200 = .ok (.aload_n 0, 1) := by decide +kernel
theorem dX12_readLine_201 : decode cX12_readLine 201 = .ok (.getfield 66, 3) := by decide +kernel
theorem dX12_readLine_204 : decode cX12_readLine 204 = .ok (.iconst 2, 1) := by decide +kernel
theorem dX12_readLine_205 : decode cX12_readLine 205 = .ok (.aload_n 0, 1) := by decide +kernel
theorem dX12_readLine_206 : decode cX12_readLine 206 = .ok (.iconst 1, 1) := by decide +kernel
theorem dX12_readLine_207 : decode cX12_readLine 207 = .ok (.sipush 996, 3) := by decide +kernel
theorem dX12_readLine_210 : decode cX12_readLine 210 = .ok (.invokevirtual 211, 3) := by decide +kernel
theorem dX12_takeNumber_0 : decode cX12_takeNumber 0 = .ok (.aload_n 0, 1) := by decide +kernel
theorem dX12_takeNumber_1 : decode cX12_takeNumber 1 = .ok (.getfield 162, 3) := by decide +kernel
theorem dX12_takeNumber_4 : decode cX12_takeNumber 4 = .ok (.ifCond .ne 24, 3) := by decide +kernel
theorem dX12_takeNumber_7 : decode cX12_takeNumber 7 = .ok (.aload_n 0, 1) := by decide +kernel
theorem dX12_takeNumber_8 : decode cX12_takeNumber 8 = .ok (.getfield 24, 3) := by decide +kernel
theorem dX12_takeNumber_11 : decode cX12_takeNumber 11 = .ok (.aload_n 0, 1) := by decide +kernel
theorem dX12_takeNumber_12 : decode cX12_takeNumber 12 = .ok (.getfield 159, 3) := by decide +kernel
theorem dX12_takeNumber_15 : decode cX12_takeNumber 15 = .ok (.iaload, 1) := by decide +kernel
theorem dX12_takeNumber_16 : decode cX12_takeNumber 16 = .ok (.iconst 2, 1) := by decide +kernel
theorem dX12_takeNumber_17 : decode cX12_takeNumber 17 = .ok (.if_icmp .eq 11, 3) := by decide +kernel
theorem dX12_takeNumber_20 : decode cX12_takeNumber 20 = .ok (.aload_n 0, 1) := by decide +kernel
theorem dX12_takeNumber_21 : decode cX12_takeNumber 21 = .ok (.iconst 1, 1) := by decide +kernel
theorem dX12_takeNumber_22 : decode cX12_takeNumber 22 = .ok (.invokevirtual 168, 3) := by decide +kernel
theorem dX12_takeNumber_25 : decode cX12_takeNumber 25 = .ok (.goto 45, 3) := by decide +kernel
theorem dX12_takeNumber_28 : decode cX12_takeNumber 28 = .ok (.aload_n 0, 1) := by decide +kernel
theorem dX12_takeNumber_29 : decode cX12_takeNumber 29 = .ok (.getfield 162, 3) := by decide +kernel
theorem dX12_takeNumber_32 : decode cX12_takeNumber 32 = .ok (.ifCond .ne 38, 3) := by decide +kernel
theorem dX12_takeNumber_35 : decode cX12_takeNumber 35 = .ok (.aload_n 0, 1) := by decide +kernel
theorem dX12_takeNumber_36 : decode cX12_takeNumber 36 = .ok (.getfield 30, 3) := by decide +kernel
theorem dX12_takeNumber_39 : decode cX12_takeNumber 39 = .ok (.aload_n 0, 1) := by decide +kernel
theorem dX12_takeNumber_40 : decode cX12_takeNumber 40 = .ok (.getfield 159, 3) := by decide +kernel
theorem dX12_takeNumber_43 : decode cX12_takeNumber 43 = .ok (.laload, 1) := by decide +kernel
theorem dX12_takeNumber_44 : decode cX12_takeNumber 44 = .ok (.iload_n 1, 1) := by decide +kernel
theorem dX12_takeNumber_45 : decode cX12_takeNumber 45 = .ok (.i2l, 1) := by decide +kernel
theorem dX12_takeNumber_46 : decode cX12_takeNumber 46 = .ok (.lcmp, 1) := by decide +kernel
theorem dX12_takeNumber_47 : decode cX12_takeNumber 47 = .ok (.ifCond .lt 18, 3) := by decide +kernel
theorem dX12_takeNumber_50 : decode cX12_takeNumber 50 = .ok (.aload_n 0, 1) := by decide +kernel
theorem dX12_takeNumber_51 : decode cX12_takeNumber 51 = .ok (.getfield 30, 3) := by decide +kernel
theorem dX12_takeNumber_54 : decode cX12_takeNumber 54 = .ok (.aload_n 0, 1) := by decide +kernel
theorem dX12_takeNumber_55 : decode cX12_takeNumber 55 = .ok (.getfield 159, 3) := by decide +kernel
theorem dX12_takeNumber_58 : decode cX12_takeNumber 58 = .ok (.laload, 1) := by decide +kernel
theorem dX12_takeNumber_59 : decode cX12_takeNumber 59 = .ok (.iload_n 2, 1) := by decide +kernel
theorem dX12_takeNumber_60 : decode cX12_takeNumber 60 = .ok (.i2l, 1) := by decide +kernel
theorem dX12_takeNumber_61 : decode cX12_takeNumber 61 = .ok (.lcmp, 1) := by decide +kernel
theorem dX12_takeNumber_62 : decode cX12_takeNumber 62 = .ok (.ifCond .le 8, 3) := by decide +kernel
theorem dX12_takeNumber_65 : decode cX12_takeNumber 65 = .ok (.aload_n 0, 1) := by decide +kernel
theorem dX12_takeNumber_66 : decode cX12_takeNumber 66 = .ok (.iconst 4, 1) := by decide +kernel
theorem dX12_takeNumber_67 : decode cX12_takeNumber 67 = .ok (.invokevirtual 168, 3) := by decide +kernel
theorem dX12_takeNumber_70 : decode cX12_takeNumber 70 = .ok (.aload_n 0, 1) := by decide +kernel
theorem dX12_takeNumber_71 : decode cX12_takeNumber 71 = .ok (.getfield 162, 3) := by decide +kernel
theorem dX12_takeNumber_74 : decode cX12_takeNumber 74 = .ok (.ifCond .le 5, 3) := by decide +kernel
theorem dX12_takeNumber_77 : decode cX12_takeNumber 77 = .ok (.iconst 0, 1) := by decide +kernel
theorem dX12_takeNumber_78 : decode cX12_takeNumber 78 = .ok (.ireturn, 1) := by decide +kernel
theorem dX12_takeNumber_79 : decode cX12_takeNumber 79 = .ok (.aload_n 0, 1) := by decide +kernel
theorem dX12_takeNumber_80 : decode cX12_takeNumber 80 = .ok (.dup, 1) := by decide +kernel
theorem dX12_takeNumber_81 : decode cX12_takeNumber 81 = .ok (.getfield 159, 3) := by decide +kernel
theorem dX12_takeNumber_84 : decode cX12_takeNumber 84 = .ok (.iconst 1, 1) := by decide +kernel
theorem dX12_takeNumber_85 : decode cX12_takeNumber 85 = .ok (.iadd, 1) := by decide +kernel
theorem dX12_takeNumber_86 : decode cX12_takeNumber 86 = .ok (.putfield 159, 3) := by decide +kernel
theorem dX12_takeNumber_89 : decode cX12_takeNumber 89 = .ok (.aload_n 0, 1) := by decide +kernel
theorem dX12_takeNumber_90 : decode cX12_takeNumber 90 = .ok (.getfield 30, 3) := by decide +kernel
theorem dX12_takeNumber_93 : decode cX12_takeNumber 93 = .ok (.aload_n 0, 1) := by decide +kernel
theorem dX12_takeNumber_94 : decode cX12_takeNumber 94 = .ok (.getfield 159, 3) := by decide +kernel
theorem dX12_takeNumber_97 : decode cX12_takeNumber 97 = .ok (.iconst 1, 1) := by decide +kernel
theorem dX12_takeNumber_98 : decode cX12_takeNumber 98 = .ok (.isub, 1) := by decide +kernel
theorem dX12_takeNumber_99 : decode cX12_takeNumber 99 = .ok (.laload, 1) := by decide +kernel
theorem dX12_takeNumber_100 : decode cX12_takeNumber 100 = .ok (.l2i, 1) := by decide +kernel
theorem dX12_takeNumber_101 : decode cX12_takeNumber 101 = .ok (.ireturn, 1) := by decide +kernel
set_option maxHeartbeats 4000000 in
set_option maxRecDepth 100000 in
theorem s_X12_takeNumber {P : PP} {a0 : Nat} {a1 : Int32} {a2 : Int32} (I : IM P a0) (ha1 : 0 ≤ a1.toInt ∧ a1.toInt ≤ 2) (ha2 : -1 ≤ a2.toInt ∧ a2.toInt ≤ 999) (hW : MW P a0) : CtrI yX12_takeNumber cX12_takeNumber 3 (some Jvm.ClassFile.FieldType.int) ({ frames := 2, cells := 0, slots := 0, locals := 128 } : Room) 0 0 P [.ref a0, .int a1, .int a2] (fun r P2 => IM P2 a0 ∧ EM [7, 8] a0 P P2 ∧ MW P2 a0 ∧ ((pI P a0 7).toInt ≤ (pI P2 a0 7).toInt) ∧ ((pI P a0 8).toInt ≤ (pI P2 a0 8).toInt) ∧ (1 ≤ (pI P2 a0 8).toInt ∨ (pI P2 a0 7).toInt = (pI P a0 7).toInt + 1) ∧ (0 ≤ r.toInt ∧ r.toInt ≤ 999) ∧ ((1 ≤ (pI P2 a0 8).toInt ∧ r.toInt = 0) ∨ (a1.toInt ≤ r.toInt ∧ r.toInt ≤ a2.toInt))) := by
  refine enI (lv := [(0, .ref a0), (1, .int a1), (2, .int a2)]) (by decide) (Nat.le_of_ble_eq_true rfl) rfl (fun E D cy C Ci0 ret => ?_)
  have ha0 := I.2.1
  have h65985 := I.rg ha0 7 rfl
  have h65986 := I.rg ha0 8 rfl
  refine g_aload_n C dX12_takeNumber_0 rfl 0 rfl ?_
  refine g_getI C fi_X12_162 (by decide) (ha0).1 (ha0).2 dX12_takeNumber_1 ?_
  refine b_if_ne C 28 dX12_takeNumber_4 (by decide) (fun h65987 => ?_) (fun h65987 => ?_)
  · have h65987 : (pI P a0 8).toInt ≠ 0 := ti_ne h65987
    refine g_aload_n C dX12_takeNumber_28 rfl 0 rfl ?_
    refine g_getI C fi_X12_162 (by decide) (ha0).1 (ha0).2 dX12_takeNumber_29 ?_
    refine b_if_ne C 70 dX12_takeNumber_32 (by decide) (fun h65988 => ?_) (fun h65988 => ?_)
    · have h65988 : (pI P a0 8).toInt ≠ 0 := ti_ne h65988
      refine g_aload_n C dX12_takeNumber_70 rfl 0 rfl ?_
      refine g_getI C fi_X12_162 (by decide) (ha0).1 (ha0).2 dX12_takeNumber_71 ?_
      refine b_if_le C 79 dX12_takeNumber_74 (by decide) (fun h65989 => ?_) (fun h65989 => ?_)
      · have h65989 : (pI P a0 8).toInt ≤ 0 := h65989
        omega
      · have h65989 : 0 < (pI P a0 8).toInt := h65989
        refine g_iconst (v := 0) C dX12_takeNumber_77 (by decide) ?_
        exact ret _ _ _ _ _ _ dX12_takeNumber_78 rfl (by decide) (by decide) ⟨I, EM.rf, hW, (by show (pI P a0 7).toInt ≤ (pI P a0 7).toInt; omega), (by show (pI P a0 8).toInt ≤ (pI P a0 8).toInt; omega), (by show 1 ≤ (pI P a0 8).toInt ∨ (pI P a0 7).toInt = (pI P a0 7).toInt + 1; omega), (by decide), (by show (1 ≤ (pI P a0 8).toInt ∧ (0 : Int) = 0) ∨ (a1.toInt ≤ 0 ∧ 0 ≤ a2.toInt); omega)⟩
    · have h65988 : (pI P a0 8).toInt = 0 := congrArg Int32.toInt h65988
      omega
  · have h65987 : (pI P a0 8).toInt = 0 := congrArg Int32.toInt h65987
    refine g_aload_n C dX12_takeNumber_7 rfl 0 rfl ?_
    obtain ⟨b65990, e65991, h65992⟩ := I.fld (ha0) 4 13 1002 rfl
    refine g_getR C fi_X12_24 rfl e65991 (ha0).1 (ha0).2 dX12_takeNumber_8 ?_
    refine g_aload_n C dX12_takeNumber_11 rfl 0 rfl ?_
    refine g_getI C fi_X12_159 (by decide) (ha0).1 (ha0).2 dX12_takeNumber_12 ?_
    refine g_iald (j := ((pI P a0 7).toInt.toNat)) C h65992.1 h65992.2.1 (ix_in h65992.2.2 (by omega)) dX12_takeNumber_15 ?_
    have h65993 := I.arr e65991 rfl ((pI P a0 7).toInt.toNat)
    refine g_iconst (v := 2) C dX12_takeNumber_16 (by decide) ?_
    have hs65994 := I.s1000 e65991 (j := (pI P a0 7).toInt) (by omega)
    refine b_icmp_eq C 28 dX12_takeNumber_17 (by decide) (fun h65995 => ?_) (fun h65995 => ?_)
    · have h65995 : (pI P b65990 ((pI P a0 7).toInt.toNat)).toInt = 2 := congrArg Int32.toInt h65995
      refine g_aload_n C dX12_takeNumber_28 rfl 0 rfl ?_
      refine g_getI C fi_X12_162 (by decide) (ha0).1 (ha0).2 dX12_takeNumber_29 ?_
      refine b_if_ne C 70 dX12_takeNumber_32 (by decide) (fun h65996 => ?_) (fun h65996 => ?_)
      · have h65996 : (pI P a0 8).toInt ≠ 0 := ti_ne h65996
        omega
      · have h65996 : (pI P a0 8).toInt = 0 := congrArg Int32.toInt h65996
        refine g_aload_n C dX12_takeNumber_35 rfl 0 rfl ?_
        obtain ⟨b65997, e65998, h65999⟩ := I.fld (ha0) 6 14 1002 rfl
        refine g_getR C fi_X12_30 rfl e65998 (ha0).1 (ha0).2 dX12_takeNumber_36 ?_
        refine g_aload_n C dX12_takeNumber_39 rfl 0 rfl ?_
        refine g_getI C fi_X12_159 (by decide) (ha0).1 (ha0).2 dX12_takeNumber_40 ?_
        refine g_lald (j := ((pI P a0 7).toInt.toNat)) C h65999.1 h65999.2.1 (ix_in h65999.2.2 (by omega)) dX12_takeNumber_43 ?_
        refine g_topl (fun l66000 h66001 => ?_)
        have hl66002 : l66000.toInt = (pJ P b65997 ((pI P a0 7).toInt.toNat)).toInt := congrArg Int64.toInt h66001
        refine g_iload_n C dX12_takeNumber_44 rfl 1 rfl ?_
        refine g_i2l C dX12_takeNumber_45 rfl ?_
        refine g_topl (fun l66003 h66004 => ?_)
        have hl66005 := i2l_val h66004
        refine g_lcmp C dX12_takeNumber_46 ?_
        refine g_topi (fun z66006 h66007 => ?_)
        have hc66008 := cmp_or h66007
        have h66009 := cmp_rg h66007
        refine b_if_lt C 65 dX12_takeNumber_47 (by decide) (fun h66010 => ?_) (fun h66010 => ?_)
        · have h66010 : z66006.toInt < 0 := h66010
          refine g_aload_n C dX12_takeNumber_65 rfl 0 rfl ?_
          refine g_iconst (v := 4) C dX12_takeNumber_66 (by decide) ?_
          refine g_callVV (rest := []) C mv_X12_168 [.int 4] (s_X12_wrong I (by decide) hW) (ha0).1 (ha0).2 rfl rfl (by decide) (Nat.le_of_ble_eq_true rfl) (by decide) dX12_takeNumber_67 (fun Y66012 h66013 => ?_)
          obtain ⟨Iy66014, Xy66015, W66016, p66017, p66018⟩ := h66013
          have p66017 : 1 ≤ (pI Y66012 a0 8).toInt := p66017
          have p66018 : (pI P a0 8).toInt ≤ (pI Y66012 a0 8).toInt := p66018
          have q66019 := Xy66015.keepF 7 (by decide)
          have Xz66020 : EM [7, 8] a0 P Y66012 := Xy66015.mono (by decide)
          have h66021 := Xy66015.at ha0
          have h66022 := Iy66014.rg h66021 8 rfl
          refine g_aload_n C dX12_takeNumber_70 rfl 0 rfl ?_
          refine g_getI C fi_X12_162 (by decide) (h66021).1 (h66021).2 dX12_takeNumber_71 ?_
          refine b_if_le C 79 dX12_takeNumber_74 (by decide) (fun h66023 => ?_) (fun h66023 => ?_)
          · have h66023 : (pI Y66012 a0 8).toInt ≤ 0 := h66023
            omega
          · have h66023 : 0 < (pI Y66012 a0 8).toInt := h66023
            refine g_iconst (v := 0) C dX12_takeNumber_77 (by decide) ?_
            exact ret _ _ _ _ _ _ dX12_takeNumber_78 rfl (by decide) (by decide) ⟨Iy66014, Xz66020, W66016, (by show (pI P a0 7).toInt ≤ (pI Y66012 a0 7).toInt; omega), (by show (pI P a0 8).toInt ≤ (pI Y66012 a0 8).toInt; omega), (by show 1 ≤ (pI Y66012 a0 8).toInt ∨ (pI Y66012 a0 7).toInt = (pI P a0 7).toInt + 1; omega), (by decide), (by show (1 ≤ (pI Y66012 a0 8).toInt ∧ (0 : Int) = 0) ∨ (a1.toInt ≤ 0 ∧ 0 ≤ a2.toInt); omega)⟩
        · have h66010 : 0 ≤ z66006.toInt := h66010
          refine g_aload_n C dX12_takeNumber_50 rfl 0 rfl ?_
          refine g_getR C fi_X12_30 rfl e65998 (ha0).1 (ha0).2 dX12_takeNumber_51 ?_
          refine g_aload_n C dX12_takeNumber_54 rfl 0 rfl ?_
          refine g_getI C fi_X12_159 (by decide) (ha0).1 (ha0).2 dX12_takeNumber_55 ?_
          refine g_lald (j := ((pI P a0 7).toInt.toNat)) C h65999.1 h65999.2.1 (ix_in h65999.2.2 (by omega)) dX12_takeNumber_58 ?_
          refine g_topl (fun l66024 h66025 => ?_)
          have hl66026 : l66024.toInt = (pJ P b65997 ((pI P a0 7).toInt.toNat)).toInt := congrArg Int64.toInt h66025
          refine g_iload_n C dX12_takeNumber_59 rfl 2 rfl ?_
          refine g_i2l C dX12_takeNumber_60 rfl ?_
          refine g_topl (fun l66027 h66028 => ?_)
          have hl66029 := i2l_val h66028
          refine g_lcmp C dX12_takeNumber_61 ?_
          refine g_topi (fun z66030 h66031 => ?_)
          have hc66032 := cmp_or h66031
          have h66033 := cmp_rg h66031
          refine b_if_le C 70 dX12_takeNumber_62 (by decide) (fun h66034 => ?_) (fun h66034 => ?_)
          · have h66034 : z66030.toInt ≤ 0 := h66034
            refine g_aload_n C dX12_takeNumber_70 rfl 0 rfl ?_
            refine g_getI C fi_X12_162 (by decide) (ha0).1 (ha0).2 dX12_takeNumber_71 ?_
            refine b_if_le C 79 dX12_takeNumber_74 (by decide) (fun h66035 => ?_) (fun h66035 => ?_)
            · have h66035 : (pI P a0 8).toInt ≤ 0 := h66035
              refine g_aload_n C dX12_takeNumber_79 rfl 0 rfl ?_
              refine g_dup C dX12_takeNumber_80 rfl ?_
              refine g_getI C fi_X12_159 (by decide) (ha0).1 (ha0).2 dX12_takeNumber_81 ?_
              refine g_iconst (v := 1) C dX12_takeNumber_84 (by decide) ?_
              refine s_iadd C dX12_takeNumber_85 (by show -2147483648 ≤ (pI P a0 7).toInt + 1 ∧ (pI P a0 7).toInt + 1 ≤ 2147483647; omega) (fun z66036 h66037 => ?_)
              have h66037 : z66036.toInt = (pI P a0 7).toInt + 1 := h66037
              refine g_putI C fi_X12_159 rfl (ha0).1 (ha0).2 dX12_takeNumber_86 ?_
              refine gqWJ (ks := [7]) (I.setI (rgOk.of rfl (by omega))) (EM.setI I (by decide)) (fun Y66038 Iy66039 Xy66040 w66041 hJ66042 => ?_)
              have w66041 : (pI Y66038 a0 7).toInt = z66036.toInt := w66041
              have q66043 := Xy66040.keepF 8 (by decide)
              have W66044 := hW.keep I Xy66040 (by decide) (by decide) (by decide)
              have Xz66045 : EM [7, 8] a0 P Y66038 := Xy66040.mono (by decide)
              have h66046 := Xy66040.at ha0
              refine g_aload_n C dX12_takeNumber_89 rfl 0 rfl ?_
              obtain ⟨b66047, e66048, h66049⟩ := Iy66039.fld (h66046) 6 14 1002 rfl
              refine g_getR C fi_X12_30 rfl e66048 (h66046).1 (h66046).2 dX12_takeNumber_90 ?_
              refine g_aload_n C dX12_takeNumber_93 rfl 0 rfl ?_
              refine g_getI C fi_X12_159 (by decide) (h66046).1 (h66046).2 dX12_takeNumber_94 ?_
              refine g_iconst (v := 1) C dX12_takeNumber_97 (by decide) ?_
              refine s_isub C dX12_takeNumber_98 (by show -2147483648 ≤ (pI Y66038 a0 7).toInt - 1 ∧ (pI Y66038 a0 7).toInt - 1 ≤ 2147483647; omega) (fun z66050 h66051 => ?_)
              have h66051 : z66050.toInt = (pI Y66038 a0 7).toInt - 1 := h66051
              refine g_lald (j := (z66050.toInt.toNat)) C h66049.1 h66049.2.1 (ix_in h66049.2.2 (by omega)) dX12_takeNumber_99 ?_
              refine g_topl (fun l66052 h66053 => ?_)
              have hb6 : b66047 = b65997 := Option.some.inj ((EM.refB Xz66045 ha0 e66048).symm.trans e65998)
              have hl66054 : l66052.toInt = (pJ P b65997 (pI P a0 7).toInt.toNat).toInt := by rw [h66053, hb6, hJ66042, show (z66050.toInt.toNat) = (pI P a0 7).toInt.toNat by omega]
              refine g_l2i C dX12_takeNumber_100 rfl ?_
              refine g_topi (fun z66055 h66056 => ?_)
              have hl66057 := l2i_val h66056 (by omega)
              exact ret _ _ _ _ _ _ dX12_takeNumber_101 rfl (by decide) (by decide) ⟨Iy66039, Xz66045, W66044, (by show (pI P a0 7).toInt ≤ (pI Y66038 a0 7).toInt; omega), (by show (pI P a0 8).toInt ≤ (pI Y66038 a0 8).toInt; omega), (by show 1 ≤ (pI Y66038 a0 8).toInt ∨ (pI Y66038 a0 7).toInt = (pI P a0 7).toInt + 1; omega), (by omega), (by show (1 ≤ (pI Y66038 a0 8).toInt ∧ z66055.toInt = 0) ∨ (a1.toInt ≤ z66055.toInt ∧ z66055.toInt ≤ a2.toInt); omega)⟩
            · have h66035 : 0 < (pI P a0 8).toInt := h66035
              omega
          · have h66034 : 0 < z66030.toInt := h66034
            refine g_aload_n C dX12_takeNumber_65 rfl 0 rfl ?_
            refine g_iconst (v := 4) C dX12_takeNumber_66 (by decide) ?_
            refine g_callVV (rest := []) C mv_X12_168 [.int 4] (s_X12_wrong I (by decide) hW) (ha0).1 (ha0).2 rfl rfl (by decide) (Nat.le_of_ble_eq_true rfl) (by decide) dX12_takeNumber_67 (fun Y66059 h66060 => ?_)
            obtain ⟨Iy66061, Xy66062, W66063, p66064, p66065⟩ := h66060
            have p66064 : 1 ≤ (pI Y66059 a0 8).toInt := p66064
            have p66065 : (pI P a0 8).toInt ≤ (pI Y66059 a0 8).toInt := p66065
            have q66066 := Xy66062.keepF 7 (by decide)
            have Xz66067 : EM [7, 8] a0 P Y66059 := Xy66062.mono (by decide)
            have h66068 := Xy66062.at ha0
            have h66069 := Iy66061.rg h66068 8 rfl
            refine g_aload_n C dX12_takeNumber_70 rfl 0 rfl ?_
            refine g_getI C fi_X12_162 (by decide) (h66068).1 (h66068).2 dX12_takeNumber_71 ?_
            refine b_if_le C 79 dX12_takeNumber_74 (by decide) (fun h66070 => ?_) (fun h66070 => ?_)
            · have h66070 : (pI Y66059 a0 8).toInt ≤ 0 := h66070
              omega
            · have h66070 : 0 < (pI Y66059 a0 8).toInt := h66070
              refine g_iconst (v := 0) C dX12_takeNumber_77 (by decide) ?_
              exact ret _ _ _ _ _ _ dX12_takeNumber_78 rfl (by decide) (by decide) ⟨Iy66061, Xz66067, W66063, (by show (pI P a0 7).toInt ≤ (pI Y66059 a0 7).toInt; omega), (by show (pI P a0 8).toInt ≤ (pI Y66059 a0 8).toInt; omega), (by show 1 ≤ (pI Y66059 a0 8).toInt ∨ (pI Y66059 a0 7).toInt = (pI P a0 7).toInt + 1; omega), (by decide), (by show (1 ≤ (pI Y66059 a0 8).toInt ∧ (0 : Int) = 0) ∨ (a1.toInt ≤ 0 ∧ 0 ≤ a2.toInt); omega)⟩
    · have h65995 : (pI P b65990 ((pI P a0 7).toInt.toNat)).toInt ≠ 2 := ti_ne h65995
      refine g_aload_n C dX12_takeNumber_20 rfl 0 rfl ?_
      refine g_iconst (v := 1) C dX12_takeNumber_21 (by decide) ?_
      refine g_callVV (rest := []) C mv_X12_168 [.int 1] (s_X12_wrong I (by decide) hW) (ha0).1 (ha0).2 rfl rfl (by decide) (Nat.le_of_ble_eq_true rfl) (by decide) dX12_takeNumber_22 (fun Y66072 h66073 => ?_)
      obtain ⟨Iy66074, Xy66075, W66076, p66077, p66078⟩ := h66073
      have p66077 : 1 ≤ (pI Y66072 a0 8).toInt := p66077
      have p66078 : (pI P a0 8).toInt ≤ (pI Y66072 a0 8).toInt := p66078
      have q66079 := Xy66075.keepF 7 (by decide)
      have Xz66080 : EM [7, 8] a0 P Y66072 := Xy66075.mono (by decide)
      have h66081 := Xy66075.at ha0
      have h66082 := Iy66074.rg h66081 8 rfl
      refine g_goto C 70 dX12_takeNumber_25 (by decide) ?_
      refine g_aload_n C dX12_takeNumber_70 rfl 0 rfl ?_
      refine g_getI C fi_X12_162 (by decide) (h66081).1 (h66081).2 dX12_takeNumber_71 ?_
      refine b_if_le C 79 dX12_takeNumber_74 (by decide) (fun h66083 => ?_) (fun h66083 => ?_)
      · have h66083 : (pI Y66072 a0 8).toInt ≤ 0 := h66083
        omega
      · have h66083 : 0 < (pI Y66072 a0 8).toInt := h66083
        refine g_iconst (v := 0) C dX12_takeNumber_77 (by decide) ?_
        exact ret _ _ _ _ _ _ dX12_takeNumber_78 rfl (by decide) (by decide) ⟨Iy66074, Xz66080, W66076, (by show (pI P a0 7).toInt ≤ (pI Y66072 a0 7).toInt; omega), (by show (pI P a0 8).toInt ≤ (pI Y66072 a0 8).toInt; omega), (by show 1 ≤ (pI Y66072 a0 8).toInt ∨ (pI Y66072 a0 7).toInt = (pI P a0 7).toInt + 1; omega), (by decide), (by show (1 ≤ (pI Y66072 a0 8).toInt ∧ (0 : Int) = 0) ∨ (a1.toInt ≤ 0 ∧ 0 ≤ a2.toInt); omega)⟩
theorem dX12_readLine_183 : decode cX12_readLine 183 = .ok (.aload_n 0, 1) := by decide +kernel
theorem dX12_readLine_184 : decode cX12_readLine 184 = .ok (.invokevirtual 215, 3) := by decide +kernel
theorem dX12_readLine_213 : decode cX12_readLine 213 = .ok (.iastore, 1) := by decide +kernel
theorem dX12_readSum_0 : decode cX12_readSum 0 = .ok (.iconst 0, 1) := by decide +kernel
theorem dX12_readSum_1 : decode cX12_readSum 1 = .ok (.istore_n 1, 1) := by decide +kernel
theorem dX12_readSum_2 : decode cX12_readSum 2 = .ok (.iconst 0, 1) := by decide +kernel
theorem dX12_readSum_3 : decode cX12_readSum 3 = .ok (.istore_n 2, 1) := by decide +kernel
theorem dX12_readSum_4 : decode cX12_readSum 4 = .ok (.aload_n 0, 1) := by decide +kernel
theorem dX12_readSum_5 : decode cX12_readSum 5 = .ok (.getfield 162, 3) := by decide +kernel
theorem dX12_readSum_8 : decode cX12_readSum 8 = .ok (.ifCond .ne 97, 3) := by decide +kernel
theorem dX12_readSum_11 : decode cX12_readSum 11 = .ok (.iload_n 2, 1) := by decide +kernel
theorem dX12_readSum_12 : decode cX12_readSum 12 = .ok (.iconst 2, 1) := by decide +kernel
theorem dX12_readSum_13 : decode cX12_readSum 13 = .ok (.if_icmp .lt 16, 3) := by decide +kernel
theorem dX12_readSum_16 : decode cX12_readSum 16 = .ok (.aload_n 0, 1) := by decide +kernel
theorem dX12_readSum_17 : decode cX12_readSum 17 = .ok (.getfield 24, 3) := by decide +kernel
theorem dX12_readSum_20 : decode cX12_readSum 20 = .ok (.aload_n 0, 1) := by decide +kernel
theorem dX12_readSum_21 : decode cX12_readSum 21 = .ok (.getfield 159, 3) := by decide +kernel
theorem dX12_readSum_24 : decode cX12_readSum 24 = .ok (.iaload, 1) := by decide +kernel
theorem dX12_readSum_25 : decode cX12_readSum 25 = .ok (.iconst 2, 1) := by decide +kernel
theorem dX12_readSum_26 : decode cX12_readSum 26 = .ok (.if_icmp .ne 79, 3) := by decide +kernel
theorem dX12_readSum_29 : decode cX12_readSum 29 = .ok (.aload_n 0, 1) := by decide +kernel
theorem dX12_readSum_30 : decode cX12_readSum 30 = .ok (.getfield 24, 3) := by decide +kernel
theorem dX12_readSum_33 : decode cX12_readSum 33 = .ok (.aload_n 0, 1) := by decide +kernel
theorem dX12_readSum_34 : decode cX12_readSum 34 = .ok (.getfield 159, 3) := by decide +kernel
theorem dX12_readSum_37 : decode cX12_readSum 37 = .ok (.iaload, 1) := by decide +kernel
theorem dX12_readSum_38 : decode cX12_readSum 38 = .ok (.iconst 2, 1) := by decide +kernel
theorem dX12_readSum_39 : decode cX12_readSum 39 = .ok (.if_icmp .ne 44, 3) := by decide +kernel
theorem dX12_readSum_42 : decode cX12_readSum 42 = .ok (.aload_n 0, 1) := by decide +kernel
theorem dX12_readSum_43 : decode cX12_readSum 43 = .ok (.getfield 30, 3) := by decide +kernel
theorem dX12_readSum_46 : decode cX12_readSum 46 = .ok (.aload_n 0, 1) := by decide +kernel
theorem dX12_readSum_47 : decode cX12_readSum 47 = .ok (.getfield 159, 3) := by decide +kernel
theorem dX12_readSum_50 : decode cX12_readSum 50 = .ok (.laload, 1) := by decide +kernel
theorem dX12_readSum_51 : decode cX12_readSum 51 = .ok (.aload_n 0, 1) := by decide +kernel
theorem dX12_readSum_52 : decode cX12_readSum 52 = .ok (.getfield 202, 3) := by decide +kernel
theorem dX12_readSum_55 : decode cX12_readSum 55 = .ok (.i2l, 1) := by decide +kernel
theorem dX12_readSum_56 : decode cX12_readSum 56 = .ok (.lcmp, 1) := by decide +kernel
theorem dX12_readSum_57 : decode cX12_readSum 57 = .ok (.ifCond .ge 26, 3) := by decide +kernel
theorem dX12_readSum_60 : decode cX12_readSum 60 = .ok (.iload_n 1, 1) := by decide +kernel
theorem dX12_readSum_61 : decode cX12_readSum 61 = .ok (.aload_n 0, 1) := by decide +kernel
theorem dX12_readSum_62 : decode cX12_readSum 62 = .ok (.getfield 30, 3) := by decide +kernel
theorem dX12_readSum_65 : decode cX12_readSum 65 = .ok (.aload_n 0, 1) := by decide +kernel
theorem dX12_readSum_66 : decode cX12_readSum 66 = .ok (.getfield 159, 3) := by decide +kernel
theorem dX12_readSum_69 : decode cX12_readSum 69 = .ok (.laload, 1) := by decide +kernel
theorem dX12_readSum_70 : decode cX12_readSum 70 = .ok (.l2i, 1) := by decide +kernel
theorem dX12_readSum_71 : decode cX12_readSum 71 = .ok (.ishr, 1) := by decide +kernel
theorem dX12_readSum_72 : decode cX12_readSum 72 = .ok (.iconst 1, 1) := by decide +kernel
theorem dX12_readSum_73 : decode cX12_readSum 73 = .ok (.iand, 1) := by decide +kernel
theorem dX12_readSum_74 : decode cX12_readSum 74 = .ok (.iconst 1, 1) := by decide +kernel
theorem dX12_readSum_75 : decode cX12_readSum 75 = .ok (.if_icmp .ne 8, 3) := by decide +kernel
theorem dX12_readSum_78 : decode cX12_readSum 78 = .ok (.aload_n 0, 1) := by decide +kernel
theorem dX12_readSum_79 : decode cX12_readSum 79 = .ok (.iconst 3, 1) := by decide +kernel
theorem dX12_readSum_80 : decode cX12_readSum 80 = .ok (.invokevirtual 168, 3) := by decide +kernel
theorem dX12_readSum_83 : decode cX12_readSum 83 = .ok (.iload_n 1, 1) := by decide +kernel
theorem dX12_readSum_84 : decode cX12_readSum 84 = .ok (.iconst 1, 1) := by decide +kernel
theorem dX12_readSum_85 : decode cX12_readSum 85 = .ok (.aload_n 0, 1) := by decide +kernel
theorem dX12_readSum_86 : decode cX12_readSum 86 = .ok (.iconst 0, 1) := by decide +kernel
theorem dX12_readSum_87 : decode cX12_readSum 87 = .ok (.aload_n 0, 1) := by decide +kernel
theorem dX12_readSum_88 : decode cX12_readSum 88 = .ok (.getfield 202, 3) := by decide +kernel
theorem dX12_readSum_91 : decode cX12_readSum 91 = .ok (.iconst 1, 1) := by decide +kernel
theorem dX12_readSum_92 : decode cX12_readSum 92 = .ok (.isub, 1) := by decide +kernel
theorem dX12_readSum_93 : decode cX12_readSum 93 = .ok (.invokevirtual 211, 3) := by decide +kernel
theorem dX12_readSum_96 : decode cX12_readSum 96 = .ok (.ishl, 1) := by decide +kernel
theorem dX12_readSum_97 : decode cX12_readSum 97 = .ok (.ior, 1) := by decide +kernel
theorem dX12_readSum_98 : decode cX12_readSum 98 = .ok (.istore_n 1, 1) := by decide +kernel
theorem dX12_readSum_99 : decode cX12_readSum 99 = .ok (.iinc 2 1, 3) := by decide +kernel
theorem dX12_readSum_102 : decode cX12_readSum 102 = .ok (.goto (-98), 3) := by decide +kernel
theorem dX12_readSum_105 : decode cX12_readSum 105 = .ok (.aload_n 0, 1) := by decide +kernel
theorem dX12_readSum_106 : decode cX12_readSum 106 = .ok (.getfield 63, 3) := by decide +kernel
theorem dX12_readSum_109 : decode cX12_readSum 109 = .ok (.bipush 8, 2) := by decide +kernel
theorem dX12_readSum_111 : decode cX12_readSum 111 = .ok (.aload_n 0, 1) := by decide +kernel
theorem dX12_readSum_112 : decode cX12_readSum 112 = .ok (.getfield 60, 3) := by decide +kernel
theorem dX12_readSum_115 : decode cX12_readSum 115 = .ok (.iconst 2, 1) := by decide +kernel
theorem dX12_readSum_116 : decode cX12_readSum 116 = .ok (.iaload, 1) := by decide +kernel
theorem dX12_readSum_117 : decode cX12_readSum 117 = .ok (.iadd, 1) := by decide +kernel
theorem dX12_readSum_118 : decode cX12_readSum 118 = .ok (.iload_n 1, 1) := by decide +kernel
theorem dX12_readSum_119 : decode cX12_readSum 119 = .ok (.iastore, 1) := by decide +kernel
theorem dX12_readSum_120 : decode cX12_readSum 120 = .ok (.aload_n 0, 1) := by decide +kernel
theorem dX12_readSum_121 : decode cX12_readSum 121 = .ok (.getfield 60, 3) := by decide +kernel
theorem dX12_readSum_124 : decode cX12_readSum 124 = .ok (.iconst 2, 1) := by decide +kernel
theorem dX12_readSum_125 : decode cX12_readSum 125 = .ok (.dup2, 1) := by decide +kernel
theorem dX12_readSum_126 : decode cX12_readSum 126 = .ok (.iaload, 1) := by decide +kernel
theorem dX12_readSum_127 : decode cX12_readSum 127 = .ok (.iconst 1, 1) := by decide +kernel
theorem dX12_readSum_128 : decode cX12_readSum 128 = .ok (.iadd, 1) := by decide +kernel
theorem dX12_readSum_129 : decode cX12_readSum 129 = .ok (.iastore, 1) := by decide +kernel
theorem dX12_readSum_130 : decode cX12_readSum 130 = .ok (.return_, 1) := by decide +kernel
set_option maxHeartbeats 4000000 in
set_option maxRecDepth 100000 in
theorem s_X12_readSum {P : PP} {a0 : Nat} (I : IM P a0) (hf0 : ∀ b, pR P a0 15 = some b → 0 ≤ (pI P b 2).toInt ∧ (pI P b 2).toInt ≤ 3) (hW : MW P a0) : CtrV yX12_readSum cX12_readSum 3 none ({ frames := 3, cells := 0, slots := 0, locals := 192 } : Room) 0 0 P [.ref a0] (fun P2 => IM P2 a0 ∧ EM [7, 8, 15, 16] a0 P P2 ∧ MW P2 a0 ∧ ((pI P a0 7).toInt ≤ (pI P2 a0 7).toInt) ∧ ((pI P a0 8).toInt ≤ (pI P2 a0 8).toInt)) := by
  refine enV (lv := [(0, .ref a0)]) (by decide) (Nat.le_of_ble_eq_true rfl) rfl (fun E D cy C Ci0 ret => ?_)
  have ha0 := I.2.1
  have J105 : ∀ (P105 : PP) (v105_1 : Int32), (IM P105 a0) → (EM [7, 8, 15, 16] a0 P P105) → (MW P105 a0) → (0 ≤ (pI P105 a0 8).toInt ∧ (pI P105 a0 8).toInt ≤ 16005) → (∀ b, pR P105 a0 15 = some b → 0 ≤ (pI P105 b 2).toInt ∧ (pI P105 b 2).toInt ≤ 3) → ((pI P a0 7).toInt ≤ (pI P105 a0 7).toInt) → ((pI P a0 8).toInt ≤ (pI P105 a0 8).toInt) → G E ({ frames := 3, cells := 0, slots := 0, locals := 192 } : Room) D cy 3 P105 0 0 105 [(0, .ref a0), (1, .int v105_1)] [] := by
    intro P105 v105_1 I105 X105 W105 hq105_0 hq105_1 rel105_0 rel105_1
    have h75847 := X105.at ha0
    obtain ⟨b75848, e75849, h75850⟩ := I105.fld (h75847) 15 13 3 rfl
    have hq105_1 := hq105_1 b75848 e75849
    have h75851 := I105.rg h75847 7 rfl
    refine g_aload_n C dX12_readSum_105 rfl 0 rfl ?_
    obtain ⟨b75852, e75853, h75854⟩ := I105.fld (h75847) 16 13 12 rfl
    refine g_getR C fi_X12_63 rfl e75853 (h75847).1 (h75847).2 dX12_readSum_106 ?_
    refine g_bipush (v := 8) C dX12_readSum_109 (by decide) ?_
    refine g_aload_n C dX12_readSum_111 rfl 0 rfl ?_
    refine g_getR C fi_X12_60 rfl e75849 (h75847).1 (h75847).2 dX12_readSum_112 ?_
    refine g_iconst (v := 2) C dX12_readSum_115 (by decide) ?_
    refine g_iald (j := 2) C h75850.1 h75850.2.1 (IX.litn (j := 2) h75850.2.2 rfl (by decide) (by decide)) dX12_readSum_116 ?_
    refine s_iadd C dX12_readSum_117 (by show -2147483648 ≤ 8 + (pI P105 b75848 2).toInt ∧ 8 + (pI P105 b75848 2).toInt ≤ 2147483647; omega) (fun z75855 h75856 => ?_)
    have h75856 : z75855.toInt = 8 + (pI P105 b75848 2).toInt := h75856
    refine g_iload_n C dX12_readSum_118 rfl 1 rfl ?_
    refine g_iast (j := (z75855.toInt.toNat)) C h75854.1 h75854.2.1 (ix_in h75854.2.2 (by omega)) dX12_readSum_119 ?_
    refine gqW (ks := [16]) (I105.setA e75853 h75854 (by decide) (arOk.none rfl)) (EM.setA I105 e75853 rfl (by decide)) (fun Y75857 Iy75858 Xy75859 w75860  => ?_)
    have w75860 : (pI Y75857 b75852 (z75855.toInt.toNat)).toInt = v105_1.toInt := w75860
    have q75861 := Xy75859.keepF 8 (by decide)
    have q75862 := Xy75859.keepA e75849 (by decide) rfl 2
    have q75863 := Xy75859.keepF 7 (by decide)
    have W75864 := W105.keep I105 Xy75859 (by decide) (by decide) (by decide)
    have Xz75865 : EM [7, 8, 15, 16] a0 P Y75857 := EM.tr ha0 X105 (Xy75859.mono (by decide))
    have e75866 := Xy75859.ref h75847 (by decide) e75849
    have e75867 := Xy75859.ref h75847 (by decide) e75853
    have h75868 := Xy75859.at h75847
    have h75869 := Xy75859.ar h75850
    have h75870 := Xy75859.ar h75854
    refine g_aload_n C dX12_readSum_120 rfl 0 rfl ?_
    refine g_getR C fi_X12_60 rfl e75866 (h75868).1 (h75868).2 dX12_readSum_121 ?_
    refine g_iconst (v := 2) C dX12_readSum_124 (by decide) ?_
    refine g_dup2_11 C dX12_readSum_125 rfl rfl ?_
    refine g_iald (j := 2) C h75869.1 h75869.2.1 (IX.litn (j := 2) h75869.2.2 rfl (by decide) (by decide)) dX12_readSum_126 ?_
    refine g_iconst (v := 1) C dX12_readSum_127 (by decide) ?_
    refine s_iadd C dX12_readSum_128 (by show -2147483648 ≤ (pI Y75857 b75848 2).toInt + 1 ∧ (pI Y75857 b75848 2).toInt + 1 ≤ 2147483647; omega) (fun z75871 h75872 => ?_)
    have h75872 : z75871.toInt = (pI Y75857 b75848 2).toInt + 1 := h75872
    refine g_iast (j := 2) C h75869.1 h75869.2.1 (IX.litn (j := 2) h75869.2.2 rfl (by decide) (by decide)) dX12_readSum_129 ?_
    refine gqW (ks := [15]) (Iy75858.setA e75866 h75869 (by decide) (arOk.of rfl (by omega))) (EM.setA Iy75858 e75866 rfl (by decide)) (fun Y75873 Iy75874 Xy75875 w75876  => ?_)
    have w75876 : (pI Y75873 b75848 2).toInt = z75871.toInt := w75876
    have q75877 := Xy75875.keepF 8 (by decide)
    have q75878 := Xy75875.keepF 7 (by decide)
    have q75879 := Xy75875.keepA e75867 (by decide) rfl (z75855.toInt.toNat)
    have W75880 := W75864.keep Iy75858 Xy75875 (by decide) (by decide) (by decide)
    have Xz75881 : EM [7, 8, 15, 16] a0 P Y75873 := EM.tr ha0 Xz75865 (Xy75875.mono (by decide))
    have e75882 := Xy75875.ref h75868 (by decide) e75866
    have e75883 := Xy75875.ref h75868 (by decide) e75867
    have h75884 := Xy75875.at h75868
    have h75885 := Xy75875.ar h75869
    have h75886 := Xy75875.ar h75870
    exact ret _ _ _ _ _ dX12_readSum_130 (by decide) (by decide) ⟨Iy75874, Xz75881, W75880, (by show (pI P a0 7).toInt ≤ (pI Y75873 a0 7).toInt; omega), (by show (pI P a0 8).toInt ≤ (pI Y75873 a0 8).toInt; omega)⟩
  have J4 : ∀ (n4 : Nat) (P4 : PP) (v4_1 : Int32) (v4_2 : Int32), (2 * (1000 - (pI P4 a0 7).toInt) + 1 - min 1 (pI P4 a0 8).toInt).toNat < n4 → (IM P4 a0) → (EM [7, 8, 15, 16] a0 P P4) → (MW P4 a0) → (∀ b, pR P4 a0 15 = some b → 0 ≤ (pI P4 b 2).toInt ∧ (pI P4 b 2).toInt ≤ 3) → ((pI P a0 7).toInt ≤ (pI P4 a0 7).toInt) → ((pI P a0 8).toInt ≤ (pI P4 a0 8).toInt) → G E ({ frames := 3, cells := 0, slots := 0, locals := 192 } : Room) D cy 3 P4 0 0 4 [(0, .ref a0), (1, .int v4_1), (2, .int v4_2)] [] := by
    intro n4
    induction n4 with
    | zero => intro P4 v4_1 v4_2 hm4 I4 X4 W4 hq4_0 rel4_0 rel4_1; omega
    | succ n4 ih4 =>
      intro P4 v4_1 v4_2 hm4 I4 X4 W4 hq4_0 rel4_0 rel4_1
      have h75887 := X4.at ha0
      obtain ⟨b75888, e75889, h75890⟩ := I4.fld (h75887) 15 13 3 rfl
      have hq4_0 := hq4_0 b75888 e75889
      have h75891 := I4.rg h75887 7 rfl
      have h75892 := I4.rg h75887 8 rfl
      refine g_aload_n C dX12_readSum_4 rfl 0 rfl ?_
      refine g_getI C fi_X12_162 (by decide) (h75887).1 (h75887).2 dX12_readSum_5 ?_
      refine b_if_ne C 105 dX12_readSum_8 (by decide) (fun h75893 => ?_) (fun h75893 => ?_)
      · have h75893 : (pI P4 a0 8).toInt ≠ 0 := ti_ne h75893
        refine g_lv (lv' := [(0, .ref a0), (1, .int v4_1)]) [0, 1] rfl ?_
        exact J105 P4 v4_1 I4 X4 W4 (by omega) (fun b9 e9 => by rw [e75889] at e9; cases e9; omega) (by show (pI P a0 7).toInt ≤ (pI P4 a0 7).toInt; omega) (by show (pI P a0 8).toInt ≤ (pI P4 a0 8).toInt; omega)
      · have h75893 : (pI P4 a0 8).toInt = 0 := congrArg Int32.toInt h75893
        refine g_iload_n C dX12_readSum_11 rfl 2 rfl ?_
        refine g_iconst (v := 2) C dX12_readSum_12 (by decide) ?_
        have u75895 := ti_rng v4_2
        refine b_icmp_lt C 29 dX12_readSum_13 (by decide) (fun h75894 => ?_) (fun h75894 => ?_)
        · have h75894 : v4_2.toInt < 2 := h75894
          refine g_aload_n C dX12_readSum_29 rfl 0 rfl ?_
          obtain ⟨b75896, e75897, h75898⟩ := I4.fld (h75887) 4 13 1002 rfl
          refine g_getR C fi_X12_24 rfl e75897 (h75887).1 (h75887).2 dX12_readSum_30 ?_
          refine g_aload_n C dX12_readSum_33 rfl 0 rfl ?_
          refine g_getI C fi_X12_159 (by decide) (h75887).1 (h75887).2 dX12_readSum_34 ?_
          refine g_iald (j := ((pI P4 a0 7).toInt.toNat)) C h75898.1 h75898.2.1 (ix_in h75898.2.2 (by omega)) dX12_readSum_37 ?_
          have h75899 := I4.arr e75897 rfl ((pI P4 a0 7).toInt.toNat)
          refine g_iconst (v := 2) C dX12_readSum_38 (by decide) ?_
          refine b_icmp_ne C 83 dX12_readSum_39 (by decide) (fun h75900 => ?_) (fun h75900 => ?_)
          · have h75900 : (pI P4 b75896 ((pI P4 a0 7).toInt.toNat)).toInt ≠ 2 := ti_ne h75900
            refine g_iload_n C dX12_readSum_83 rfl 1 rfl ?_
            refine g_iconst (v := 1) C dX12_readSum_84 (by decide) ?_
            refine g_aload_n C dX12_readSum_85 rfl 0 rfl ?_
            refine g_iconst (v := 0) C dX12_readSum_86 (by decide) ?_
            refine g_aload_n C dX12_readSum_87 rfl 0 rfl ?_
            refine g_getI C fi_X12_202 (by decide) (h75887).1 (h75887).2 dX12_readSum_88 ?_
            have h75901 := I4.rg (h75887) 18 rfl
            refine g_iconst (v := 1) C dX12_readSum_91 (by decide) ?_
            refine s_isub C dX12_readSum_92 (by show -2147483648 ≤ (pI P4 a0 18).toInt - 1 ∧ (pI P4 a0 18).toInt - 1 ≤ 2147483647; omega) (fun z75902 h75903 => ?_)
            have h75903 : z75902.toInt = (pI P4 a0 18).toInt - 1 := h75903
            refine g_callVI (rest := [.int 1, .int v4_1]) C mv_X12_211 [.int 0, .int z75902] (s_X12_takeNumber I4 (by decide) (by omega) W4) (h75887).1 (h75887).2 rfl rfl (by decide) (Nat.le_of_ble_eq_true rfl) (by decide) dX12_readSum_93 (fun r75904 Y75905 h75906 => ?_)
            obtain ⟨Iy75907, Xy75908, W75909, p75910, p75911, p75912, h75906⟩ := h75906
            have p75910 : (pI P4 a0 7).toInt ≤ (pI Y75905 a0 7).toInt := p75910
            have p75911 : (pI P4 a0 8).toInt ≤ (pI Y75905 a0 8).toInt := p75911
            have p75912 : 1 ≤ (pI Y75905 a0 8).toInt ∨ (pI Y75905 a0 7).toInt = (pI P4 a0 7).toInt + 1 := p75912
            have q75913 := Xy75908.keepA e75889 (by decide) rfl 2
            have q75914 := Xy75908.keepF 18 (by decide)
            have Xz75915 : EM [7, 8, 15, 16] a0 P Y75905 := EM.tr ha0 X4 (Xy75908.mono (by decide))
            have e75916 := Xy75908.ref h75887 (by decide) e75889
            have h75917 := Xy75908.at h75887
            have h75918 := Xy75908.ar h75890
            have h75919 := Iy75907.rg h75917 7 rfl
            have h75920 := Iy75907.rg h75917 8 rfl
            have h75921 := Iy75907.rg h75917 7 rfl
            have h75922 := Iy75907.rg h75917 8 rfl
            obtain ⟨h75906, hi75923⟩ := h75906
            have hi75923 : (1 ≤ (pI Y75905 a0 8).toInt ∧ r75904.toInt = 0) ∨ (0 ≤ r75904.toInt ∧ r75904.toInt ≤ z75902.toInt) := hi75923
            have h75906 : 0 ≤ r75904.toInt ∧ r75904.toInt ≤ 999 := h75906
            refine a_ishl C dX12_readSum_96 (fun z75924 => ?_)
            refine a_ior C dX12_readSum_97 (fun z75926 => ?_)
            refine g_istore_n (lv' := [(1, .int z75926), (0, .ref a0), (2, .int v4_2)]) C dX12_readSum_98 rfl (by decide) rfl ?_
            refine s_iinc (lv0 := [(1, .int z75926), (0, .ref a0)]) (m := 1) C dX12_readSum_99 2 rfl (by decide) rfl (by decide) (by omega) (fun z75928 h75929 => ?_)
            have h75929 : z75928.toInt = v4_2.toInt + 1 := h75929
            refine g_goto C 4 dX12_readSum_102 (by decide) ?_
            refine g_lv (lv' := [(0, .ref a0), (1, .int z75926), (2, .int z75928)]) [2, 1, 0] rfl ?_
            exact ih4 Y75905 z75926 z75928 (by omega) Iy75907 Xz75915 W75909 (fun b9 e9 => by rw [e75916] at e9; cases e9; omega) (by show (pI P a0 7).toInt ≤ (pI Y75905 a0 7).toInt; omega) (by show (pI P a0 8).toInt ≤ (pI Y75905 a0 8).toInt; omega)
          · have h75900 : (pI P4 b75896 ((pI P4 a0 7).toInt.toNat)).toInt = 2 := congrArg Int32.toInt h75900
            refine g_aload_n C dX12_readSum_42 rfl 0 rfl ?_
            obtain ⟨b75930, e75931, h75932⟩ := I4.fld (h75887) 6 14 1002 rfl
            refine g_getR C fi_X12_30 rfl e75931 (h75887).1 (h75887).2 dX12_readSum_43 ?_
            refine g_aload_n C dX12_readSum_46 rfl 0 rfl ?_
            refine g_getI C fi_X12_159 (by decide) (h75887).1 (h75887).2 dX12_readSum_47 ?_
            refine g_lald (j := ((pI P4 a0 7).toInt.toNat)) C h75932.1 h75932.2.1 (ix_in h75932.2.2 (by omega)) dX12_readSum_50 ?_
            refine g_topl (fun l75933 _ => ?_)
            refine g_aload_n C dX12_readSum_51 rfl 0 rfl ?_
            refine g_getI C fi_X12_202 (by decide) (h75887).1 (h75887).2 dX12_readSum_52 ?_
            have h75934 := I4.rg (h75887) 18 rfl
            refine a_i2l C dX12_readSum_55 (fun l75935 => ?_)
            refine a_lcmp C dX12_readSum_56 (fun z75936 => ?_)
            have u75938 := ti_rng z75936
            refine b_if_ge C 83 dX12_readSum_57 (by decide) (fun h75937 => ?_) (fun h75937 => ?_)
            · have h75937 : 0 ≤ z75936.toInt := h75937
              refine g_iload_n C dX12_readSum_83 rfl 1 rfl ?_
              refine g_iconst (v := 1) C dX12_readSum_84 (by decide) ?_
              refine g_aload_n C dX12_readSum_85 rfl 0 rfl ?_
              refine g_iconst (v := 0) C dX12_readSum_86 (by decide) ?_
              refine g_aload_n C dX12_readSum_87 rfl 0 rfl ?_
              refine g_getI C fi_X12_202 (by decide) (h75887).1 (h75887).2 dX12_readSum_88 ?_
              refine g_iconst (v := 1) C dX12_readSum_91 (by decide) ?_
              refine s_isub C dX12_readSum_92 (by show -2147483648 ≤ (pI P4 a0 18).toInt - 1 ∧ (pI P4 a0 18).toInt - 1 ≤ 2147483647; omega) (fun z75939 h75940 => ?_)
              have h75940 : z75939.toInt = (pI P4 a0 18).toInt - 1 := h75940
              refine g_callVI (rest := [.int 1, .int v4_1]) C mv_X12_211 [.int 0, .int z75939] (s_X12_takeNumber I4 (by decide) (by omega) W4) (h75887).1 (h75887).2 rfl rfl (by decide) (Nat.le_of_ble_eq_true rfl) (by decide) dX12_readSum_93 (fun r75941 Y75942 h75943 => ?_)
              obtain ⟨Iy75944, Xy75945, W75946, p75947, p75948, p75949, h75943⟩ := h75943
              have p75947 : (pI P4 a0 7).toInt ≤ (pI Y75942 a0 7).toInt := p75947
              have p75948 : (pI P4 a0 8).toInt ≤ (pI Y75942 a0 8).toInt := p75948
              have p75949 : 1 ≤ (pI Y75942 a0 8).toInt ∨ (pI Y75942 a0 7).toInt = (pI P4 a0 7).toInt + 1 := p75949
              have q75950 := Xy75945.keepA e75889 (by decide) rfl 2
              have q75951 := Xy75945.keepF 18 (by decide)
              have Xz75952 : EM [7, 8, 15, 16] a0 P Y75942 := EM.tr ha0 X4 (Xy75945.mono (by decide))
              have e75953 := Xy75945.ref h75887 (by decide) e75889
              have h75954 := Xy75945.at h75887
              have h75955 := Xy75945.ar h75890
              have h75956 := Iy75944.rg h75954 7 rfl
              have h75957 := Iy75944.rg h75954 8 rfl
              have h75958 := Iy75944.rg h75954 7 rfl
              have h75959 := Iy75944.rg h75954 8 rfl
              obtain ⟨h75943, hi75960⟩ := h75943
              have hi75960 : (1 ≤ (pI Y75942 a0 8).toInt ∧ r75941.toInt = 0) ∨ (0 ≤ r75941.toInt ∧ r75941.toInt ≤ z75939.toInt) := hi75960
              have h75943 : 0 ≤ r75941.toInt ∧ r75941.toInt ≤ 999 := h75943
              refine a_ishl C dX12_readSum_96 (fun z75961 => ?_)
              refine a_ior C dX12_readSum_97 (fun z75963 => ?_)
              refine g_istore_n (lv' := [(1, .int z75963), (0, .ref a0), (2, .int v4_2)]) C dX12_readSum_98 rfl (by decide) rfl ?_
              refine s_iinc (lv0 := [(1, .int z75963), (0, .ref a0)]) (m := 1) C dX12_readSum_99 2 rfl (by decide) rfl (by decide) (by omega) (fun z75965 h75966 => ?_)
              have h75966 : z75965.toInt = v4_2.toInt + 1 := h75966
              refine g_goto C 4 dX12_readSum_102 (by decide) ?_
              refine g_lv (lv' := [(0, .ref a0), (1, .int z75963), (2, .int z75965)]) [2, 1, 0] rfl ?_
              exact ih4 Y75942 z75963 z75965 (by omega) Iy75944 Xz75952 W75946 (fun b9 e9 => by rw [e75953] at e9; cases e9; omega) (by show (pI P a0 7).toInt ≤ (pI Y75942 a0 7).toInt; omega) (by show (pI P a0 8).toInt ≤ (pI Y75942 a0 8).toInt; omega)
            · have h75937 : z75936.toInt < 0 := h75937
              refine g_iload_n C dX12_readSum_60 rfl 1 rfl ?_
              refine g_aload_n C dX12_readSum_61 rfl 0 rfl ?_
              refine g_getR C fi_X12_30 rfl e75931 (h75887).1 (h75887).2 dX12_readSum_62 ?_
              refine g_aload_n C dX12_readSum_65 rfl 0 rfl ?_
              refine g_getI C fi_X12_159 (by decide) (h75887).1 (h75887).2 dX12_readSum_66 ?_
              refine g_lald (j := ((pI P4 a0 7).toInt.toNat)) C h75932.1 h75932.2.1 (ix_in h75932.2.2 (by omega)) dX12_readSum_69 ?_
              refine g_topl (fun l75967 _ => ?_)
              refine a_l2i C dX12_readSum_70 (fun z75968 => ?_)
              refine a_ishr C dX12_readSum_71 (fun z75969 => ?_)
              refine g_iconst (v := 1) C dX12_readSum_72 (by decide) ?_
              refine s_iand C dX12_readSum_73 (by show 0 ≤ 1; omega) (fun z75971 h75972 => ?_)
              have h75972 : 0 ≤ z75971.toInt ∧ z75971.toInt ≤ 1 := h75972
              refine g_iconst (v := 1) C dX12_readSum_74 (by decide) ?_
              refine b_icmp_ne C 83 dX12_readSum_75 (by decide) (fun h75973 => ?_) (fun h75973 => ?_)
              · have h75973 : z75971.toInt ≠ 1 := ti_ne h75973
                refine g_iload_n C dX12_readSum_83 rfl 1 rfl ?_
                refine g_iconst (v := 1) C dX12_readSum_84 (by decide) ?_
                refine g_aload_n C dX12_readSum_85 rfl 0 rfl ?_
                refine g_iconst (v := 0) C dX12_readSum_86 (by decide) ?_
                refine g_aload_n C dX12_readSum_87 rfl 0 rfl ?_
                refine g_getI C fi_X12_202 (by decide) (h75887).1 (h75887).2 dX12_readSum_88 ?_
                refine g_iconst (v := 1) C dX12_readSum_91 (by decide) ?_
                refine s_isub C dX12_readSum_92 (by show -2147483648 ≤ (pI P4 a0 18).toInt - 1 ∧ (pI P4 a0 18).toInt - 1 ≤ 2147483647; omega) (fun z75974 h75975 => ?_)
                have h75975 : z75974.toInt = (pI P4 a0 18).toInt - 1 := h75975
                refine g_callVI (rest := [.int 1, .int v4_1]) C mv_X12_211 [.int 0, .int z75974] (s_X12_takeNumber I4 (by decide) (by omega) W4) (h75887).1 (h75887).2 rfl rfl (by decide) (Nat.le_of_ble_eq_true rfl) (by decide) dX12_readSum_93 (fun r75976 Y75977 h75978 => ?_)
                obtain ⟨Iy75979, Xy75980, W75981, p75982, p75983, p75984, h75978⟩ := h75978
                have p75982 : (pI P4 a0 7).toInt ≤ (pI Y75977 a0 7).toInt := p75982
                have p75983 : (pI P4 a0 8).toInt ≤ (pI Y75977 a0 8).toInt := p75983
                have p75984 : 1 ≤ (pI Y75977 a0 8).toInt ∨ (pI Y75977 a0 7).toInt = (pI P4 a0 7).toInt + 1 := p75984
                have q75985 := Xy75980.keepA e75889 (by decide) rfl 2
                have q75986 := Xy75980.keepF 18 (by decide)
                have Xz75987 : EM [7, 8, 15, 16] a0 P Y75977 := EM.tr ha0 X4 (Xy75980.mono (by decide))
                have e75988 := Xy75980.ref h75887 (by decide) e75889
                have h75989 := Xy75980.at h75887
                have h75990 := Xy75980.ar h75890
                have h75991 := Iy75979.rg h75989 7 rfl
                have h75992 := Iy75979.rg h75989 8 rfl
                have h75993 := Iy75979.rg h75989 7 rfl
                have h75994 := Iy75979.rg h75989 8 rfl
                obtain ⟨h75978, hi75995⟩ := h75978
                have hi75995 : (1 ≤ (pI Y75977 a0 8).toInt ∧ r75976.toInt = 0) ∨ (0 ≤ r75976.toInt ∧ r75976.toInt ≤ z75974.toInt) := hi75995
                have h75978 : 0 ≤ r75976.toInt ∧ r75976.toInt ≤ 999 := h75978
                refine a_ishl C dX12_readSum_96 (fun z75996 => ?_)
                refine a_ior C dX12_readSum_97 (fun z75998 => ?_)
                refine g_istore_n (lv' := [(1, .int z75998), (0, .ref a0), (2, .int v4_2)]) C dX12_readSum_98 rfl (by decide) rfl ?_
                refine s_iinc (lv0 := [(1, .int z75998), (0, .ref a0)]) (m := 1) C dX12_readSum_99 2 rfl (by decide) rfl (by decide) (by omega) (fun z76000 h76001 => ?_)
                have h76001 : z76000.toInt = v4_2.toInt + 1 := h76001
                refine g_goto C 4 dX12_readSum_102 (by decide) ?_
                refine g_lv (lv' := [(0, .ref a0), (1, .int z75998), (2, .int z76000)]) [2, 1, 0] rfl ?_
                exact ih4 Y75977 z75998 z76000 (by omega) Iy75979 Xz75987 W75981 (fun b9 e9 => by rw [e75988] at e9; cases e9; omega) (by show (pI P a0 7).toInt ≤ (pI Y75977 a0 7).toInt; omega) (by show (pI P a0 8).toInt ≤ (pI Y75977 a0 8).toInt; omega)
              · have h75973 : z75971.toInt = 1 := congrArg Int32.toInt h75973
                refine g_aload_n C dX12_readSum_78 rfl 0 rfl ?_
                refine g_iconst (v := 3) C dX12_readSum_79 (by decide) ?_
                refine g_callVV (rest := []) C mv_X12_168 [.int 3] (s_X12_wrong I4 (by decide) W4) (h75887).1 (h75887).2 rfl rfl (by decide) (Nat.le_of_ble_eq_true rfl) (by decide) dX12_readSum_80 (fun Y76003 h76004 => ?_)
                obtain ⟨Iy76005, Xy76006, W76007, p76008, p76009⟩ := h76004
                have p76008 : 1 ≤ (pI Y76003 a0 8).toInt := p76008
                have p76009 : (pI P4 a0 8).toInt ≤ (pI Y76003 a0 8).toInt := p76009
                have q76010 := Xy76006.keepA e75889 (by decide) rfl 2
                have q76011 := Xy76006.keepF 7 (by decide)
                have q76012 := Xy76006.keepF 18 (by decide)
                have Xz76013 : EM [7, 8, 15, 16] a0 P Y76003 := EM.tr ha0 X4 (Xy76006.mono (by decide))
                have e76014 := Xy76006.ref h75887 (by decide) e75889
                have h76015 := Xy76006.at h75887
                have h76016 := Xy76006.ar h75890
                have h76017 := Iy76005.rg h76015 8 rfl
                refine g_iload_n C dX12_readSum_83 rfl 1 rfl ?_
                refine g_iconst (v := 1) C dX12_readSum_84 (by decide) ?_
                refine g_aload_n C dX12_readSum_85 rfl 0 rfl ?_
                refine g_iconst (v := 0) C dX12_readSum_86 (by decide) ?_
                refine g_aload_n C dX12_readSum_87 rfl 0 rfl ?_
                refine g_getI C fi_X12_202 (by decide) (h76015).1 (h76015).2 dX12_readSum_88 ?_
                refine g_iconst (v := 1) C dX12_readSum_91 (by decide) ?_
                refine s_isub C dX12_readSum_92 (by show -2147483648 ≤ (pI Y76003 a0 18).toInt - 1 ∧ (pI Y76003 a0 18).toInt - 1 ≤ 2147483647; omega) (fun z76018 h76019 => ?_)
                have h76019 : z76018.toInt = (pI Y76003 a0 18).toInt - 1 := h76019
                refine g_callVI (rest := [.int 1, .int v4_1]) C mv_X12_211 [.int 0, .int z76018] (s_X12_takeNumber Iy76005 (by decide) (by omega) W76007) (h76015).1 (h76015).2 rfl rfl (by decide) (Nat.le_of_ble_eq_true rfl) (by decide) dX12_readSum_93 (fun r76020 Y76021 h76022 => ?_)
                obtain ⟨Iy76023, Xy76024, W76025, p76026, p76027, p76028, h76022⟩ := h76022
                have p76026 : (pI Y76003 a0 7).toInt ≤ (pI Y76021 a0 7).toInt := p76026
                have p76027 : (pI Y76003 a0 8).toInt ≤ (pI Y76021 a0 8).toInt := p76027
                have p76028 : 1 ≤ (pI Y76021 a0 8).toInt ∨ (pI Y76021 a0 7).toInt = (pI Y76003 a0 7).toInt + 1 := p76028
                have q76029 := Xy76024.keepA e76014 (by decide) rfl 2
                have q76030 := Xy76024.keepF 18 (by decide)
                have Xz76031 : EM [7, 8, 15, 16] a0 P Y76021 := EM.tr ha0 Xz76013 (Xy76024.mono (by decide))
                have e76032 := Xy76024.ref h76015 (by decide) e76014
                have h76033 := Xy76024.at h76015
                have h76034 := Xy76024.ar h76016
                have h76035 := Iy76023.rg h76033 7 rfl
                have h76036 := Iy76023.rg h76033 8 rfl
                have h76037 := Iy76023.rg h76033 7 rfl
                have h76038 := Iy76023.rg h76033 8 rfl
                obtain ⟨h76022, hi76039⟩ := h76022
                have hi76039 : (1 ≤ (pI Y76021 a0 8).toInt ∧ r76020.toInt = 0) ∨ (0 ≤ r76020.toInt ∧ r76020.toInt ≤ z76018.toInt) := hi76039
                have h76022 : 0 ≤ r76020.toInt ∧ r76020.toInt ≤ 999 := h76022
                refine a_ishl C dX12_readSum_96 (fun z76040 => ?_)
                refine a_ior C dX12_readSum_97 (fun z76042 => ?_)
                refine g_istore_n (lv' := [(1, .int z76042), (0, .ref a0), (2, .int v4_2)]) C dX12_readSum_98 rfl (by decide) rfl ?_
                refine s_iinc (lv0 := [(1, .int z76042), (0, .ref a0)]) (m := 1) C dX12_readSum_99 2 rfl (by decide) rfl (by decide) (by omega) (fun z76044 h76045 => ?_)
                have h76045 : z76044.toInt = v4_2.toInt + 1 := h76045
                refine g_goto C 4 dX12_readSum_102 (by decide) ?_
                refine g_lv (lv' := [(0, .ref a0), (1, .int z76042), (2, .int z76044)]) [2, 1, 0] rfl ?_
                exact ih4 Y76021 z76042 z76044 (by omega) Iy76023 Xz76031 W76025 (fun b9 e9 => by rw [e76032] at e9; cases e9; omega) (by show (pI P a0 7).toInt ≤ (pI Y76021 a0 7).toInt; omega) (by show (pI P a0 8).toInt ≤ (pI Y76021 a0 8).toInt; omega)
        · have h75894 : 2 ≤ v4_2.toInt := h75894
          refine g_aload_n C dX12_readSum_16 rfl 0 rfl ?_
          obtain ⟨b76046, e76047, h76048⟩ := I4.fld (h75887) 4 13 1002 rfl
          refine g_getR C fi_X12_24 rfl e76047 (h75887).1 (h75887).2 dX12_readSum_17 ?_
          refine g_aload_n C dX12_readSum_20 rfl 0 rfl ?_
          refine g_getI C fi_X12_159 (by decide) (h75887).1 (h75887).2 dX12_readSum_21 ?_
          refine g_iald (j := ((pI P4 a0 7).toInt.toNat)) C h76048.1 h76048.2.1 (ix_in h76048.2.2 (by omega)) dX12_readSum_24 ?_
          have h76049 := I4.arr e76047 rfl ((pI P4 a0 7).toInt.toNat)
          refine g_iconst (v := 2) C dX12_readSum_25 (by decide) ?_
          refine b_icmp_ne C 105 dX12_readSum_26 (by decide) (fun h76050 => ?_) (fun h76050 => ?_)
          · have h76050 : (pI P4 b76046 ((pI P4 a0 7).toInt.toNat)).toInt ≠ 2 := ti_ne h76050
            refine g_lv (lv' := [(0, .ref a0), (1, .int v4_1)]) [0, 1] rfl ?_
            exact J105 P4 v4_1 I4 X4 W4 (by omega) (fun b9 e9 => by rw [e75889] at e9; cases e9; omega) (by show (pI P a0 7).toInt ≤ (pI P4 a0 7).toInt; omega) (by show (pI P a0 8).toInt ≤ (pI P4 a0 8).toInt; omega)
          · have h76050 : (pI P4 b76046 ((pI P4 a0 7).toInt.toNat)).toInt = 2 := congrArg Int32.toInt h76050
            refine g_aload_n C dX12_readSum_29 rfl 0 rfl ?_
            refine g_getR C fi_X12_24 rfl e76047 (h75887).1 (h75887).2 dX12_readSum_30 ?_
            refine g_aload_n C dX12_readSum_33 rfl 0 rfl ?_
            refine g_getI C fi_X12_159 (by decide) (h75887).1 (h75887).2 dX12_readSum_34 ?_
            refine g_iald (j := ((pI P4 a0 7).toInt.toNat)) C h76048.1 h76048.2.1 (ix_in h76048.2.2 (by omega)) dX12_readSum_37 ?_
            refine g_iconst (v := 2) C dX12_readSum_38 (by decide) ?_
            refine b_icmp_ne C 83 dX12_readSum_39 (by decide) (fun h76051 => ?_) (fun h76051 => ?_)
            · have h76051 : (pI P4 b76046 ((pI P4 a0 7).toInt.toNat)).toInt ≠ 2 := ti_ne h76051
              omega
            · have h76051 : (pI P4 b76046 ((pI P4 a0 7).toInt.toNat)).toInt = 2 := congrArg Int32.toInt h76051
              refine g_aload_n C dX12_readSum_42 rfl 0 rfl ?_
              obtain ⟨b76052, e76053, h76054⟩ := I4.fld (h75887) 6 14 1002 rfl
              refine g_getR C fi_X12_30 rfl e76053 (h75887).1 (h75887).2 dX12_readSum_43 ?_
              refine g_aload_n C dX12_readSum_46 rfl 0 rfl ?_
              refine g_getI C fi_X12_159 (by decide) (h75887).1 (h75887).2 dX12_readSum_47 ?_
              refine g_lald (j := ((pI P4 a0 7).toInt.toNat)) C h76054.1 h76054.2.1 (ix_in h76054.2.2 (by omega)) dX12_readSum_50 ?_
              refine g_topl (fun l76055 _ => ?_)
              refine g_aload_n C dX12_readSum_51 rfl 0 rfl ?_
              refine g_getI C fi_X12_202 (by decide) (h75887).1 (h75887).2 dX12_readSum_52 ?_
              have h76056 := I4.rg (h75887) 18 rfl
              refine a_i2l C dX12_readSum_55 (fun l76057 => ?_)
              refine a_lcmp C dX12_readSum_56 (fun z76058 => ?_)
              have u76060 := ti_rng z76058
              refine b_if_ge C 83 dX12_readSum_57 (by decide) (fun h76059 => ?_) (fun h76059 => ?_)
              · have h76059 : 0 ≤ z76058.toInt := h76059
                refine g_iload_n C dX12_readSum_83 rfl 1 rfl ?_
                refine g_iconst (v := 1) C dX12_readSum_84 (by decide) ?_
                refine g_aload_n C dX12_readSum_85 rfl 0 rfl ?_
                refine g_iconst (v := 0) C dX12_readSum_86 (by decide) ?_
                refine g_aload_n C dX12_readSum_87 rfl 0 rfl ?_
                refine g_getI C fi_X12_202 (by decide) (h75887).1 (h75887).2 dX12_readSum_88 ?_
                refine g_iconst (v := 1) C dX12_readSum_91 (by decide) ?_
                refine s_isub C dX12_readSum_92 (by show -2147483648 ≤ (pI P4 a0 18).toInt - 1 ∧ (pI P4 a0 18).toInt - 1 ≤ 2147483647; omega) (fun z76061 h76062 => ?_)
                have h76062 : z76061.toInt = (pI P4 a0 18).toInt - 1 := h76062
                refine g_callVI (rest := [.int 1, .int v4_1]) C mv_X12_211 [.int 0, .int z76061] (s_X12_takeNumber I4 (by decide) (by omega) W4) (h75887).1 (h75887).2 rfl rfl (by decide) (Nat.le_of_ble_eq_true rfl) (by decide) dX12_readSum_93 (fun r76063 Y76064 h76065 => ?_)
                obtain ⟨Iy76066, Xy76067, W76068, p76069, p76070, p76071, h76065⟩ := h76065
                have p76069 : (pI P4 a0 7).toInt ≤ (pI Y76064 a0 7).toInt := p76069
                have p76070 : (pI P4 a0 8).toInt ≤ (pI Y76064 a0 8).toInt := p76070
                have p76071 : 1 ≤ (pI Y76064 a0 8).toInt ∨ (pI Y76064 a0 7).toInt = (pI P4 a0 7).toInt + 1 := p76071
                have q76072 := Xy76067.keepA e75889 (by decide) rfl 2
                have q76073 := Xy76067.keepF 18 (by decide)
                have Xz76074 : EM [7, 8, 15, 16] a0 P Y76064 := EM.tr ha0 X4 (Xy76067.mono (by decide))
                have e76075 := Xy76067.ref h75887 (by decide) e75889
                have h76076 := Xy76067.at h75887
                have h76077 := Xy76067.ar h75890
                have h76078 := Iy76066.rg h76076 7 rfl
                have h76079 := Iy76066.rg h76076 8 rfl
                have h76080 := Iy76066.rg h76076 7 rfl
                have h76081 := Iy76066.rg h76076 8 rfl
                obtain ⟨h76065, hi76082⟩ := h76065
                have hi76082 : (1 ≤ (pI Y76064 a0 8).toInt ∧ r76063.toInt = 0) ∨ (0 ≤ r76063.toInt ∧ r76063.toInt ≤ z76061.toInt) := hi76082
                have h76065 : 0 ≤ r76063.toInt ∧ r76063.toInt ≤ 999 := h76065
                refine a_ishl C dX12_readSum_96 (fun z76083 => ?_)
                refine a_ior C dX12_readSum_97 (fun z76085 => ?_)
                refine g_istore_n (lv' := [(1, .int z76085), (0, .ref a0), (2, .int v4_2)]) C dX12_readSum_98 rfl (by decide) rfl ?_
                refine a_iinc (lv0 := [(1, .int z76085), (0, .ref a0)]) C dX12_readSum_99 2 rfl (by decide) rfl (fun z76087 => ?_)
                refine g_goto C 4 dX12_readSum_102 (by decide) ?_
                refine g_lv (lv' := [(0, .ref a0), (1, .int z76085), (2, .int z76087)]) [2, 1, 0] rfl ?_
                exact ih4 Y76064 z76085 z76087 (by omega) Iy76066 Xz76074 W76068 (fun b9 e9 => by rw [e76075] at e9; cases e9; omega) (by show (pI P a0 7).toInt ≤ (pI Y76064 a0 7).toInt; omega) (by show (pI P a0 8).toInt ≤ (pI Y76064 a0 8).toInt; omega)
              · have h76059 : z76058.toInt < 0 := h76059
                refine g_iload_n C dX12_readSum_60 rfl 1 rfl ?_
                refine g_aload_n C dX12_readSum_61 rfl 0 rfl ?_
                refine g_getR C fi_X12_30 rfl e76053 (h75887).1 (h75887).2 dX12_readSum_62 ?_
                refine g_aload_n C dX12_readSum_65 rfl 0 rfl ?_
                refine g_getI C fi_X12_159 (by decide) (h75887).1 (h75887).2 dX12_readSum_66 ?_
                refine g_lald (j := ((pI P4 a0 7).toInt.toNat)) C h76054.1 h76054.2.1 (ix_in h76054.2.2 (by omega)) dX12_readSum_69 ?_
                refine g_topl (fun l76089 _ => ?_)
                refine a_l2i C dX12_readSum_70 (fun z76090 => ?_)
                refine a_ishr C dX12_readSum_71 (fun z76091 => ?_)
                refine g_iconst (v := 1) C dX12_readSum_72 (by decide) ?_
                refine s_iand C dX12_readSum_73 (by show 0 ≤ 1; omega) (fun z76093 h76094 => ?_)
                have h76094 : 0 ≤ z76093.toInt ∧ z76093.toInt ≤ 1 := h76094
                refine g_iconst (v := 1) C dX12_readSum_74 (by decide) ?_
                refine b_icmp_ne C 83 dX12_readSum_75 (by decide) (fun h76095 => ?_) (fun h76095 => ?_)
                · have h76095 : z76093.toInt ≠ 1 := ti_ne h76095
                  refine g_iload_n C dX12_readSum_83 rfl 1 rfl ?_
                  refine g_iconst (v := 1) C dX12_readSum_84 (by decide) ?_
                  refine g_aload_n C dX12_readSum_85 rfl 0 rfl ?_
                  refine g_iconst (v := 0) C dX12_readSum_86 (by decide) ?_
                  refine g_aload_n C dX12_readSum_87 rfl 0 rfl ?_
                  refine g_getI C fi_X12_202 (by decide) (h75887).1 (h75887).2 dX12_readSum_88 ?_
                  refine g_iconst (v := 1) C dX12_readSum_91 (by decide) ?_
                  refine s_isub C dX12_readSum_92 (by show -2147483648 ≤ (pI P4 a0 18).toInt - 1 ∧ (pI P4 a0 18).toInt - 1 ≤ 2147483647; omega) (fun z76096 h76097 => ?_)
                  have h76097 : z76096.toInt = (pI P4 a0 18).toInt - 1 := h76097
                  refine g_callVI (rest := [.int 1, .int v4_1]) C mv_X12_211 [.int 0, .int z76096] (s_X12_takeNumber I4 (by decide) (by omega) W4) (h75887).1 (h75887).2 rfl rfl (by decide) (Nat.le_of_ble_eq_true rfl) (by decide) dX12_readSum_93 (fun r76098 Y76099 h76100 => ?_)
                  obtain ⟨Iy76101, Xy76102, W76103, p76104, p76105, p76106, h76100⟩ := h76100
                  have p76104 : (pI P4 a0 7).toInt ≤ (pI Y76099 a0 7).toInt := p76104
                  have p76105 : (pI P4 a0 8).toInt ≤ (pI Y76099 a0 8).toInt := p76105
                  have p76106 : 1 ≤ (pI Y76099 a0 8).toInt ∨ (pI Y76099 a0 7).toInt = (pI P4 a0 7).toInt + 1 := p76106
                  have q76107 := Xy76102.keepA e75889 (by decide) rfl 2
                  have q76108 := Xy76102.keepF 18 (by decide)
                  have Xz76109 : EM [7, 8, 15, 16] a0 P Y76099 := EM.tr ha0 X4 (Xy76102.mono (by decide))
                  have e76110 := Xy76102.ref h75887 (by decide) e75889
                  have h76111 := Xy76102.at h75887
                  have h76112 := Xy76102.ar h75890
                  have h76113 := Iy76101.rg h76111 7 rfl
                  have h76114 := Iy76101.rg h76111 8 rfl
                  have h76115 := Iy76101.rg h76111 7 rfl
                  have h76116 := Iy76101.rg h76111 8 rfl
                  obtain ⟨h76100, hi76117⟩ := h76100
                  have hi76117 : (1 ≤ (pI Y76099 a0 8).toInt ∧ r76098.toInt = 0) ∨ (0 ≤ r76098.toInt ∧ r76098.toInt ≤ z76096.toInt) := hi76117
                  have h76100 : 0 ≤ r76098.toInt ∧ r76098.toInt ≤ 999 := h76100
                  refine a_ishl C dX12_readSum_96 (fun z76118 => ?_)
                  refine a_ior C dX12_readSum_97 (fun z76120 => ?_)
                  refine g_istore_n (lv' := [(1, .int z76120), (0, .ref a0), (2, .int v4_2)]) C dX12_readSum_98 rfl (by decide) rfl ?_
                  refine a_iinc (lv0 := [(1, .int z76120), (0, .ref a0)]) C dX12_readSum_99 2 rfl (by decide) rfl (fun z76122 => ?_)
                  refine g_goto C 4 dX12_readSum_102 (by decide) ?_
                  refine g_lv (lv' := [(0, .ref a0), (1, .int z76120), (2, .int z76122)]) [2, 1, 0] rfl ?_
                  exact ih4 Y76099 z76120 z76122 (by omega) Iy76101 Xz76109 W76103 (fun b9 e9 => by rw [e76110] at e9; cases e9; omega) (by show (pI P a0 7).toInt ≤ (pI Y76099 a0 7).toInt; omega) (by show (pI P a0 8).toInt ≤ (pI Y76099 a0 8).toInt; omega)
                · have h76095 : z76093.toInt = 1 := congrArg Int32.toInt h76095
                  refine g_aload_n C dX12_readSum_78 rfl 0 rfl ?_
                  refine g_iconst (v := 3) C dX12_readSum_79 (by decide) ?_
                  refine g_callVV (rest := []) C mv_X12_168 [.int 3] (s_X12_wrong I4 (by decide) W4) (h75887).1 (h75887).2 rfl rfl (by decide) (Nat.le_of_ble_eq_true rfl) (by decide) dX12_readSum_80 (fun Y76125 h76126 => ?_)
                  obtain ⟨Iy76127, Xy76128, W76129, p76130, p76131⟩ := h76126
                  have p76130 : 1 ≤ (pI Y76125 a0 8).toInt := p76130
                  have p76131 : (pI P4 a0 8).toInt ≤ (pI Y76125 a0 8).toInt := p76131
                  have q76132 := Xy76128.keepA e75889 (by decide) rfl 2
                  have q76133 := Xy76128.keepF 7 (by decide)
                  have q76134 := Xy76128.keepF 18 (by decide)
                  have Xz76135 : EM [7, 8, 15, 16] a0 P Y76125 := EM.tr ha0 X4 (Xy76128.mono (by decide))
                  have e76136 := Xy76128.ref h75887 (by decide) e75889
                  have h76137 := Xy76128.at h75887
                  have h76138 := Xy76128.ar h75890
                  have h76139 := Iy76127.rg h76137 8 rfl
                  refine g_iload_n C dX12_readSum_83 rfl 1 rfl ?_
                  refine g_iconst (v := 1) C dX12_readSum_84 (by decide) ?_
                  refine g_aload_n C dX12_readSum_85 rfl 0 rfl ?_
                  refine g_iconst (v := 0) C dX12_readSum_86 (by decide) ?_
                  refine g_aload_n C dX12_readSum_87 rfl 0 rfl ?_
                  refine g_getI C fi_X12_202 (by decide) (h76137).1 (h76137).2 dX12_readSum_88 ?_
                  refine g_iconst (v := 1) C dX12_readSum_91 (by decide) ?_
                  refine s_isub C dX12_readSum_92 (by show -2147483648 ≤ (pI Y76125 a0 18).toInt - 1 ∧ (pI Y76125 a0 18).toInt - 1 ≤ 2147483647; omega) (fun z76140 h76141 => ?_)
                  have h76141 : z76140.toInt = (pI Y76125 a0 18).toInt - 1 := h76141
                  refine g_callVI (rest := [.int 1, .int v4_1]) C mv_X12_211 [.int 0, .int z76140] (s_X12_takeNumber Iy76127 (by decide) (by omega) W76129) (h76137).1 (h76137).2 rfl rfl (by decide) (Nat.le_of_ble_eq_true rfl) (by decide) dX12_readSum_93 (fun r76142 Y76143 h76144 => ?_)
                  obtain ⟨Iy76145, Xy76146, W76147, p76148, p76149, p76150, h76144⟩ := h76144
                  have p76148 : (pI Y76125 a0 7).toInt ≤ (pI Y76143 a0 7).toInt := p76148
                  have p76149 : (pI Y76125 a0 8).toInt ≤ (pI Y76143 a0 8).toInt := p76149
                  have p76150 : 1 ≤ (pI Y76143 a0 8).toInt ∨ (pI Y76143 a0 7).toInt = (pI Y76125 a0 7).toInt + 1 := p76150
                  have q76151 := Xy76146.keepA e76136 (by decide) rfl 2
                  have q76152 := Xy76146.keepF 18 (by decide)
                  have Xz76153 : EM [7, 8, 15, 16] a0 P Y76143 := EM.tr ha0 Xz76135 (Xy76146.mono (by decide))
                  have e76154 := Xy76146.ref h76137 (by decide) e76136
                  have h76155 := Xy76146.at h76137
                  have h76156 := Xy76146.ar h76138
                  have h76157 := Iy76145.rg h76155 7 rfl
                  have h76158 := Iy76145.rg h76155 8 rfl
                  have h76159 := Iy76145.rg h76155 7 rfl
                  have h76160 := Iy76145.rg h76155 8 rfl
                  obtain ⟨h76144, hi76161⟩ := h76144
                  have hi76161 : (1 ≤ (pI Y76143 a0 8).toInt ∧ r76142.toInt = 0) ∨ (0 ≤ r76142.toInt ∧ r76142.toInt ≤ z76140.toInt) := hi76161
                  have h76144 : 0 ≤ r76142.toInt ∧ r76142.toInt ≤ 999 := h76144
                  refine a_ishl C dX12_readSum_96 (fun z76162 => ?_)
                  refine a_ior C dX12_readSum_97 (fun z76164 => ?_)
                  refine g_istore_n (lv' := [(1, .int z76164), (0, .ref a0), (2, .int v4_2)]) C dX12_readSum_98 rfl (by decide) rfl ?_
                  refine a_iinc (lv0 := [(1, .int z76164), (0, .ref a0)]) C dX12_readSum_99 2 rfl (by decide) rfl (fun z76166 => ?_)
                  refine g_goto C 4 dX12_readSum_102 (by decide) ?_
                  refine g_lv (lv' := [(0, .ref a0), (1, .int z76164), (2, .int z76166)]) [2, 1, 0] rfl ?_
                  exact ih4 Y76143 z76164 z76166 (by omega) Iy76145 Xz76153 W76147 (fun b9 e9 => by rw [e76154] at e9; cases e9; omega) (by show (pI P a0 7).toInt ≤ (pI Y76143 a0 7).toInt; omega) (by show (pI P a0 8).toInt ≤ (pI Y76143 a0 8).toInt; omega)
  obtain ⟨b76168, e76169, h76170⟩ := I.fld (ha0) 15 13 3 rfl
  have hf0 := hf0 b76168 e76169
  have h76171 := I.rg ha0 7 rfl
  have h76172 := I.rg ha0 8 rfl
  refine g_iconst (v := 0) C dX12_readSum_0 (by decide) ?_
  refine g_istore_n (lv' := [(1, .int 0), (0, .ref a0)]) C dX12_readSum_1 rfl (by decide) rfl ?_
  refine g_iconst (v := 0) C dX12_readSum_2 (by decide) ?_
  refine g_istore_n (lv' := [(2, .int 0), (1, .int 0), (0, .ref a0)]) C dX12_readSum_3 rfl (by decide) rfl ?_
  refine g_lv (lv' := [(0, .ref a0), (1, .int 0), (2, .int 0)]) [2, 1, 0] rfl ?_
  exact J4 _ P 0 0 (Nat.lt_succ_self _) I EM.rf hW (fun b9 e9 => by rw [e76169] at e9; cases e9; omega) (by show (pI P a0 7).toInt ≤ (pI P a0 7).toInt; omega) (by show (pI P a0 8).toInt ≤ (pI P a0 8).toInt; omega)
