theorem dX12_apart_44 : decode cX12_apart 44 = .ok (.iconst (-1), 1) := by decide +kernel
theorem dX12_apart_45 : decode cX12_apart 45 = .ok (.ireturn, 1) := by decide +kernel
theorem dX12_apart_50 : decode cX12_apart 50 = .ok (.iconst 0, 1) := by decide +kernel
theorem dX12_apart_51 : decode cX12_apart 51 = .ok (.istore_n 3, 1) := by decide +kernel
theorem dX12_apart_52 : decode cX12_apart 52 = .ok (.iconst 0, 1) := by decide +kernel
theorem dX12_apart_53 : decode cX12_apart 53 = .ok (.istore 4, 2) := by decide +kernel
theorem dX12_apart_55 : decode cX12_apart 55 = .ok (.iload 4, 2) := by decide +kernel
theorem dX12_apart_57 : decode cX12_apart 57 = .ok (.iload_n 2, 1) := by decide +kernel
theorem dX12_apart_58 : decode cX12_apart 58 = .ok (.if_icmp .ge 32, 3) := by decide +kernel
theorem dX12_apart_61 : decode cX12_apart 61 = .ok (.iload_n 3, 1) := by decide +kernel
theorem dX12_apart_62 : decode cX12_apart 62 = .ok (.aload_n 0, 1) := by decide +kernel
theorem dX12_apart_63 : decode cX12_apart 63 = .ok (.getfield 75, 3) := by decide +kernel
theorem dX12_apart_66 : decode cX12_apart 66 = .ok (.bipush 40, 2) := by decide +kernel
theorem dX12_apart_68 : decode cX12_apart 68 = .ok (.iload_n 1, 1) := by decide +kernel
theorem dX12_apart_69 : decode cX12_apart 69 = .ok (.imul, 1) := by decide +kernel
theorem dX12_apart_70 : decode cX12_apart 70 = .ok (.iload 4, 2) := by decide +kernel
theorem dX12_apart_72 : decode cX12_apart 72 = .ok (.iadd, 1) := by decide +kernel
theorem dX12_apart_73 : decode cX12_apart 73 = .ok (.iaload, 1) := by decide +kernel
theorem dX12_apart_74 : decode cX12_apart 74 = .ok (.ifCond .ge 7, 3) := by decide +kernel
theorem dX12_apart_77 : decode cX12_apart 77 = .ok (.iconst 1, 1) := by decide +kernel
theorem dX12_apart_78 : decode cX12_apart 78 = .ok (.goto 4, 3) := by decide +kernel
theorem dX12_apart_81 : decode cX12_apart 81 = .ok (.iconst 0, 1) := by decide +kernel
theorem dX12_apart_90 : decode cX12_apart 90 = .ok (.iconst 0, 1) := by decide +kernel
theorem dX12_apart_91 : decode cX12_apart 91 = .ok (.istore 4, 2) := by decide +kernel
theorem dX12_apart_93 : decode cX12_apart 93 = .ok (.iconst 0, 1) := by decide +kernel
theorem dX12_apart_94 : decode cX12_apart 94 = .ok (.istore 5, 2) := by decide +kernel
theorem dX12_apart_96 : decode cX12_apart 96 = .ok (.iconst 0, 1) := by decide +kernel
theorem dX12_apart_97 : decode cX12_apart 97 = .ok (.istore 6, 2) := by decide +kernel
theorem dX12_apart_99 : decode cX12_apart 99 = .ok (.iload 6, 2) := by decide +kernel
theorem dX12_apart_101 : decode cX12_apart 101 = .ok (.iconst 1, 1) := by decide +kernel
theorem dX12_apart_102 : decode cX12_apart 102 = .ok (.aload_n 0, 1) := by decide +kernel
theorem dX12_apart_103 : decode cX12_apart 103 = .ok (.iload_n 1, 1) := by decide +kernel
theorem dX12_apart_104 : decode cX12_apart 104 = .ok (.invokevirtual 295, 3) := by decide +kernel
theorem dX12_namelessIn_0 : decode cX12_namelessIn 0 = .ok (.iconst 0, 1) := by decide +kernel
theorem dX12_namelessIn_1 : decode cX12_namelessIn 1 = .ok (.istore_n 2, 1) := by decide +kernel
theorem dX12_namelessIn_2 : decode cX12_namelessIn 2 = .ok (.iconst 0, 1) := by decide +kernel
theorem dX12_namelessIn_3 : decode cX12_namelessIn 3 = .ok (.istore_n 3, 1) := by decide +kernel
theorem dX12_namelessIn_4 : decode cX12_namelessIn 4 = .ok (.iload_n 3, 1) := by decide +kernel
theorem dX12_namelessIn_5 : decode cX12_namelessIn 5 = .ok (.aload_n 0, 1) := by decide +kernel
theorem dX12_namelessIn_6 : decode cX12_namelessIn 6 = .ok (.getfield 69, 3) := by decide +kernel
theorem dX12_namelessIn_9 : decode cX12_namelessIn 9 = .ok (.iload_n 1, 1) := by decide +kernel
theorem dX12_namelessIn_10 : decode cX12_namelessIn 10 = .ok (.iaload, 1) := by decide +kernel
theorem dX12_namelessIn_11 : decode cX12_namelessIn 11 = .ok (.if_icmp .ge 31, 3) := by decide +kernel
theorem dX12_namelessIn_14 : decode cX12_namelessIn 14 = .ok (.iload_n 2, 1) := by decide +kernel
theorem dX12_namelessIn_15 : decode cX12_namelessIn 15 = .ok (.aload_n 0, 1) := by decide +kernel
theorem dX12_namelessIn_16 : decode cX12_namelessIn 16 = .ok (.getfield 75, 3) := by decide +kernel
theorem dX12_namelessIn_19 : decode cX12_namelessIn 19 = .ok (.bipush 40, 2) := by decide +kernel
theorem dX12_namelessIn_21 : decode cX12_namelessIn 21 = .ok (.iload_n 1, 1) := by decide +kernel
theorem dX12_namelessIn_22 : decode cX12_namelessIn 22 = .ok (.imul, 1) := by decide +kernel
theorem dX12_namelessIn_23 : decode cX12_namelessIn 23 = .ok (.iload_n 3, 1) := by decide +kernel
theorem dX12_namelessIn_24 : decode cX12_namelessIn 24 = .ok (.iadd, 1) := by decide +kernel
theorem dX12_namelessIn_25 : decode cX12_namelessIn 25 = .ok (.iaload, 1) := by decide +kernel
theorem dX12_namelessIn_26 : decode cX12_namelessIn 26 = .ok (.ifCond .ge 7, 3) := by decide +kernel
theorem dX12_namelessIn_29 : decode cX12_namelessIn 29 = .ok (.iconst 1, 1) := by decide +kernel
theorem dX12_namelessIn_30 : decode cX12_namelessIn 30 = .ok (.goto 4, 3) := by decide +kernel
theorem dX12_namelessIn_33 : decode cX12_namelessIn 33 = .ok (.iconst 0, 1) := by decide +kernel
theorem dX12_namelessIn_34 : decode cX12_namelessIn 34 = .ok (.iadd, 1) := by decide +kernel
theorem dX12_namelessIn_35 : decode cX12_namelessIn 35 = .ok (.istore_n 2, 1) := by decide +kernel
theorem dX12_namelessIn_36 : decode cX12_namelessIn 36 = .ok (.iinc 3 1, 3) := by decide +kernel
theorem dX12_namelessIn_39 : decode cX12_namelessIn 39 = .ok (.goto (-35), 3) := by decide +kernel
theorem dX12_namelessIn_42 : decode cX12_namelessIn 42 = .ok (.iload_n 2, 1) := by decide +kernel
theorem dX12_namelessIn_43 : decode cX12_namelessIn 43 = .ok (.ireturn, 1) := by decide +kernel
set_option maxHeartbeats 4000000 in
set_option maxRecDepth 100000 in
theorem s_X12_namelessIn {P : PP} {a0 : Nat} {a1 : Int32} (I : IM P a0) (ha1 : 0 ≤ a1.toInt ∧ a1.toInt ≤ 3) (hW : MW P a0) : CtrI yX12_namelessIn cX12_namelessIn 4 (some Jvm.ClassFile.FieldType.int) ({ frames := 1, cells := 0, slots := 0, locals := 64 } : Room) 0 0 P [.ref a0, .int a1] (fun r P2 => P = P2 ∧ (True)) := by
  refine enI (lv := [(0, .ref a0), (1, .int a1)]) (by decide) (Nat.le_of_ble_eq_true rfl) rfl (fun E D cy C Ci0 ret => ?_)
  have ha0 := I.2.1
  have J4 : ∀ (n4 : Nat) (v4_2 : Int32) (v4_3 : Int32), (40 - v4_3.toInt).toNat < n4 → (0 ≤ v4_3.toInt ∧ v4_3.toInt ≤ 40) → G E ({ frames := 1, cells := 0, slots := 0, locals := 64 } : Room) D cy 4 P 0 0 4 [(0, .ref a0), (1, .int a1), (2, .int v4_2), (3, .int v4_3)] [] := by
    intro n4
    induction n4 with
    | zero => intro v4_2 v4_3 hm4 hv4_3; omega
    | succ n4 ih4 =>
      intro v4_2 v4_3 hm4 hv4_3
      have J34 : ∀ (v34_s0 : Int32), (0 ≤ v4_3.toInt ∧ v4_3.toInt ≤ 39) → (0 ≤ v34_s0.toInt ∧ v34_s0.toInt ≤ 1) → (∀ b, pR P a0 20 = some b → 1 ≤ (pI P b (a1.toInt.toNat)).toInt ∧ (pI P b (a1.toInt.toNat)).toInt ≤ 40) → G E ({ frames := 1, cells := 0, slots := 0, locals := 64 } : Room) D cy 4 P 0 0 34 [(0, .ref a0), (1, .int a1), (3, .int v4_3)] [.int v34_s0, .int v4_2] := by
        intro v34_s0 hv34_3 hv34_s0 hq34_0
        obtain ⟨b22880, e22881, h22882⟩ := I.fld (ha0) 20 13 20 rfl
        have hq34_0 := hq34_0 b22880 e22881
        refine a_iadd C dX12_namelessIn_34 (fun z22883 => ?_)
        refine g_istore_n (lv' := [(2, .int z22883), (0, .ref a0), (1, .int a1), (3, .int v4_3)]) C dX12_namelessIn_35 rfl (by decide) rfl ?_
        refine s_iinc (lv0 := [(2, .int z22883), (0, .ref a0), (1, .int a1)]) (m := 1) C dX12_namelessIn_36 3 rfl (by decide) rfl (by decide) (by omega) (fun z22885 h22886 => ?_)
        have h22886 : z22885.toInt = v4_3.toInt + 1 := h22886
        refine g_goto C 4 dX12_namelessIn_39 (by decide) ?_
        refine g_lv (lv' := [(0, .ref a0), (1, .int a1), (2, .int z22883), (3, .int z22885)]) [2, 3, 1, 0] rfl ?_
        exact ih4 z22883 z22885 (by omega) (by omega)
      refine g_iload_n C dX12_namelessIn_4 rfl 3 rfl ?_
      refine g_aload_n C dX12_namelessIn_5 rfl 0 rfl ?_
      obtain ⟨b22887, e22888, h22889⟩ := I.fld (ha0) 20 13 20 rfl
      refine g_getR C fi_X12_69 rfl e22888 (ha0).1 (ha0).2 dX12_namelessIn_6 ?_
      refine g_iload_n C dX12_namelessIn_9 rfl 1 rfl ?_
      refine g_iald (j := (a1.toInt.toNat)) C h22889.1 h22889.2.1 (ix_in h22889.2.2 (by omega)) dX12_namelessIn_10 ?_
      have h22890 := I.arr e22888 rfl (a1.toInt.toNat)
      refine b_icmp_ge C 42 dX12_namelessIn_11 (by decide) (fun h22891 => ?_) (fun h22891 => ?_)
      · have h22891 : (pI P b22887 (a1.toInt.toNat)).toInt ≤ v4_3.toInt := h22891
        refine g_iload_n C dX12_namelessIn_42 rfl 2 rfl ?_
        exact ret _ _ _ _ _ _ dX12_namelessIn_43 rfl (by decide) (by decide) ⟨rfl, trivial⟩
      · have h22891 : v4_3.toInt < (pI P b22887 (a1.toInt.toNat)).toInt := h22891
        refine g_iload_n C dX12_namelessIn_14 rfl 2 rfl ?_
        refine g_aload_n C dX12_namelessIn_15 rfl 0 rfl ?_
        obtain ⟨b22892, e22893, h22894⟩ := I.fld (ha0) 22 13 800 rfl
        refine g_getR C fi_X12_75 rfl e22893 (ha0).1 (ha0).2 dX12_namelessIn_16 ?_
        refine g_bipush (v := 40) C dX12_namelessIn_19 (by decide) ?_
        refine g_iload_n C dX12_namelessIn_21 rfl 1 rfl ?_
        refine s_imul C dX12_namelessIn_22 (by show -2147483648 ≤ 40 * a1.toInt ∧ 40 * a1.toInt ≤ 2147483647; omega) (fun z22895 h22896 => ?_)
        have h22896 : z22895.toInt = 40 * a1.toInt := h22896
        refine g_iload_n C dX12_namelessIn_23 rfl 3 rfl ?_
        refine s_iadd C dX12_namelessIn_24 (by show -2147483648 ≤ z22895.toInt + v4_3.toInt ∧ z22895.toInt + v4_3.toInt ≤ 2147483647; omega) (fun z22897 h22898 => ?_)
        have h22898 : z22897.toInt = z22895.toInt + v4_3.toInt := h22898
        refine g_iald (j := (z22897.toInt.toNat)) C h22894.1 h22894.2.1 (ix_in h22894.2.2 (by omega)) dX12_namelessIn_25 ?_
        have h22899 := I.arr e22893 rfl (z22897.toInt.toNat)
        refine b_if_ge C 33 dX12_namelessIn_26 (by decide) (fun h22900 => ?_) (fun h22900 => ?_)
        · have h22900 : 0 ≤ (pI P b22892 (z22897.toInt.toNat)).toInt := h22900
          refine g_iconst (v := 0) C dX12_namelessIn_33 (by decide) ?_
          refine g_lv (lv' := [(0, .ref a0), (1, .int a1), (3, .int v4_3)]) [0, 1, 3] rfl ?_
          exact J34 0 (by omega) (by decide) (fun b9 e9 => by rw [e22888] at e9; cases e9; omega)
        · have h22900 : (pI P b22892 (z22897.toInt.toNat)).toInt < 0 := h22900
          refine g_iconst (v := 1) C dX12_namelessIn_29 (by decide) ?_
          refine g_goto C 34 dX12_namelessIn_30 (by decide) ?_
          refine g_lv (lv' := [(0, .ref a0), (1, .int a1), (3, .int v4_3)]) [0, 1, 3] rfl ?_
          exact J34 1 (by omega) (by decide) (fun b9 e9 => by rw [e22888] at e9; cases e9; omega)
  refine g_iconst (v := 0) C dX12_namelessIn_0 (by decide) ?_
  refine g_istore_n (lv' := [(2, .int 0), (0, .ref a0), (1, .int a1)]) C dX12_namelessIn_1 rfl (by decide) rfl ?_
  refine g_iconst (v := 0) C dX12_namelessIn_2 (by decide) ?_
  refine g_istore_n (lv' := [(3, .int 0), (2, .int 0), (0, .ref a0), (1, .int a1)]) C dX12_namelessIn_3 rfl (by decide) rfl ?_
  refine g_lv (lv' := [(0, .ref a0), (1, .int a1), (2, .int 0), (3, .int 0)]) [2, 3, 1, 0] rfl ?_
  exact J4 _ 0 0 (Nat.lt_succ_self _) (by decide)
theorem dX12_apart_82 : decode cX12_apart 82 = .ok (.iadd, 1) := by decide +kernel
theorem dX12_apart_83 : decode cX12_apart 83 = .ok (.istore_n 3, 1) := by decide +kernel
theorem dX12_apart_84 : decode cX12_apart 84 = .ok (.iinc 4 1, 3) := by decide +kernel
theorem dX12_apart_87 : decode cX12_apart 87 = .ok (.goto (-32), 3) := by decide +kernel
theorem dX12_apart_107 : decode cX12_apart 107 = .ok (.ishl, 1) := by decide +kernel
theorem dX12_apart_108 : decode cX12_apart 108 = .ok (.if_icmp .ge 74, 3) := by decide +kernel
theorem dX12_apart_111 : decode cX12_apart 111 = .ok (.aload_n 0, 1) := by decide +kernel
theorem dX12_apart_112 : decode cX12_apart 112 = .ok (.iload_n 1, 1) := by decide +kernel
theorem dX12_apart_113 : decode cX12_apart 113 = .ok (.iconst 0, 1) := by decide +kernel
theorem dX12_apart_114 : decode cX12_apart 114 = .ok (.iload 6, 2) := by decide +kernel
theorem dX12_apart_116 : decode cX12_apart 116 = .ok (.invokevirtual 396, 3) := by decide +kernel
theorem dX12_apart_119 : decode cX12_apart 119 = .ok (.ifCond .eq 57, 3) := by decide +kernel
theorem dX12_apart_122 : decode cX12_apart 122 = .ok (.aload_n 0, 1) := by decide +kernel
theorem dX12_apart_123 : decode cX12_apart 123 = .ok (.iload_n 1, 1) := by decide +kernel
theorem dX12_apart_124 : decode cX12_apart 124 = .ok (.iconst 1, 1) := by decide +kernel
theorem dX12_apart_125 : decode cX12_apart 125 = .ok (.iload 6, 2) := by decide +kernel
theorem dX12_apart_127 : decode cX12_apart 127 = .ok (.invokevirtual 396, 3) := by decide +kernel
theorem dX12_apart_130 : decode cX12_apart 130 = .ok (.ifCond .eq 46, 3) := by decide +kernel
theorem dX12_apart_133 : decode cX12_apart 133 = .ok (.iload 4, 2) := by decide +kernel
theorem dX12_apart_135 : decode cX12_apart 135 = .ok (.ifCond .ne 12, 3) := by decide +kernel
theorem dX12_apart_138 : decode cX12_apart 138 = .ok (.iload 6, 2) := by decide +kernel
theorem dX12_apart_140 : decode cX12_apart 140 = .ok (.iload_n 3, 1) := by decide +kernel
theorem dX12_apart_141 : decode cX12_apart 141 = .ok (.ishr, 1) := by decide +kernel
theorem dX12_apart_142 : decode cX12_apart 142 = .ok (.iconst 1, 1) := by decide +kernel
theorem dX12_apart_143 : decode cX12_apart 143 = .ok (.iand, 1) := by decide +kernel
theorem dX12_apart_144 : decode cX12_apart 144 = .ok (.ifCond .ne 7, 3) := by decide +kernel
theorem dX12_apart_147 : decode cX12_apart 147 = .ok (.iconst 1, 1) := by decide +kernel
theorem dX12_apart_148 : decode cX12_apart 148 = .ok (.goto 4, 3) := by decide +kernel
theorem dX12_apart_151 : decode cX12_apart 151 = .ok (.iconst 0, 1) := by decide +kernel
theorem dX12_apart_152 : decode cX12_apart 152 = .ok (.istore 4, 2) := by decide +kernel
theorem dX12_apart_154 : decode cX12_apart 154 = .ok (.iload 5, 2) := by decide +kernel
theorem dX12_apart_156 : decode cX12_apart 156 = .ok (.ifCond .ne 13, 3) := by decide +kernel
theorem dX12_apart_159 : decode cX12_apart 159 = .ok (.iload 6, 2) := by decide +kernel
theorem dX12_apart_161 : decode cX12_apart 161 = .ok (.iload_n 3, 1) := by decide +kernel
theorem dX12_apart_162 : decode cX12_apart 162 = .ok (.ishr, 1) := by decide +kernel
theorem dX12_apart_163 : decode cX12_apart 163 = .ok (.iconst 1, 1) := by decide +kernel
theorem dX12_apart_164 : decode cX12_apart 164 = .ok (.iand, 1) := by decide +kernel
theorem dX12_apart_165 : decode cX12_apart 165 = .ok (.iconst 1, 1) := by decide +kernel
theorem dX12_apart_166 : decode cX12_apart 166 = .ok (.if_icmp .ne 7, 3) := by decide +kernel
theorem dX12_apart_169 : decode cX12_apart 169 = .ok (.iconst 1, 1) := by decide +kernel
theorem dX12_apart_170 : decode cX12_apart 170 = .ok (.goto 4, 3) := by decide +kernel
theorem dX12_apart_173 : decode cX12_apart 173 = .ok (.iconst 0, 1) := by decide +kernel
theorem dX12_apart_174 : decode cX12_apart 174 = .ok (.istore 5, 2) := by decide +kernel
theorem dX12_apart_176 : decode cX12_apart 176 = .ok (.iinc 6 1, 3) := by decide +kernel
theorem dX12_apart_179 : decode cX12_apart 179 = .ok (.goto (-80), 3) := by decide +kernel
theorem dX12_apart_182 : decode cX12_apart 182 = .ok (.iload 4, 2) := by decide +kernel
theorem dX12_apart_184 : decode cX12_apart 184 = .ok (.ifCond .eq 12, 3) := by decide +kernel
theorem dX12_apart_187 : decode cX12_apart 187 = .ok (.iload 5, 2) := by decide +kernel
theorem dX12_apart_189 : decode cX12_apart 189 = .ok (.ifCond .eq 7, 3) := by decide +kernel
theorem dX12_apart_192 : decode cX12_apart 192 = .ok (.iconst 2, 1) := by decide +kernel
theorem dX12_apart_193 : decode cX12_apart 193 = .ok (.goto 22, 3) := by decide +kernel
theorem dX12_apart_196 : decode cX12_apart 196 = .ok (.iload 4, 2) := by decide +kernel
theorem dX12_apart_198 : decode cX12_apart 198 = .ok (.ifCond .eq 7, 3) := by decide +kernel
theorem dX12_apart_201 : decode cX12_apart 201 = .ok (.iconst 0, 1) := by decide +kernel
theorem dX12_apart_202 : decode cX12_apart 202 = .ok (.goto 13, 3) := by decide +kernel
theorem dX12_apart_205 : decode cX12_apart 205 = .ok (.iload 5, 2) := by decide +kernel
theorem dX12_apart_207 : decode cX12_apart 207 = .ok (.ifCond .eq 7, 3) := by decide +kernel
theorem dX12_apart_210 : decode cX12_apart 210 = .ok (.iconst 1, 1) := by decide +kernel
theorem dX12_apart_211 : decode cX12_apart 211 = .ok (.goto 4, 3) := by decide +kernel
theorem dX12_apart_214 : decode cX12_apart 214 = .ok (.iconst (-1), 1) := by decide +kernel
theorem dX12_apart_215 : decode cX12_apart 215 = .ok (.ireturn, 1) := by decide +kernel
set_option maxHeartbeats 4000000 in
set_option maxRecDepth 100000 in
theorem s_X12_apart {P : PP} {a0 : Nat} {a1 : Int32} {a2 : Int32} (I : IM P a0) (hW : MW P a0) : CtrI yX12_apart cX12_apart 7 (some Jvm.ClassFile.FieldType.int) ({ frames := 6, cells := 0, slots := 0, locals := 384 } : Room) 0 0 P [.ref a0, .int a1, .int a2] (fun r P2 => IM P2 a0 ∧ EM [0, 28, 29, 30, 31, 32, 35, 36, 37, 38] a0 P P2 ∧ MW P2 a0 ∧ (-1 ≤ r.toInt ∧ r.toInt ≤ 2)) := by
  refine enI (lv := [(0, .ref a0), (1, .int a1), (2, .int a2)]) (by decide) (Nat.le_of_ble_eq_true rfl) rfl (fun E D cy C Ci0 ret => ?_)
  have ha0 := I.2.1
  have J196 : ∀ (P196 : PP) (v196_4 : Int32) (v196_5 : Int32), (IM P196 a0) → (EM [0, 28, 29, 30, 31, 32, 35, 36, 37, 38] a0 P P196) → (MW P196 a0) → (0 ≤ v196_4.toInt ∧ v196_4.toInt ≤ 1) → (0 ≤ v196_5.toInt ∧ v196_5.toInt ≤ 1) → (0 ≤ (pI P196 a0 0).toInt ∧ (pI P196 a0 0).toInt ≤ 0) → (∀ b, pR P196 a0 10 = some b → 1 ≤ (pI P196 b 0).toInt ∧ (pI P196 b 0).toInt ≤ 16) → (∀ b, pR P196 a0 10 = some b → 1 ≤ (pI P196 b 1).toInt ∧ (pI P196 b 1).toInt ≤ 16) → (∀ b, pR P196 a0 20 = some b → 1 ≤ (pI P196 b (a1.toInt.toNat)).toInt ∧ (pI P196 b (a1.toInt.toNat)).toInt ≤ 40) → G E ({ frames := 6, cells := 0, slots := 0, locals := 384 } : Room) D cy 7 P196 0 0 196 [(4, .int v196_4), (5, .int v196_5)] [] := by
    intro P196 v196_4 v196_5 I196 X196 W196 hv196_4 hv196_5 hq196_0 hq196_1 hq196_2 hq196_3
    have h27399 := X196.at ha0
    obtain ⟨b27400, e27401, h27402⟩ := I196.fld (h27399) 10 13 2 rfl
    have hq196_1 := hq196_1 b27400 e27401
    have hq196_2 := hq196_2 b27400 e27401
    obtain ⟨b27403, e27404, h27405⟩ := I196.fld (h27399) 20 13 20 rfl
    have hq196_3 := hq196_3 b27403 e27404
    refine g_iload C dX12_apart_196 0 rfl ?_
    refine b_if_eq C 205 dX12_apart_198 (by decide) (fun h27406 => ?_) (fun h27406 => ?_)
    · have h27406 : v196_4.toInt = 0 := congrArg Int32.toInt h27406
      refine g_iload C dX12_apart_205 1 rfl ?_
      refine b_if_eq C 214 dX12_apart_207 (by decide) (fun h27407 => ?_) (fun h27407 => ?_)
      · have h27407 : v196_5.toInt = 0 := congrArg Int32.toInt h27407
        refine g_iconst (v := (-1)) C dX12_apart_214 (by decide) ?_
        exact ret _ _ _ _ _ _ dX12_apart_215 rfl (by decide) (by decide) ⟨I196, X196, W196, (by decide)⟩
      · have h27407 : v196_5.toInt ≠ 0 := ti_ne h27407
        refine g_iconst (v := 1) C dX12_apart_210 (by decide) ?_
        refine g_goto C 215 dX12_apart_211 (by decide) ?_
        exact ret _ _ _ _ _ _ dX12_apart_215 rfl (by decide) (by decide) ⟨I196, X196, W196, (by decide)⟩
    · have h27406 : v196_4.toInt ≠ 0 := ti_ne h27406
      refine g_iconst (v := 0) C dX12_apart_201 (by decide) ?_
      refine g_goto C 215 dX12_apart_202 (by decide) ?_
      exact ret _ _ _ _ _ _ dX12_apart_215 rfl (by decide) (by decide) ⟨I196, X196, W196, (by decide)⟩
  have J99 : ∀ (n99 : Nat) (P99 : PP) (v99_3 : Int32) (v99_4 : Int32) (v99_5 : Int32) (v99_6 : Int32), (2147483647 - v99_6.toInt).toNat < n99 → (IM P99 a0) → (EM [0, 28, 29, 30, 31, 32, 35, 36, 37, 38] a0 P P99) → (MW P99 a0) → (0 ≤ a1.toInt ∧ a1.toInt ≤ 3) → (0 ≤ v99_4.toInt ∧ v99_4.toInt ≤ 1) → (0 ≤ v99_5.toInt ∧ v99_5.toInt ≤ 1) → (0 ≤ v99_6.toInt) → (0 ≤ (pI P99 a0 0).toInt ∧ (pI P99 a0 0).toInt ≤ 0) → (∀ b, pR P99 a0 10 = some b → 1 ≤ (pI P99 b 0).toInt ∧ (pI P99 b 0).toInt ≤ 16) → (∀ b, pR P99 a0 10 = some b → 1 ≤ (pI P99 b 1).toInt ∧ (pI P99 b 1).toInt ≤ 16) → (∀ b, pR P99 a0 20 = some b → 1 ≤ (pI P99 b (a1.toInt.toNat)).toInt ∧ (pI P99 b (a1.toInt.toNat)).toInt ≤ 40) → G E ({ frames := 6, cells := 0, slots := 0, locals := 384 } : Room) D cy 7 P99 0 0 99 [(0, .ref a0), (1, .int a1), (3, .int v99_3), (4, .int v99_4), (5, .int v99_5), (6, .int v99_6)] [] := by
    intro n99
    induction n99 with
    | zero => intro P99 v99_3 v99_4 v99_5 v99_6 hm99 I99 X99 W99 hv99_1 hv99_4 hv99_5 hv99_6 hq99_0 hq99_1 hq99_2 hq99_3; omega
    | succ n99 ih99 =>
      intro P99 v99_3 v99_4 v99_5 v99_6 hm99 I99 X99 W99 hv99_1 hv99_4 hv99_5 hv99_6 hq99_0 hq99_1 hq99_2 hq99_3
      have h27408 := X99.at ha0
      obtain ⟨b27409, e27410, h27411⟩ := I99.fld (h27408) 10 13 2 rfl
      have hq99_1 := hq99_1 b27409 e27410
      have hq99_2 := hq99_2 b27409 e27410
      obtain ⟨b27412, e27413, h27414⟩ := I99.fld (h27408) 20 13 20 rfl
      have hq99_3 := hq99_3 b27412 e27413
      have J176 : ∀ (P176 : PP) (v176_4 : Int32) (v176_5 : Int32), (IM P176 a0) → (EM [0, 28, 29, 30, 31, 32, 35, 36, 37, 38] a0 P P176) → (MW P176 a0) → (0 ≤ a1.toInt ∧ a1.toInt ≤ 3) → (0 ≤ v176_4.toInt ∧ v176_4.toInt ≤ 1) → (0 ≤ v176_5.toInt ∧ v176_5.toInt ≤ 1) → (0 ≤ v99_6.toInt ∧ v99_6.toInt ≤ 2147483646) → (0 ≤ (pI P176 a0 0).toInt ∧ (pI P176 a0 0).toInt ≤ 0) → (∀ b, pR P176 a0 10 = some b → 1 ≤ (pI P176 b 0).toInt ∧ (pI P176 b 0).toInt ≤ 16) → (∀ b, pR P176 a0 10 = some b → 1 ≤ (pI P176 b 1).toInt ∧ (pI P176 b 1).toInt ≤ 16) → (∀ b, pR P176 a0 20 = some b → 1 ≤ (pI P176 b (a1.toInt.toNat)).toInt ∧ (pI P176 b (a1.toInt.toNat)).toInt ≤ 40) → G E ({ frames := 6, cells := 0, slots := 0, locals := 384 } : Room) D cy 7 P176 0 0 176 [(0, .ref a0), (1, .int a1), (3, .int v99_3), (4, .int v176_4), (5, .int v176_5), (6, .int v99_6)] [] := by
        intro P176 v176_4 v176_5 I176 X176 W176 hv176_1 hv176_4 hv176_5 hv176_6 hq176_0 hq176_1 hq176_2 hq176_3
        have h27415 := X176.at ha0
        obtain ⟨b27416, e27417, h27418⟩ := I176.fld (h27415) 10 13 2 rfl
        have hq176_1 := hq176_1 b27416 e27417
        have hq176_2 := hq176_2 b27416 e27417
        obtain ⟨b27419, e27420, h27421⟩ := I176.fld (h27415) 20 13 20 rfl
        have hq176_3 := hq176_3 b27419 e27420
        refine s_iinc (lv0 := [(0, .ref a0), (1, .int a1), (3, .int v99_3), (4, .int v176_4), (5, .int v176_5)]) (m := 1) C dX12_apart_176 5 rfl (by decide) rfl (by decide) (by omega) (fun z27422 h27423 => ?_)
        have h27423 : z27422.toInt = v99_6.toInt + 1 := h27423
        refine g_goto C 99 dX12_apart_179 (by decide) ?_
        refine g_lv (lv' := [(0, .ref a0), (1, .int a1), (3, .int v99_3), (4, .int v176_4), (5, .int v176_5), (6, .int z27422)]) [1, 2, 3, 4, 5, 0] rfl ?_
        exact ih99 P176 v99_3 v176_4 v176_5 z27422 (by omega) I176 X176 W176 (by omega) (by omega) (by omega) (by omega) (by omega) (fun b9 e9 => by rw [e27417] at e9; cases e9; omega) (fun b9 e9 => by rw [e27417] at e9; cases e9; omega) (fun b9 e9 => by rw [e27420] at e9; cases e9; omega)
      have J174 : ∀ (P174 : PP) (v174_4 : Int32) (v174_s0 : Int32), (IM P174 a0) → (EM [0, 28, 29, 30, 31, 32, 35, 36, 37, 38] a0 P P174) → (MW P174 a0) → (0 ≤ a1.toInt ∧ a1.toInt ≤ 3) → (0 ≤ v174_4.toInt ∧ v174_4.toInt ≤ 1) → (0 ≤ v99_6.toInt ∧ v99_6.toInt ≤ 2147483646) → (0 ≤ v174_s0.toInt ∧ v174_s0.toInt ≤ 1) → (0 ≤ (pI P174 a0 0).toInt ∧ (pI P174 a0 0).toInt ≤ 0) → (∀ b, pR P174 a0 10 = some b → 1 ≤ (pI P174 b 0).toInt ∧ (pI P174 b 0).toInt ≤ 16) → (∀ b, pR P174 a0 10 = some b → 1 ≤ (pI P174 b 1).toInt ∧ (pI P174 b 1).toInt ≤ 16) → (∀ b, pR P174 a0 20 = some b → 1 ≤ (pI P174 b (a1.toInt.toNat)).toInt ∧ (pI P174 b (a1.toInt.toNat)).toInt ≤ 40) → G E ({ frames := 6, cells := 0, slots := 0, locals := 384 } : Room) D cy 7 P174 0 0 174 [(0, .ref a0), (1, .int a1), (3, .int v99_3), (4, .int v174_4), (6, .int v99_6)] [.int v174_s0] := by
        intro P174 v174_4 v174_s0 I174 X174 W174 hv174_1 hv174_4 hv174_6 hv174_s0 hq174_0 hq174_1 hq174_2 hq174_3
        have h27424 := X174.at ha0
        obtain ⟨b27425, e27426, h27427⟩ := I174.fld (h27424) 10 13 2 rfl
        have hq174_1 := hq174_1 b27425 e27426
        have hq174_2 := hq174_2 b27425 e27426
        obtain ⟨b27428, e27429, h27430⟩ := I174.fld (h27424) 20 13 20 rfl
        have hq174_3 := hq174_3 b27428 e27429
        refine g_istore (lv' := [(5, .int v174_s0), (0, .ref a0), (1, .int a1), (3, .int v99_3), (4, .int v174_4), (6, .int v99_6)]) C dX12_apart_174 (by decide) rfl ?_
        refine g_lv (lv' := [(0, .ref a0), (1, .int a1), (3, .int v99_3), (4, .int v174_4), (5, .int v174_s0), (6, .int v99_6)]) [1, 2, 3, 4, 0, 5] rfl ?_
        exact J176 P174 v174_4 v174_s0 I174 X174 W174 (by omega) (by omega) (by omega) (by omega) (by omega) (fun b9 e9 => by rw [e27426] at e9; cases e9; omega) (fun b9 e9 => by rw [e27426] at e9; cases e9; omega) (fun b9 e9 => by rw [e27429] at e9; cases e9; omega)
      have J169 : ∀ (P169 : PP) (v169_4 : Int32), (IM P169 a0) → (EM [0, 28, 29, 30, 31, 32, 35, 36, 37, 38] a0 P P169) → (MW P169 a0) → (0 ≤ a1.toInt ∧ a1.toInt ≤ 3) → (0 ≤ v169_4.toInt ∧ v169_4.toInt ≤ 1) → (0 ≤ v99_6.toInt ∧ v99_6.toInt ≤ 2147483646) → (0 ≤ (pI P169 a0 0).toInt ∧ (pI P169 a0 0).toInt ≤ 0) → (∀ b, pR P169 a0 10 = some b → 1 ≤ (pI P169 b 0).toInt ∧ (pI P169 b 0).toInt ≤ 16) → (∀ b, pR P169 a0 10 = some b → 1 ≤ (pI P169 b 1).toInt ∧ (pI P169 b 1).toInt ≤ 16) → (∀ b, pR P169 a0 20 = some b → 1 ≤ (pI P169 b (a1.toInt.toNat)).toInt ∧ (pI P169 b (a1.toInt.toNat)).toInt ≤ 40) → G E ({ frames := 6, cells := 0, slots := 0, locals := 384 } : Room) D cy 7 P169 0 0 169 [(0, .ref a0), (1, .int a1), (3, .int v99_3), (4, .int v169_4), (6, .int v99_6)] [] := by
        intro P169 v169_4 I169 X169 W169 hv169_1 hv169_4 hv169_6 hq169_0 hq169_1 hq169_2 hq169_3
        have h27431 := X169.at ha0
        obtain ⟨b27432, e27433, h27434⟩ := I169.fld (h27431) 10 13 2 rfl
        have hq169_1 := hq169_1 b27432 e27433
        have hq169_2 := hq169_2 b27432 e27433
        obtain ⟨b27435, e27436, h27437⟩ := I169.fld (h27431) 20 13 20 rfl
        have hq169_3 := hq169_3 b27435 e27436
        refine g_iconst (v := 1) C dX12_apart_169 (by decide) ?_
        refine g_goto C 174 dX12_apart_170 (by decide) ?_
        exact J174 P169 v169_4 1 I169 X169 W169 (by omega) (by omega) (by omega) (by decide) (by omega) (fun b9 e9 => by rw [e27433] at e9; cases e9; omega) (fun b9 e9 => by rw [e27433] at e9; cases e9; omega) (fun b9 e9 => by rw [e27436] at e9; cases e9; omega)
      have J152 : ∀ (P152 : PP) (v152_s0 : Int32), (IM P152 a0) → (EM [0, 28, 29, 30, 31, 32, 35, 36, 37, 38] a0 P P152) → (MW P152 a0) → (0 ≤ a1.toInt ∧ a1.toInt ≤ 3) → (0 ≤ v99_6.toInt ∧ v99_6.toInt ≤ 2147483646) → (0 ≤ v152_s0.toInt ∧ v152_s0.toInt ≤ 1) → (0 ≤ (pI P152 a0 0).toInt ∧ (pI P152 a0 0).toInt ≤ 0) → (∀ b, pR P152 a0 10 = some b → 1 ≤ (pI P152 b 0).toInt ∧ (pI P152 b 0).toInt ≤ 16) → (∀ b, pR P152 a0 10 = some b → 1 ≤ (pI P152 b 1).toInt ∧ (pI P152 b 1).toInt ≤ 16) → (∀ b, pR P152 a0 20 = some b → 1 ≤ (pI P152 b (a1.toInt.toNat)).toInt ∧ (pI P152 b (a1.toInt.toNat)).toInt ≤ 40) → G E ({ frames := 6, cells := 0, slots := 0, locals := 384 } : Room) D cy 7 P152 0 0 152 [(0, .ref a0), (1, .int a1), (3, .int v99_3), (5, .int v99_5), (6, .int v99_6)] [.int v152_s0] := by
        intro P152 v152_s0 I152 X152 W152 hv152_1 hv152_6 hv152_s0 hq152_0 hq152_1 hq152_2 hq152_3
        have h27438 := X152.at ha0
        obtain ⟨b27439, e27440, h27441⟩ := I152.fld (h27438) 10 13 2 rfl
        have hq152_1 := hq152_1 b27439 e27440
        have hq152_2 := hq152_2 b27439 e27440
        obtain ⟨b27442, e27443, h27444⟩ := I152.fld (h27438) 20 13 20 rfl
        have hq152_3 := hq152_3 b27442 e27443
        refine g_istore (lv' := [(4, .int v152_s0), (0, .ref a0), (1, .int a1), (3, .int v99_3), (5, .int v99_5), (6, .int v99_6)]) C dX12_apart_152 (by decide) rfl ?_
        refine g_iload C dX12_apart_154 4 rfl ?_
        refine b_if_ne C 169 dX12_apart_156 (by decide) (fun h27445 => ?_) (fun h27445 => ?_)
        · have h27445 : v99_5.toInt ≠ 0 := ti_ne h27445
          refine g_lv (lv' := [(0, .ref a0), (1, .int a1), (3, .int v99_3), (4, .int v152_s0), (6, .int v99_6)]) [1, 2, 3, 0, 5] rfl ?_
          exact J169 P152 v152_s0 I152 X152 W152 (by omega) (by omega) (by omega) (by omega) (fun b9 e9 => by rw [e27440] at e9; cases e9; omega) (fun b9 e9 => by rw [e27440] at e9; cases e9; omega) (fun b9 e9 => by rw [e27443] at e9; cases e9; omega)
        · have h27445 : v99_5.toInt = 0 := congrArg Int32.toInt h27445
          refine g_iload C dX12_apart_159 5 rfl ?_
          refine g_iload_n C dX12_apart_161 rfl 3 rfl ?_
          refine a_ishr C dX12_apart_162 (fun z27446 => ?_)
          refine g_iconst (v := 1) C dX12_apart_163 (by decide) ?_
          refine s_iand C dX12_apart_164 (by show 0 ≤ 1; omega) (fun z27448 h27449 => ?_)
          have h27449 : 0 ≤ z27448.toInt ∧ z27448.toInt ≤ 1 := h27449
          refine g_iconst (v := 1) C dX12_apart_165 (by decide) ?_
          refine b_icmp_ne C 173 dX12_apart_166 (by decide) (fun h27450 => ?_) (fun h27450 => ?_)
          · have h27450 : z27448.toInt ≠ 1 := ti_ne h27450
            refine g_iconst (v := 0) C dX12_apart_173 (by decide) ?_
            refine g_lv (lv' := [(0, .ref a0), (1, .int a1), (3, .int v99_3), (4, .int v152_s0), (6, .int v99_6)]) [1, 2, 3, 0, 5] rfl ?_
            exact J174 P152 v152_s0 0 I152 X152 W152 (by omega) (by omega) (by omega) (by decide) (by omega) (fun b9 e9 => by rw [e27440] at e9; cases e9; omega) (fun b9 e9 => by rw [e27440] at e9; cases e9; omega) (fun b9 e9 => by rw [e27443] at e9; cases e9; omega)
          · have h27450 : z27448.toInt = 1 := congrArg Int32.toInt h27450
            refine g_lv (lv' := [(0, .ref a0), (1, .int a1), (3, .int v99_3), (4, .int v152_s0), (6, .int v99_6)]) [1, 2, 3, 0, 5] rfl ?_
            exact J169 P152 v152_s0 I152 X152 W152 (by omega) (by omega) (by omega) (by omega) (fun b9 e9 => by rw [e27440] at e9; cases e9; omega) (fun b9 e9 => by rw [e27440] at e9; cases e9; omega) (fun b9 e9 => by rw [e27443] at e9; cases e9; omega)
      have J147 : ∀ (P147 : PP), (IM P147 a0) → (EM [0, 28, 29, 30, 31, 32, 35, 36, 37, 38] a0 P P147) → (MW P147 a0) → (0 ≤ a1.toInt ∧ a1.toInt ≤ 3) → (0 ≤ v99_6.toInt ∧ v99_6.toInt ≤ 2147483646) → (0 ≤ (pI P147 a0 0).toInt ∧ (pI P147 a0 0).toInt ≤ 0) → (∀ b, pR P147 a0 10 = some b → 1 ≤ (pI P147 b 0).toInt ∧ (pI P147 b 0).toInt ≤ 16) → (∀ b, pR P147 a0 10 = some b → 1 ≤ (pI P147 b 1).toInt ∧ (pI P147 b 1).toInt ≤ 16) → (∀ b, pR P147 a0 20 = some b → 1 ≤ (pI P147 b (a1.toInt.toNat)).toInt ∧ (pI P147 b (a1.toInt.toNat)).toInt ≤ 40) → G E ({ frames := 6, cells := 0, slots := 0, locals := 384 } : Room) D cy 7 P147 0 0 147 [(0, .ref a0), (1, .int a1), (3, .int v99_3), (5, .int v99_5), (6, .int v99_6)] [] := by
        intro P147 I147 X147 W147 hv147_1 hv147_6 hq147_0 hq147_1 hq147_2 hq147_3
        have h27451 := X147.at ha0
        obtain ⟨b27452, e27453, h27454⟩ := I147.fld (h27451) 10 13 2 rfl
        have hq147_1 := hq147_1 b27452 e27453
        have hq147_2 := hq147_2 b27452 e27453
        obtain ⟨b27455, e27456, h27457⟩ := I147.fld (h27451) 20 13 20 rfl
        have hq147_3 := hq147_3 b27455 e27456
        refine g_iconst (v := 1) C dX12_apart_147 (by decide) ?_
        refine g_goto C 152 dX12_apart_148 (by decide) ?_
        exact J152 P147 1 I147 X147 W147 (by omega) (by omega) (by decide) (by omega) (fun b9 e9 => by rw [e27453] at e9; cases e9; omega) (fun b9 e9 => by rw [e27453] at e9; cases e9; omega) (fun b9 e9 => by rw [e27456] at e9; cases e9; omega)
      refine g_iload C dX12_apart_99 5 rfl ?_
      refine g_iconst (v := 1) C dX12_apart_101 (by decide) ?_
      refine g_aload_n C dX12_apart_102 rfl 0 rfl ?_
      refine g_iload_n C dX12_apart_103 rfl 1 rfl ?_
      refine g_callVI (rest := [.int 1, .int v99_6]) C mv_X12_295 [.int a1] (s_X12_namelessIn I99 (by omega) W99) (h27408).1 (h27408).2 rfl rfl (by decide) (Nat.le_of_ble_eq_true rfl) (by decide) dX12_apart_104 (fun r27458 Y27459 h27460 => ?_)
      obtain ⟨rfl, h27460⟩ := h27460
      have h27460 : True := h27460
      refine a_ishl C dX12_apart_107 (fun z27461 => ?_)
      have u27464 := ti_rng v99_6
      have u27465 := ti_rng z27461
      refine b_icmp_ge C 182 dX12_apart_108 (by decide) (fun h27463 => ?_) (fun h27463 => ?_)
      · have h27463 : z27461.toInt ≤ v99_6.toInt := h27463
        refine g_iload C dX12_apart_182 3 rfl ?_
        refine b_if_eq C 196 dX12_apart_184 (by decide) (fun h27466 => ?_) (fun h27466 => ?_)
        · have h27466 : v99_4.toInt = 0 := congrArg Int32.toInt h27466
          refine g_lv (lv' := [(4, .int v99_4), (5, .int v99_5)]) [3, 4] rfl ?_
          exact J196 P99 v99_4 v99_5 I99 X99 W99 (by omega) (by omega) (by omega) (fun b9 e9 => by rw [e27410] at e9; cases e9; omega) (fun b9 e9 => by rw [e27410] at e9; cases e9; omega) (fun b9 e9 => by rw [e27413] at e9; cases e9; omega)
        · have h27466 : v99_4.toInt ≠ 0 := ti_ne h27466
          refine g_iload C dX12_apart_187 4 rfl ?_
          refine b_if_eq C 196 dX12_apart_189 (by decide) (fun h27467 => ?_) (fun h27467 => ?_)
          · have h27467 : v99_5.toInt = 0 := congrArg Int32.toInt h27467
            refine g_lv (lv' := [(4, .int v99_4), (5, .int v99_5)]) [3, 4] rfl ?_
            exact J196 P99 v99_4 v99_5 I99 X99 W99 (by omega) (by omega) (by omega) (fun b9 e9 => by rw [e27410] at e9; cases e9; omega) (fun b9 e9 => by rw [e27410] at e9; cases e9; omega) (fun b9 e9 => by rw [e27413] at e9; cases e9; omega)
          · have h27467 : v99_5.toInt ≠ 0 := ti_ne h27467
            refine g_iconst (v := 2) C dX12_apart_192 (by decide) ?_
            refine g_goto C 215 dX12_apart_193 (by decide) ?_
            exact ret _ _ _ _ _ _ dX12_apart_215 rfl (by decide) (by decide) ⟨I99, X99, W99, (by decide)⟩
      · have h27463 : v99_6.toInt < z27461.toInt := h27463
        refine g_aload_n C dX12_apart_111 rfl 0 rfl ?_
        refine g_iload_n C dX12_apart_112 rfl 1 rfl ?_
        refine g_iconst (v := 0) C dX12_apart_113 (by decide) ?_
        refine g_iload C dX12_apart_114 5 rfl ?_
        refine g_callVI (rest := []) C mv_X12_396 [.int a1, .int 0, .int v99_6] (s_X12_agreesBy I99 (by omega) (by decide) (fun b9 e9 => by rw [e27410] at e9; cases e9; show 1 ≤ (pI P99 b27409 0).toInt ∧ (pI P99 b27409 0).toInt ≤ 16; omega) W99) (h27408).1 (h27408).2 rfl rfl (by decide) (Nat.le_of_ble_eq_true rfl) (by decide) dX12_apart_116 (fun r27468 Y27469 h27470 => ?_)
        obtain ⟨Iy27471, Xy27472, W27473, h27470⟩ := h27470
        have q27474 := Xy27472.keepF 0 (by decide)
        have q27475 := Xy27472.keepA e27410 (by decide) rfl 0
        have q27476 := Xy27472.keepA e27410 (by decide) rfl 1
        have q27477 := Xy27472.keepA e27413 (by decide) rfl (a1.toInt.toNat)
        have Xz27478 : EM [0, 28, 29, 30, 31, 32, 35, 36, 37, 38] a0 P Y27469 := EM.tr ha0 X99 (Xy27472.mono (by decide))
        have e27479 := Xy27472.ref h27408 (by decide) e27410
        have e27480 := Xy27472.ref h27408 (by decide) e27413
        have h27481 := Xy27472.at h27408
        have h27482 := Xy27472.ar h27411
        have h27483 := Xy27472.ar h27414
        have h27470 : 0 ≤ r27468.toInt ∧ r27468.toInt ≤ 1 := h27470
        refine b_if_eq C 176 dX12_apart_119 (by decide) (fun h27484 => ?_) (fun h27484 => ?_)
        · have h27484 : r27468.toInt = 0 := congrArg Int32.toInt h27484
          exact J176 Y27469 v99_4 v99_5 Iy27471 Xz27478 W27473 (by omega) (by omega) (by omega) (by omega) (by omega) (fun b9 e9 => by rw [e27479] at e9; cases e9; omega) (fun b9 e9 => by rw [e27479] at e9; cases e9; omega) (fun b9 e9 => by rw [e27480] at e9; cases e9; omega)
        · have h27484 : r27468.toInt ≠ 0 := ti_ne h27484
          refine g_aload_n C dX12_apart_122 rfl 0 rfl ?_
          refine g_iload_n C dX12_apart_123 rfl 1 rfl ?_
          refine g_iconst (v := 1) C dX12_apart_124 (by decide) ?_
          refine g_iload C dX12_apart_125 5 rfl ?_
          refine g_callVI (rest := []) C mv_X12_396 [.int a1, .int 1, .int v99_6] (s_X12_agreesBy Iy27471 (by omega) (by decide) (fun b9 e9 => by rw [e27479] at e9; cases e9; show 1 ≤ (pI Y27469 b27409 1).toInt ∧ (pI Y27469 b27409 1).toInt ≤ 16; omega) W27473) (h27481).1 (h27481).2 rfl rfl (by decide) (Nat.le_of_ble_eq_true rfl) (by decide) dX12_apart_127 (fun r27485 Y27486 h27487 => ?_)
          obtain ⟨Iy27488, Xy27489, W27490, h27487⟩ := h27487
          have q27491 := Xy27489.keepF 0 (by decide)
          have q27492 := Xy27489.keepA e27479 (by decide) rfl 0
          have q27493 := Xy27489.keepA e27479 (by decide) rfl 1
          have q27494 := Xy27489.keepA e27480 (by decide) rfl (a1.toInt.toNat)
          have Xz27495 : EM [0, 28, 29, 30, 31, 32, 35, 36, 37, 38] a0 P Y27486 := EM.tr ha0 Xz27478 (Xy27489.mono (by decide))
          have e27496 := Xy27489.ref h27481 (by decide) e27479
          have e27497 := Xy27489.ref h27481 (by decide) e27480
          have h27498 := Xy27489.at h27481
          have h27499 := Xy27489.ar h27482
          have h27500 := Xy27489.ar h27483
          have h27487 : 0 ≤ r27485.toInt ∧ r27485.toInt ≤ 1 := h27487
          refine b_if_eq C 176 dX12_apart_130 (by decide) (fun h27501 => ?_) (fun h27501 => ?_)
          · have h27501 : r27485.toInt = 0 := congrArg Int32.toInt h27501
            exact J176 Y27486 v99_4 v99_5 Iy27488 Xz27495 W27490 (by omega) (by omega) (by omega) (by omega) (by omega) (fun b9 e9 => by rw [e27496] at e9; cases e9; omega) (fun b9 e9 => by rw [e27496] at e9; cases e9; omega) (fun b9 e9 => by rw [e27497] at e9; cases e9; omega)
          · have h27501 : r27485.toInt ≠ 0 := ti_ne h27501
            refine g_iload C dX12_apart_133 3 rfl ?_
            refine b_if_ne C 147 dX12_apart_135 (by decide) (fun h27502 => ?_) (fun h27502 => ?_)
            · have h27502 : v99_4.toInt ≠ 0 := ti_ne h27502
              refine g_lv (lv' := [(0, .ref a0), (1, .int a1), (3, .int v99_3), (5, .int v99_5), (6, .int v99_6)]) [0, 1, 2, 4, 5] rfl ?_
              exact J147 Y27486 Iy27488 Xz27495 W27490 (by omega) (by omega) (by omega) (fun b9 e9 => by rw [e27496] at e9; cases e9; omega) (fun b9 e9 => by rw [e27496] at e9; cases e9; omega) (fun b9 e9 => by rw [e27497] at e9; cases e9; omega)
            · have h27502 : v99_4.toInt = 0 := congrArg Int32.toInt h27502
              refine g_iload C dX12_apart_138 5 rfl ?_
              refine g_iload_n C dX12_apart_140 rfl 2 rfl ?_
              refine a_ishr C dX12_apart_141 (fun z27503 => ?_)
              refine g_iconst (v := 1) C dX12_apart_142 (by decide) ?_
              refine s_iand C dX12_apart_143 (by show 0 ≤ 1; omega) (fun z27505 h27506 => ?_)
              have h27506 : 0 ≤ z27505.toInt ∧ z27505.toInt ≤ 1 := h27506
              refine b_if_ne C 151 dX12_apart_144 (by decide) (fun h27507 => ?_) (fun h27507 => ?_)
              · have h27507 : z27505.toInt ≠ 0 := ti_ne h27507
                refine g_iconst (v := 0) C dX12_apart_151 (by decide) ?_
                refine g_lv (lv' := [(0, .ref a0), (1, .int a1), (3, .int v99_3), (5, .int v99_5), (6, .int v99_6)]) [0, 1, 2, 4, 5] rfl ?_
                exact J152 Y27486 0 Iy27488 Xz27495 W27490 (by omega) (by omega) (by decide) (by omega) (fun b9 e9 => by rw [e27496] at e9; cases e9; omega) (fun b9 e9 => by rw [e27496] at e9; cases e9; omega) (fun b9 e9 => by rw [e27497] at e9; cases e9; omega)
              · have h27507 : z27505.toInt = 0 := congrArg Int32.toInt h27507
                refine g_lv (lv' := [(0, .ref a0), (1, .int a1), (3, .int v99_3), (5, .int v99_5), (6, .int v99_6)]) [0, 1, 2, 4, 5] rfl ?_
                exact J147 Y27486 Iy27488 Xz27495 W27490 (by omega) (by omega) (by omega) (fun b9 e9 => by rw [e27496] at e9; cases e9; omega) (fun b9 e9 => by rw [e27496] at e9; cases e9; omega) (fun b9 e9 => by rw [e27497] at e9; cases e9; omega)
  have J55 : ∀ (n55 : Nat) (P55 : PP) (v55_3 : Int32) (v55_4 : Int32), (40 - v55_4.toInt).toNat < n55 → (IM P55 a0) → (EM [0, 28, 29, 30, 31, 32, 35, 36, 37, 38] a0 P P55) → (MW P55 a0) → (0 ≤ a1.toInt ∧ a1.toInt ≤ 3) → (0 ≤ a2.toInt ∧ a2.toInt ≤ 39) → (0 ≤ v55_4.toInt ∧ v55_4.toInt ≤ 40) → (0 ≤ (pI P55 a0 0).toInt ∧ (pI P55 a0 0).toInt ≤ 0) → (∀ b, pR P55 a0 10 = some b → 1 ≤ (pI P55 b 0).toInt ∧ (pI P55 b 0).toInt ≤ 16) → (∀ b, pR P55 a0 10 = some b → 1 ≤ (pI P55 b 1).toInt ∧ (pI P55 b 1).toInt ≤ 16) → (∀ b, pR P55 a0 20 = some b → 1 ≤ (pI P55 b (a1.toInt.toNat)).toInt ∧ (pI P55 b (a1.toInt.toNat)).toInt ≤ 40) → G E ({ frames := 6, cells := 0, slots := 0, locals := 384 } : Room) D cy 7 P55 0 0 55 [(0, .ref a0), (1, .int a1), (2, .int a2), (3, .int v55_3), (4, .int v55_4)] [] := by
    intro n55
    induction n55 with
    | zero => intro P55 v55_3 v55_4 hm55 I55 X55 W55 hv55_1 hv55_2 hv55_4 hq55_0 hq55_1 hq55_2 hq55_3; omega
    | succ n55 ih55 =>
      intro P55 v55_3 v55_4 hm55 I55 X55 W55 hv55_1 hv55_2 hv55_4 hq55_0 hq55_1 hq55_2 hq55_3
      have h27508 := X55.at ha0
      obtain ⟨b27509, e27510, h27511⟩ := I55.fld (h27508) 10 13 2 rfl
      have hq55_1 := hq55_1 b27509 e27510
      have hq55_2 := hq55_2 b27509 e27510
      obtain ⟨b27512, e27513, h27514⟩ := I55.fld (h27508) 20 13 20 rfl
      have hq55_3 := hq55_3 b27512 e27513
      have J82 : ∀ (v82_s0 : Int32), (0 ≤ a1.toInt ∧ a1.toInt ≤ 3) → (1 ≤ a2.toInt ∧ a2.toInt ≤ 39) → (0 ≤ v55_4.toInt ∧ v55_4.toInt ≤ 38) → (0 ≤ v82_s0.toInt ∧ v82_s0.toInt ≤ 1) → (0 ≤ (pI P55 a0 0).toInt ∧ (pI P55 a0 0).toInt ≤ 0) → (∀ b, pR P55 a0 10 = some b → 1 ≤ (pI P55 b 0).toInt ∧ (pI P55 b 0).toInt ≤ 16) → (∀ b, pR P55 a0 10 = some b → 1 ≤ (pI P55 b 1).toInt ∧ (pI P55 b 1).toInt ≤ 16) → (∀ b, pR P55 a0 20 = some b → 1 ≤ (pI P55 b (a1.toInt.toNat)).toInt ∧ (pI P55 b (a1.toInt.toNat)).toInt ≤ 40) → G E ({ frames := 6, cells := 0, slots := 0, locals := 384 } : Room) D cy 7 P55 0 0 82 [(0, .ref a0), (1, .int a1), (2, .int a2), (4, .int v55_4)] [.int v82_s0, .int v55_3] := by
        intro v82_s0 hv82_1 hv82_2 hv82_4 hv82_s0 hq82_0 hq82_1 hq82_2 hq82_3
        have h27515 := X55.at ha0
        obtain ⟨b27516, e27517, h27518⟩ := I55.fld (h27515) 10 13 2 rfl
        have hq82_1 := hq82_1 b27516 e27517
        have hq82_2 := hq82_2 b27516 e27517
        obtain ⟨b27519, e27520, h27521⟩ := I55.fld (h27515) 20 13 20 rfl
        have hq82_3 := hq82_3 b27519 e27520
        refine a_iadd C dX12_apart_82 (fun z27522 => ?_)
        refine g_istore_n (lv' := [(3, .int z27522), (0, .ref a0), (1, .int a1), (2, .int a2), (4, .int v55_4)]) C dX12_apart_83 rfl (by decide) rfl ?_
        refine s_iinc (lv0 := [(3, .int z27522), (0, .ref a0), (1, .int a1), (2, .int a2)]) (m := 1) C dX12_apart_84 4 rfl (by decide) rfl (by decide) (by omega) (fun z27524 h27525 => ?_)
        have h27525 : z27524.toInt = v55_4.toInt + 1 := h27525
        refine g_goto C 55 dX12_apart_87 (by decide) ?_
        refine g_lv (lv' := [(0, .ref a0), (1, .int a1), (2, .int a2), (3, .int z27522), (4, .int z27524)]) [2, 3, 4, 1, 0] rfl ?_
        exact ih55 P55 z27522 z27524 (by omega) I55 X55 W55 (by omega) (by omega) (by omega) (by omega) (fun b9 e9 => by rw [e27517] at e9; cases e9; omega) (fun b9 e9 => by rw [e27517] at e9; cases e9; omega) (fun b9 e9 => by rw [e27520] at e9; cases e9; omega)
      refine g_iload C dX12_apart_55 4 rfl ?_
      refine g_iload_n C dX12_apart_57 rfl 2 rfl ?_
      refine b_icmp_ge C 90 dX12_apart_58 (by decide) (fun h27526 => ?_) (fun h27526 => ?_)
      · have h27526 : a2.toInt ≤ v55_4.toInt := h27526
        refine g_iconst (v := 0) C dX12_apart_90 (by decide) ?_
        refine g_istore (lv' := [(4, .int 0), (0, .ref a0), (1, .int a1), (2, .int a2), (3, .int v55_3)]) C dX12_apart_91 (by decide) rfl ?_
        refine g_iconst (v := 0) C dX12_apart_93 (by decide) ?_
        refine g_istore (lv' := [(5, .int 0), (4, .int 0), (0, .ref a0), (1, .int a1), (2, .int a2), (3, .int v55_3)]) C dX12_apart_94 (by decide) rfl ?_
        refine g_iconst (v := 0) C dX12_apart_96 (by decide) ?_
        refine g_istore (lv' := [(6, .int 0), (5, .int 0), (4, .int 0), (0, .ref a0), (1, .int a1), (2, .int a2), (3, .int v55_3)]) C dX12_apart_97 (by decide) rfl ?_
        refine g_lv (lv' := [(0, .ref a0), (1, .int a1), (3, .int v55_3), (4, .int 0), (5, .int 0), (6, .int 0)]) [3, 4, 6, 2, 1, 0] rfl ?_
        exact J99 _ P55 v55_3 0 0 0 (Nat.lt_succ_self _) I55 X55 W55 (by omega) (by decide) (by decide) (by decide) (by omega) (fun b9 e9 => by rw [e27510] at e9; cases e9; omega) (fun b9 e9 => by rw [e27510] at e9; cases e9; omega) (fun b9 e9 => by rw [e27513] at e9; cases e9; omega)
      · have h27526 : v55_4.toInt < a2.toInt := h27526
        refine g_iload_n C dX12_apart_61 rfl 3 rfl ?_
        refine g_aload_n C dX12_apart_62 rfl 0 rfl ?_
        obtain ⟨b27527, e27528, h27529⟩ := I55.fld (h27508) 22 13 800 rfl
        refine g_getR C fi_X12_75 rfl e27528 (h27508).1 (h27508).2 dX12_apart_63 ?_
        refine g_bipush (v := 40) C dX12_apart_66 (by decide) ?_
        refine g_iload_n C dX12_apart_68 rfl 1 rfl ?_
        refine s_imul C dX12_apart_69 (by show -2147483648 ≤ 40 * a1.toInt ∧ 40 * a1.toInt ≤ 2147483647; omega) (fun z27530 h27531 => ?_)
        have h27531 : z27530.toInt = 40 * a1.toInt := h27531
        refine g_iload C dX12_apart_70 4 rfl ?_
        refine s_iadd C dX12_apart_72 (by show -2147483648 ≤ z27530.toInt + v55_4.toInt ∧ z27530.toInt + v55_4.toInt ≤ 2147483647; omega) (fun z27532 h27533 => ?_)
        have h27533 : z27532.toInt = z27530.toInt + v55_4.toInt := h27533
        refine g_iald (j := (z27532.toInt.toNat)) C h27529.1 h27529.2.1 (ix_in h27529.2.2 (by omega)) dX12_apart_73 ?_
        have h27534 := I55.arr e27528 rfl (z27532.toInt.toNat)
        refine b_if_ge C 81 dX12_apart_74 (by decide) (fun h27535 => ?_) (fun h27535 => ?_)
        · have h27535 : 0 ≤ (pI P55 b27527 (z27532.toInt.toNat)).toInt := h27535
          refine g_iconst (v := 0) C dX12_apart_81 (by decide) ?_
          refine g_lv (lv' := [(0, .ref a0), (1, .int a1), (2, .int a2), (4, .int v55_4)]) [0, 1, 2, 4] rfl ?_
          exact J82 0 (by omega) (by omega) (by omega) (by decide) (by omega) (fun b9 e9 => by rw [e27510] at e9; cases e9; omega) (fun b9 e9 => by rw [e27510] at e9; cases e9; omega) (fun b9 e9 => by rw [e27513] at e9; cases e9; omega)
        · have h27535 : (pI P55 b27527 (z27532.toInt.toNat)).toInt < 0 := h27535
          refine g_iconst (v := 1) C dX12_apart_77 (by decide) ?_
          refine g_goto C 82 dX12_apart_78 (by decide) ?_
          refine g_lv (lv' := [(0, .ref a0), (1, .int a1), (2, .int a2), (4, .int v55_4)]) [0, 1, 2, 4] rfl ?_
          exact J82 1 (by omega) (by omega) (by omega) (by decide) (by omega) (fun b9 e9 => by rw [e27510] at e9; cases e9; omega) (fun b9 e9 => by rw [e27510] at e9; cases e9; omega) (fun b9 e9 => by rw [e27513] at e9; cases e9; omega)
  have J44 : ∀ (P44 : PP), (IM P44 a0) → (EM [0, 28, 29, 30, 31, 32, 35, 36, 37, 38] a0 P P44) → (MW P44 a0) → (0 ≤ (pI P44 a0 0).toInt ∧ (pI P44 a0 0).toInt ≤ 0) → G E ({ frames := 6, cells := 0, slots := 0, locals := 384 } : Room) D cy 7 P44 0 0 44 [] [] := by
    intro P44 I44 X44 W44 hq44_0
    have h27536 := X44.at ha0
    refine g_iconst (v := (-1)) C dX12_apart_44 (by decide) ?_
    exact ret _ _ _ _ _ _ dX12_apart_45 rfl (by decide) (by decide) ⟨I44, X44, W44, (by decide)⟩
  refine g_aload_n C dX12_apart_0 rfl 0 rfl ?_
  refine g_iconst (v := 0) C dX12_apart_1 (by decide) ?_
  refine g_putI C fi_X12_1 rfl (ha0).1 (ha0).2 dX12_apart_2 ?_
  refine gqW (ks := [0]) (I.setI (rgOk.of rfl (by decide))) (EM.setI I (by decide)) (fun Y27537 Iy27538 Xy27539 w27540  => ?_)
  have w27540 : (pI Y27537 a0 0).toInt = 0 := w27540
  have W27541 := hW.keep I Xy27539 (by decide) (by decide) (by decide) (by decide)
  have Xz27542 : EM [0, 28, 29, 30, 31, 32, 35, 36, 37, 38] a0 P Y27537 := Xy27539.mono (by decide)
  have h27543 := Xy27539.at ha0
  refine g_aload_n C dX12_apart_5 rfl 0 rfl ?_
  refine g_iload_n C dX12_apart_6 rfl 1 rfl ?_
  refine g_iload_n C dX12_apart_7 rfl 2 rfl ?_
  refine g_callVI (rest := []) C mv_X12_298 [.int a1, .int a2] (s_X12_isPaper Iy27538 W27541) (h27543).1 (h27543).2 rfl rfl (by decide) (Nat.le_of_ble_eq_true rfl) (by decide) dX12_apart_8 (fun r27544 Y27545 h27546 => ?_)
  obtain ⟨rfl, h27546⟩ := h27546
  obtain ⟨h27546, hi27547, hi27548⟩ := h27546
  have hi27547 : r27544.toInt = 0 ∨ (((0 : Int) ≤ a1.toInt ∧ a1.toInt ≤ (3 : Int)) ∧ ((0 : Int) ≤ a2.toInt ∧ a2.toInt ≤ (39 : Int))) := hi27547
  have h27546 : 0 ≤ r27544.toInt ∧ r27544.toInt ≤ 1 := h27546
  refine b_if_eq C 44 dX12_apart_11 (by decide) (fun h27549 => ?_) (fun h27549 => ?_)
  · have h27549 : r27544.toInt = 0 := congrArg Int32.toInt h27549
    clear hi27547
    refine g_lv (lv' := []) [] rfl ?_
    exact J44 Y27537 Iy27538 Xz27542 W27541 (by omega)
  · have h27549 : r27544.toInt ≠ 0 := ti_ne h27549
    replace hi27547 := hi27547.resolve_left (by omega)
    obtain ⟨b27550, e27551, h27552⟩ := Iy27538.fld (h27543) 20 13 20 rfl
    have hi27548 := (hi27548.resolve_left (by omega)) b27550 e27551
    have hi27548 : a2.toInt < (pI Y27537 b27550 (a1.toInt.toNat)).toInt ∧ 0 ≤ a2.toInt := hi27548
    have h27553 := Iy27538.arr e27551 rfl (a1.toInt.toNat)
    refine g_aload_n C dX12_apart_14 rfl 0 rfl ?_
    obtain ⟨b27554, e27555, h27556⟩ := Iy27538.fld (h27543) 22 13 800 rfl
    refine g_getR C fi_X12_75 rfl e27555 (h27543).1 (h27543).2 dX12_apart_15 ?_
    refine g_bipush (v := 40) C dX12_apart_18 (by decide) ?_
    refine g_iload_n C dX12_apart_20 rfl 1 rfl ?_
    refine s_imul C dX12_apart_21 (by show -2147483648 ≤ 40 * a1.toInt ∧ 40 * a1.toInt ≤ 2147483647; omega) (fun z27557 h27558 => ?_)
    have h27558 : z27557.toInt = 40 * a1.toInt := h27558
    refine g_iload_n C dX12_apart_22 rfl 2 rfl ?_
    refine s_iadd C dX12_apart_23 (by show -2147483648 ≤ z27557.toInt + a2.toInt ∧ z27557.toInt + a2.toInt ≤ 2147483647; omega) (fun z27559 h27560 => ?_)
    have h27560 : z27559.toInt = z27557.toInt + a2.toInt := h27560
    refine g_iald (j := (z27559.toInt.toNat)) C h27556.1 h27556.2.1 (ix_in h27556.2.2 (by omega)) dX12_apart_24 ?_
    have h27561 := Iy27538.arr e27555 rfl (z27559.toInt.toNat)
    refine b_if_ge C 44 dX12_apart_25 (by decide) (fun h27562 => ?_) (fun h27562 => ?_)
    · have h27562 : 0 ≤ (pI Y27537 b27554 (z27559.toInt.toNat)).toInt := h27562
      refine g_lv (lv' := []) [] rfl ?_
      exact J44 Y27537 Iy27538 Xz27542 W27541 (by omega)
    · have h27562 : (pI Y27537 b27554 (z27559.toInt.toNat)).toInt < 0 := h27562
      refine g_aload_n C dX12_apart_28 rfl 0 rfl ?_
      refine g_iconst (v := 0) C dX12_apart_29 (by decide) ?_
      refine g_callVI (rest := []) C mv_X12_192 [.int 0] (s_X12_isBook Iy27538 W27541) (h27543).1 (h27543).2 rfl rfl (by decide) (Nat.le_of_ble_eq_true rfl) (by decide) dX12_apart_30 (fun r27563 Y27564 h27565 => ?_)
      obtain ⟨rfl, h27565⟩ := h27565
      obtain ⟨h27565, hi27566, hi27567⟩ := h27565
      have hi27566 : r27563.toInt = 0 ∨ (((0 : Int) ≤ 0 ∧ 0 ≤ (1 : Int))) := hi27566
      have h27565 : 0 ≤ r27563.toInt ∧ r27563.toInt ≤ 1 := h27565
      refine b_if_eq C 44 dX12_apart_33 (by decide) (fun h27568 => ?_) (fun h27568 => ?_)
      · have h27568 : r27563.toInt = 0 := congrArg Int32.toInt h27568
        clear hi27566
        refine g_lv (lv' := []) [] rfl ?_
        exact J44 Y27537 Iy27538 Xz27542 W27541 (by omega)
      · have h27568 : r27563.toInt ≠ 0 := ti_ne h27568
        replace hi27566 := hi27566.resolve_left (by omega)
        obtain ⟨b27569, e27570, h27571⟩ := Iy27538.fld (h27543) 10 13 2 rfl
        have hi27567 := (hi27567.resolve_left (by omega)) b27569 e27570
        have hi27567 : 0 < (pI Y27537 b27569 0).toInt := hi27567
        have h27572 := Iy27538.arr e27570 rfl 0
        refine g_aload_n C dX12_apart_36 rfl 0 rfl ?_
        refine g_iconst (v := 1) C dX12_apart_37 (by decide) ?_
        refine g_callVI (rest := []) C mv_X12_192 [.int 1] (s_X12_isBook Iy27538 W27541) (h27543).1 (h27543).2 rfl rfl (by decide) (Nat.le_of_ble_eq_true rfl) (by decide) dX12_apart_38 (fun r27573 Y27574 h27575 => ?_)
        obtain ⟨rfl, h27575⟩ := h27575
        obtain ⟨h27575, hi27576, hi27577⟩ := h27575
        have hi27576 : r27573.toInt = 0 ∨ (((0 : Int) ≤ 1 ∧ 1 ≤ (1 : Int))) := hi27576
        have h27575 : 0 ≤ r27573.toInt ∧ r27573.toInt ≤ 1 := h27575
        refine b_if_ne C 46 dX12_apart_41 (by decide) (fun h27578 => ?_) (fun h27578 => ?_)
        · have h27578 : r27573.toInt ≠ 0 := ti_ne h27578
          replace hi27576 := hi27576.resolve_left (by omega)
          have hi27577 := (hi27577.resolve_left (by omega)) b27569 e27570
          have hi27577 : 0 < (pI Y27537 b27569 1).toInt := hi27577
          have h27579 := Iy27538.arr e27570 rfl 1
          refine g_aload_n C dX12_apart_46 rfl 0 rfl ?_
          refine g_callVV (rest := []) C mv_X12_336 [] (s_X12_leavesNone Iy27538 W27541) (h27543).1 (h27543).2 rfl rfl (by decide) (Nat.le_of_ble_eq_true rfl) (by decide) dX12_apart_47 (fun Y27581 h27582 => ?_)
          obtain ⟨Iy27583, Xy27584, W27585⟩ := h27582
          have q27586 := Xy27584.keepF 0 (by decide)
          have q27587 := Xy27584.keepA e27551 (by decide) rfl (a1.toInt.toNat)
          have q27588 := Xy27584.keepA e27555 (by decide) rfl (z27559.toInt.toNat)
          have q27589 := Xy27584.keepA e27570 (by decide) rfl 0
          have q27590 := Xy27584.keepA e27570 (by decide) rfl 1
          have Xz27591 : EM [0, 28, 29, 30, 31, 32, 35, 36, 37, 38] a0 P Y27581 := EM.tr ha0 Xz27542 (Xy27584.mono (by decide))
          have e27592 := Xy27584.ref h27543 (by decide) e27551
          have e27593 := Xy27584.ref h27543 (by decide) e27555
          have e27594 := Xy27584.ref h27543 (by decide) e27570
          have h27595 := Xy27584.at h27543
          have h27596 := Xy27584.ar h27552
          have h27597 := Xy27584.ar h27556
          have h27598 := Xy27584.ar h27571
          refine g_iconst (v := 0) C dX12_apart_50 (by decide) ?_
          refine g_istore_n (lv' := [(3, .int 0), (0, .ref a0), (1, .int a1), (2, .int a2)]) C dX12_apart_51 rfl (by decide) rfl ?_
          refine g_iconst (v := 0) C dX12_apart_52 (by decide) ?_
          refine g_istore (lv' := [(4, .int 0), (3, .int 0), (0, .ref a0), (1, .int a1), (2, .int a2)]) C dX12_apart_53 (by decide) rfl ?_
          refine g_lv (lv' := [(0, .ref a0), (1, .int a1), (2, .int a2), (3, .int 0), (4, .int 0)]) [2, 3, 4, 1, 0] rfl ?_
          exact J55 _ Y27581 0 0 (Nat.lt_succ_self _) Iy27583 Xz27591 W27585 (by omega) (by omega) (by decide) (by omega) (fun b9 e9 => by rw [e27594] at e9; cases e9; omega) (fun b9 e9 => by rw [e27594] at e9; cases e9; omega) (fun b9 e9 => by rw [e27592] at e9; cases e9; omega)
        · have h27578 : r27573.toInt = 0 := congrArg Int32.toInt h27578
          clear hi27576
          refine g_lv (lv' := []) [] rfl ?_
          exact J44 Y27537 Iy27538 Xz27542 W27541 (by omega)
theorem dX12_areChances_0 : decode cX12_areChances 0 = .ok (.aload_n 0, 1) := by decide +kernel
theorem dX12_areChances_1 : decode cX12_areChances 1 = .ok (.iload_n 1, 1) := by decide +kernel
theorem dX12_areChances_2 : decode cX12_areChances 2 = .ok (.invokevirtual 192, 3) := by decide +kernel
theorem dX12_areChances_5 : decode cX12_areChances 5 = .ok (.ifCond .eq 26, 3) := by decide +kernel
theorem dX12_areChances_8 : decode cX12_areChances 8 = .ok (.iload_n 2, 1) := by decide +kernel
theorem dX12_areChances_9 : decode cX12_areChances 9 = .ok (.iconst 1, 1) := by decide +kernel
theorem dX12_areChances_10 : decode cX12_areChances 10 = .ok (.bipush 11, 2) := by decide +kernel
theorem dX12_areChances_12 : decode cX12_areChances 12 = .ok (.invokestatic 178, 3) := by decide +kernel
theorem dX12_areChances_15 : decode cX12_areChances 15 = .ok (.ifCond .eq 16, 3) := by decide +kernel
theorem dX12_areChances_18 : decode cX12_areChances 18 = .ok (.iload_n 3, 1) := by decide +kernel
theorem dX12_areChances_19 : decode cX12_areChances 19 = .ok (.iconst 0, 1) := by decide +kernel
theorem dX12_areChances_20 : decode cX12_areChances 20 = .ok (.iconst 1, 1) := by decide +kernel
theorem dX12_areChances_21 : decode cX12_areChances 21 = .ok (.invokestatic 178, 3) := by decide +kernel
theorem dX12_areChances_24 : decode cX12_areChances 24 = .ok (.ifCond .eq 7, 3) := by decide +kernel
theorem dX12_areChances_27 : decode cX12_areChances 27 = .ok (.iconst 1, 1) := by decide +kernel
theorem dX12_areChances_28 : decode cX12_areChances 28 = .ok (.goto 4, 3) := by decide +kernel
theorem dX12_areChances_31 : decode cX12_areChances 31 = .ok (.iconst 0, 1) := by decide +kernel
theorem dX12_areChances_32 : decode cX12_areChances 32 = .ok (.ireturn, 1) := by decide +kernel
set_option maxHeartbeats 4000000 in
set_option maxRecDepth 100000 in
theorem s_X12_areChances {P : PP} {a0 : Nat} {a1 : Int32} {a2 : Int32} {a3 : Int32} (I : IM P a0) (hW : MW P a0) : CtrI yX12_areChances cX12_areChances 4 (some Jvm.ClassFile.FieldType.boolean) ({ frames := 3, cells := 0, slots := 0, locals := 192 } : Room) 0 0 P [.ref a0, .int a1, .int a2, .int a3] (fun r P2 => P = P2 ∧ (0 ≤ r.toInt ∧ r.toInt ≤ 1) ∧ (r.toInt = 0 ∨ (((0 : Int) ≤ a1.toInt ∧ a1.toInt ≤ (1 : Int)) ∧ ((1 : Int) ≤ a2.toInt ∧ a2.toInt ≤ (11 : Int)) ∧ ((0 : Int) ≤ a3.toInt ∧ a3.toInt ≤ (1 : Int)))) ∧ (r.toInt = 0 ∨ ∀ b, pR P2 a0 10 = some b → 0 < (pI P2 b (a1.toInt.toNat)).toInt)) := by
  refine enI (lv := [(0, .ref a0), (1, .int a1), (2, .int a2), (3, .int a3)]) (by decide) (Nat.le_of_ble_eq_true rfl) rfl (fun E D cy C Ci0 ret => ?_)
  have ha0 := I.2.1
  have J31 : G E ({ frames := 3, cells := 0, slots := 0, locals := 192 } : Room) D cy 4 P 0 0 31 [] [] := by
    refine g_iconst (v := 0) C dX12_areChances_31 (by decide) ?_
    exact ret _ _ _ _ _ _ dX12_areChances_32 rfl (by decide) (by decide) ⟨rfl, (by decide), Or.inl rfl, Or.inl rfl⟩
  refine g_aload_n C dX12_areChances_0 rfl 0 rfl ?_
  refine g_iload_n C dX12_areChances_1 rfl 1 rfl ?_
  refine g_callVI (rest := []) C mv_X12_192 [.int a1] (s_X12_isBook I hW) (ha0).1 (ha0).2 rfl rfl (by decide) (Nat.le_of_ble_eq_true rfl) (by decide) dX12_areChances_2 (fun r27619 Y27620 h27621 => ?_)
  obtain ⟨rfl, h27621⟩ := h27621
  obtain ⟨h27621, hi27622, hi27623⟩ := h27621
  have hi27622 : r27619.toInt = 0 ∨ (((0 : Int) ≤ a1.toInt ∧ a1.toInt ≤ (1 : Int))) := hi27622
  have h27621 : 0 ≤ r27619.toInt ∧ r27619.toInt ≤ 1 := h27621
  refine b_if_eq C 31 dX12_areChances_5 (by decide) (fun h27624 => ?_) (fun h27624 => ?_)
  · have h27624 : r27619.toInt = 0 := congrArg Int32.toInt h27624
    clear hi27622
    refine g_lv (lv' := []) [] rfl ?_
    exact J31 
  · have h27624 : r27619.toInt ≠ 0 := ti_ne h27624
    replace hi27622 := hi27622.resolve_left (by omega)
    obtain ⟨b27625, e27626, h27627⟩ := I.fld (ha0) 10 13 2 rfl
    have hi27623 := (hi27623.resolve_left (by omega)) b27625 e27626
    have hi27623 : 0 < (pI P b27625 (a1.toInt.toNat)).toInt := hi27623
    have h27628 := I.arr e27626 rfl (a1.toInt.toNat)
    refine g_iload_n C dX12_areChances_8 rfl 2 rfl ?_
    refine g_iconst (v := 1) C dX12_areChances_9 (by decide) ?_
    refine g_bipush (v := 11) C dX12_areChances_10 (by decide) ?_
    refine g_callSI (b := 0) (ci := 0) (rest := []) C ms_X12_178 [.int a2, .int 1, .int 11] (s_X12_within I.1) rfl rfl (by decide) (Nat.le_of_ble_eq_true rfl) (by decide) dX12_areChances_12 (fun r27629 Y27630 h27631 => ?_)
    obtain ⟨rfl, h27631⟩ := h27631
    obtain ⟨h27631, hi27632⟩ := h27631
    have hi27632 : r27629.toInt = 0 ∨ (1 ≤ a2.toInt ∧ a2.toInt ≤ 11) := hi27632
    have h27631 : 0 ≤ r27629.toInt ∧ r27629.toInt ≤ 1 := h27631
    refine b_if_eq C 31 dX12_areChances_15 (by decide) (fun h27633 => ?_) (fun h27633 => ?_)
    · have h27633 : r27629.toInt = 0 := congrArg Int32.toInt h27633
      clear hi27632
      refine g_lv (lv' := []) [] rfl ?_
      exact J31 
    · have h27633 : r27629.toInt ≠ 0 := ti_ne h27633
      replace hi27632 := hi27632.resolve_left (by omega)
      refine g_iload_n C dX12_areChances_18 rfl 3 rfl ?_
      refine g_iconst (v := 0) C dX12_areChances_19 (by decide) ?_
      refine g_iconst (v := 1) C dX12_areChances_20 (by decide) ?_
      refine g_callSI (b := 0) (ci := 0) (rest := []) C ms_X12_178 [.int a3, .int 0, .int 1] (s_X12_within I.1) rfl rfl (by decide) (Nat.le_of_ble_eq_true rfl) (by decide) dX12_areChances_21 (fun r27634 Y27635 h27636 => ?_)
      obtain ⟨rfl, h27636⟩ := h27636
      obtain ⟨h27636, hi27637⟩ := h27636
      have hi27637 : r27634.toInt = 0 ∨ (0 ≤ a3.toInt ∧ a3.toInt ≤ 1) := hi27637
      have h27636 : 0 ≤ r27634.toInt ∧ r27634.toInt ≤ 1 := h27636
      refine b_if_eq C 31 dX12_areChances_24 (by decide) (fun h27638 => ?_) (fun h27638 => ?_)
      · have h27638 : r27634.toInt = 0 := congrArg Int32.toInt h27638
        clear hi27637
        refine g_lv (lv' := []) [] rfl ?_
        exact J31 
      · have h27638 : r27634.toInt ≠ 0 := ti_ne h27638
        replace hi27637 := hi27637.resolve_left (by omega)
        refine g_iconst (v := 1) C dX12_areChances_27 (by decide) ?_
        refine g_goto C 32 dX12_areChances_28 (by decide) ?_
        exact ret _ _ _ _ _ _ dX12_areChances_32 rfl (by decide) (by decide) ⟨rfl, (by decide), Or.inr (by omega), Or.inr (fun b9 e9 => by rw [e27626] at e9; cases e9; show 0 < (pI P b27625 (a1.toInt.toNat)).toInt; omega)⟩
theorem dX12_average_0 : decode cX12_average 0 = .ok (.aload_n 0, 1) := by decide +kernel
theorem dX12_average_1 : decode cX12_average 1 = .ok (.iconst 0, 1) := by decide +kernel
theorem dX12_average_2 : decode cX12_average 2 = .ok (.putfield 1, 3) := by decide +kernel
theorem dX12_average_5 : decode cX12_average 5 = .ok (.aload_n 0, 1) := by decide +kernel
theorem dX12_average_6 : decode cX12_average 6 = .ok (.iload_n 1, 1) := by decide +kernel
theorem dX12_average_7 : decode cX12_average 7 = .ok (.iload_n 2, 1) := by decide +kernel
theorem dX12_average_8 : decode cX12_average 8 = .ok (.iload_n 3, 1) := by decide +kernel
theorem dX12_average_9 : decode cX12_average 9 = .ok (.invokevirtual 377, 3) := by decide +kernel
theorem dX12_average_12 : decode cX12_average 12 = .ok (.ifCond .eq 13, 3) := by decide +kernel
theorem dX12_average_15 : decode cX12_average 15 = .ok (.iload 4, 2) := by decide +kernel
theorem dX12_average_17 : decode cX12_average 17 = .ok (.iconst 0, 1) := by decide +kernel
theorem dX12_average_18 : decode cX12_average 18 = .ok (.iconst 1, 1) := by decide +kernel
theorem dX12_average_19 : decode cX12_average 19 = .ok (.invokestatic 178, 3) := by decide +kernel
theorem dX12_average_22 : decode cX12_average 22 = .ok (.ifCond .ne 7, 3) := by decide +kernel
theorem dX12_average_29 : decode cX12_average 29 = .ok (.aload_n 0, 1) := by decide +kernel
theorem dX12_average_30 : decode cX12_average 30 = .ok (.iload_n 1, 1) := by decide +kernel
theorem dX12_average_31 : decode cX12_average 31 = .ok (.iload_n 2, 1) := by decide +kernel
theorem dX12_average_32 : decode cX12_average 32 = .ok (.invokevirtual 380, 3) := by decide +kernel
theorem dX12_keepsSets_0 : decode cX12_keepsSets 0 = .ok (.iconst 0, 1) := by decide +kernel
theorem dX12_keepsSets_1 : decode cX12_keepsSets 1 = .ok (.istore_n 3, 1) := by decide +kernel
theorem dX12_keepsSets_2 : decode cX12_keepsSets 2 = .ok (.iload_n 3, 1) := by decide +kernel
theorem dX12_keepsSets_3 : decode cX12_keepsSets 3 = .ok (.iload_n 2, 1) := by decide +kernel
theorem dX12_keepsSets_4 : decode cX12_keepsSets 4 = .ok (.if_icmp .ge 21, 3) := by decide +kernel
theorem dX12_keepsSets_7 : decode cX12_keepsSets 7 = .ok (.aload_n 0, 1) := by decide +kernel
theorem dX12_keepsSets_8 : decode cX12_keepsSets 8 = .ok (.getfield 121, 3) := by decide +kernel
theorem dX12_keepsSets_11 : decode cX12_keepsSets 11 = .ok (.iload_n 3, 1) := by decide +kernel
theorem dX12_keepsSets_12 : decode cX12_keepsSets 12 = .ok (.aload_n 0, 1) := by decide +kernel
theorem dX12_keepsSets_13 : decode cX12_keepsSets 13 = .ok (.iload_n 1, 1) := by decide +kernel
theorem dX12_keepsSets_14 : decode cX12_keepsSets 14 = .ok (.iload_n 3, 1) := by decide +kernel
theorem dX12_keepsSets_15 : decode cX12_keepsSets 15 = .ok (.invokevirtual 261, 3) := by decide +kernel
theorem dX12_keepsSets_18 : decode cX12_keepsSets 18 = .ok (.iastore, 1) := by decide +kernel
theorem dX12_keepsSets_19 : decode cX12_keepsSets 19 = .ok (.iinc 3 1, 3) := by decide +kernel
theorem dX12_keepsSets_22 : decode cX12_keepsSets 22 = .ok (.goto (-20), 3) := by decide +kernel
theorem dX12_keepsSets_25 : decode cX12_keepsSets 25 = .ok (.return_, 1) := by decide +kernel
set_option maxHeartbeats 4000000 in
set_option maxRecDepth 100000 in
theorem s_X12_keepsSets {P : PP} {a0 : Nat} {a1 : Int32} {a2 : Int32} (I : IM P a0) (ha1 : 0 ≤ a1.toInt ∧ a1.toInt ≤ 1) (ha2 : 0 ≤ a2.toInt ∧ a2.toInt ≤ 11) (hf0 : ∀ b, pR P a0 10 = some b → 1 ≤ (pI P b (a1.toInt.toNat)).toInt ∧ (pI P b (a1.toInt.toNat)).toInt ≤ 16) (hW : MW P a0) : CtrV yX12_keepsSets cX12_keepsSets 4 none ({ frames := 4, cells := 0, slots := 0, locals := 256 } : Room) 0 0 P [.ref a0, .int a1, .int a2] (fun P2 => IM P2 a0 ∧ EM [43] a0 P P2 ∧ MW P2 a0) := by
  refine enV (lv := [(0, .ref a0), (1, .int a1), (2, .int a2)]) (by decide) (Nat.le_of_ble_eq_true rfl) rfl (fun E D cy C Ci0 ret => ?_)
  have ha0 := I.2.1
  have J2 : ∀ (n2 : Nat) (P2 : PP) (v2_3 : Int32), (11 - v2_3.toInt).toNat < n2 → (IM P2 a0) → (EM [43] a0 P P2) → (MW P2 a0) → (0 ≤ v2_3.toInt ∧ v2_3.toInt ≤ 11) → (∀ b, pR P2 a0 10 = some b → 1 ≤ (pI P2 b (a1.toInt.toNat)).toInt ∧ (pI P2 b (a1.toInt.toNat)).toInt ≤ 16) → G E ({ frames := 4, cells := 0, slots := 0, locals := 256 } : Room) D cy 4 P2 0 0 2 [(0, .ref a0), (1, .int a1), (2, .int a2), (3, .int v2_3)] [] := by
    intro n2
    induction n2 with
    | zero => intro P2 v2_3 hm2 I2 X2 W2 hv2_3 hq2_0; omega
    | succ n2 ih2 =>
      intro P2 v2_3 hm2 I2 X2 W2 hv2_3 hq2_0
      have h27978 := X2.at ha0
      obtain ⟨b27979, e27980, h27981⟩ := I2.fld (h27978) 10 13 2 rfl
      have hq2_0 := hq2_0 b27979 e27980
      refine g_iload_n C dX12_keepsSets_2 rfl 3 rfl ?_
      refine g_iload_n C dX12_keepsSets_3 rfl 2 rfl ?_
      refine b_icmp_ge C 25 dX12_keepsSets_4 (by decide) (fun h27982 => ?_) (fun h27982 => ?_)
      · have h27982 : a2.toInt ≤ v2_3.toInt := h27982
        exact ret _ _ _ _ _ dX12_keepsSets_25 (by decide) (by decide) ⟨I2, X2, W2⟩
      · have h27982 : v2_3.toInt < a2.toInt := h27982
        refine g_aload_n C dX12_keepsSets_7 rfl 0 rfl ?_
        obtain ⟨b27983, e27984, h27985⟩ := I2.fld (h27978) 43 13 60 rfl
        refine g_getR C fi_X12_121 rfl e27984 (h27978).1 (h27978).2 dX12_keepsSets_8 ?_
        refine g_iload_n C dX12_keepsSets_11 rfl 3 rfl ?_
        refine g_aload_n C dX12_keepsSets_12 rfl 0 rfl ?_
        refine g_iload_n C dX12_keepsSets_13 rfl 1 rfl ?_
        refine g_iload_n C dX12_keepsSets_14 rfl 3 rfl ?_
        refine g_callVI (rest := [.int v2_3, .ref b27983]) C mv_X12_261 [.int a1, .int v2_3] (s_X12_setOf I2 (by omega) (fun b9 e9 => by rw [e27980] at e9; cases e9; show 1 ≤ (pI P2 b27979 (a1.toInt.toNat)).toInt ∧ (pI P2 b27979 (a1.toInt.toNat)).toInt ≤ 16; omega) W2) (h27978).1 (h27978).2 rfl rfl (by decide) (Nat.le_of_ble_eq_true rfl) (by decide) dX12_keepsSets_15 (fun r27986 Y27987 h27988 => ?_)
        obtain ⟨Iy27989, Xy27990, W27991, h27988⟩ := h27988
        have q27992 := Xy27990.keepA e27980 (by decide) rfl (a1.toInt.toNat)
        have Xz27993 : EM [43] a0 P Y27987 := EM.tr ha0 X2 (Xy27990.mono (by decide))
        have e27994 := Xy27990.ref h27978 (by decide) e27980
        have e27995 := Xy27990.ref h27978 (by decide) e27984
        have h27996 := Xy27990.at h27978
        have h27997 := Xy27990.ar h27981
        have h27998 := Xy27990.ar h27985
        have h27988 : True := h27988
        refine g_iast (j := (v2_3.toInt.toNat)) C h27998.1 h27998.2.1 (ix_in h27998.2.2 (by omega)) dX12_keepsSets_18 ?_
        refine gqW (ks := [43]) (Iy27989.setA e27995 h27998 (by decide) (arOk.none rfl)) (EM.setA Iy27989 e27995 rfl (by decide)) (fun Y27999 Iy28000 Xy28001 w28002  => ?_)
        have w28002 : (pI Y27999 b27983 (v2_3.toInt.toNat)).toInt = r27986.toInt := w28002
        have q28003 := Xy28001.keepA e27994 (by decide) rfl (a1.toInt.toNat)
        have W28004 := W27991.keep Iy27989 Xy28001 (by decide) (by decide) (by decide) (by decide)
        have Xz28005 : EM [43] a0 P Y27999 := EM.tr ha0 Xz27993 (Xy28001.mono (by decide))
        have e28006 := Xy28001.ref h27996 (by decide) e27994
        have e28007 := Xy28001.ref h27996 (by decide) e27995
        have h28008 := Xy28001.at h27996
        have h28009 := Xy28001.ar h27997
        have h28010 := Xy28001.ar h27998
        refine s_iinc (lv0 := [(0, .ref a0), (1, .int a1), (2, .int a2)]) (m := 1) C dX12_keepsSets_19 3 rfl (by decide) rfl (by decide) (by omega) (fun z28011 h28012 => ?_)
        have h28012 : z28011.toInt = v2_3.toInt + 1 := h28012
        refine g_goto C 2 dX12_keepsSets_22 (by decide) ?_
        refine g_lv (lv' := [(0, .ref a0), (1, .int a1), (2, .int a2), (3, .int z28011)]) [1, 2, 3, 0] rfl ?_
        exact ih2 Y27999 z28011 (by omega) Iy28000 Xz28005 W28004 (by omega) (fun b9 e9 => by rw [e28006] at e9; cases e9; omega)
  obtain ⟨b28013, e28014, h28015⟩ := I.fld (ha0) 10 13 2 rfl
  have hf0 := hf0 b28013 e28014
  refine g_iconst (v := 0) C dX12_keepsSets_0 (by decide) ?_
  refine g_istore_n (lv' := [(3, .int 0), (0, .ref a0), (1, .int a1), (2, .int a2)]) C dX12_keepsSets_1 rfl (by decide) rfl ?_
  refine g_lv (lv' := [(0, .ref a0), (1, .int a1), (2, .int a2), (3, .int 0)]) [1, 2, 3, 0] rfl ?_
  exact J2 _ P 0 (Nat.lt_succ_self _) I EM.rf hW (by decide) (fun b9 e9 => by rw [e28014] at e9; cases e9; omega)
theorem dX12_average_35 : decode cX12_average 35 = .ok (.aload_n 0, 1) := by decide +kernel
theorem dX12_average_36 : decode cX12_average 36 = .ok (.iload_n 1, 1) := by decide +kernel
theorem dX12_average_37 : decode cX12_average 37 = .ok (.iload_n 2, 1) := by decide +kernel
theorem dX12_average_38 : decode cX12_average 38 = .ok (.iload_n 2, 1) := by decide +kernel
theorem dX12_average_39 : decode cX12_average 39 = .ok (.iload_n 3, 1) := by decide +kernel
theorem dX12_average_40 : decode cX12_average 40 = .ok (.invokevirtual 383, 3) := by decide +kernel
theorem dX12_chancesOf_0 : decode cX12_chancesOf 0 = .ok (.iconst 0, 1) := by decide +kernel
theorem dX12_chancesOf_1 : decode cX12_chancesOf 1 = .ok (.istore 5, 2) := by decide +kernel
theorem dX12_chancesOf_3 : decode cX12_chancesOf 3 = .ok (.iconst 0, 1) := by decide +kernel
theorem dX12_chancesOf_4 : decode cX12_chancesOf 4 = .ok (.istore 6, 2) := by decide +kernel
theorem dX12_chancesOf_6 : decode cX12_chancesOf 6 = .ok (.iload 6, 2) := by decide +kernel
theorem dX12_chancesOf_8 : decode cX12_chancesOf 8 = .ok (.iconst 1, 1) := by decide +kernel
theorem dX12_chancesOf_9 : decode cX12_chancesOf 9 = .ok (.iload_n 2, 1) := by decide +kernel
theorem dX12_chancesOf_10 : decode cX12_chancesOf 10 = .ok (.ishl, 1) := by decide +kernel
theorem dX12_chancesOf_11 : decode cX12_chancesOf 11 = .ok (.if_icmp .ge 112, 3) := by decide +kernel
theorem dX12_chancesOf_14 : decode cX12_chancesOf 14 = .ok (.iload 6, 2) := by decide +kernel
theorem dX12_chancesOf_16 : decode cX12_chancesOf 16 = .ok (.invokestatic 264, 3) := by decide +kernel
theorem dX12_chancesOf_123 : decode cX12_chancesOf 123 = .ok (.iload 5, 2) := by decide +kernel
theorem dX12_chancesOf_125 : decode cX12_chancesOf 125 = .ok (.ireturn, 1) := by decide +kernel
theorem dX12_bits_0 : decode cX12_bits 0 = .ok (.iconst 0, 1) := by decide +kernel
theorem dX12_bits_1 : decode cX12_bits 1 = .ok (.istore_n 1, 1) := by decide +kernel
theorem dX12_bits_2 : decode cX12_bits 2 = .ok (.iconst 0, 1) := by decide +kernel
theorem dX12_bits_3 : decode cX12_bits 3 = .ok (.istore_n 2, 1) := by decide +kernel
theorem dX12_bits_4 : decode cX12_bits 4 = .ok (.iload_n 2, 1) := by decide +kernel
theorem dX12_bits_5 : decode cX12_bits 5 = .ok (.bipush 20, 2) := by decide +kernel
theorem dX12_bits_7 : decode cX12_bits 7 = .ok (.if_icmp .ge 17, 3) := by decide +kernel
theorem dX12_bits_10 : decode cX12_bits 10 = .ok (.iload_n 1, 1) := by decide +kernel
theorem dX12_bits_11 : decode cX12_bits 11 = .ok (.iload_n 0, 1) := by decide +kernel
theorem dX12_bits_12 : decode cX12_bits 12 = .ok (.iload_n 2, 1) := by decide +kernel
theorem dX12_bits_13 : decode cX12_bits 13 = .ok (.ishr, 1) := by decide +kernel
theorem dX12_bits_14 : decode cX12_bits 14 = .ok (.iconst 1, 1) := by decide +kernel
theorem dX12_bits_15 : decode cX12_bits 15 = .ok (.iand, 1) := by decide +kernel
theorem dX12_bits_16 : decode cX12_bits 16 = .ok (.iadd, 1) := by decide +kernel
theorem dX12_bits_17 : decode cX12_bits 17 = .ok (.istore_n 1, 1) := by decide +kernel
theorem dX12_bits_18 : decode cX12_bits 18 = .ok (.iinc 2 1, 3) := by decide +kernel
theorem dX12_bits_21 : decode cX12_bits 21 = .ok (.goto (-17), 3) := by decide +kernel
theorem dX12_bits_24 : decode cX12_bits 24 = .ok (.iload_n 1, 1) := by decide +kernel
theorem dX12_bits_25 : decode cX12_bits 25 = .ok (.ireturn, 1) := by decide +kernel
set_option maxHeartbeats 4000000 in
set_option maxRecDepth 100000 in
theorem s_X12_bits {P : PP} {a0 : Int32} (I : IV P) : CtrI yX12_bits cX12_bits 3 (some Jvm.ClassFile.FieldType.int) ({ frames := 1, cells := 0, slots := 0, locals := 64 } : Room) 0 0 P [.int a0] (fun r P2 => P = P2 ∧ (0 ≤ r.toInt ∧ r.toInt ≤ 20) ∧ (r.toInt = 0 ∨ a0.toInt ≠ 0)) := by
  refine enI (lv := [(0, .int a0)]) (by decide) (Nat.le_of_ble_eq_true rfl) rfl (fun E D cy C Ci0 ret => ?_)
  have J4 : ∀ (n4 : Nat) (v4_1 : Int32) (v4_2 : Int32), (20 - v4_2.toInt).toNat < n4 → (0 ≤ v4_1.toInt ∧ v4_1.toInt ≤ 20) → (0 ≤ v4_2.toInt ∧ v4_2.toInt ≤ 20) → (a0.toInt ≠ 0 ∨ v4_1.toInt = 0) → (v4_1.toInt ≤ v4_2.toInt) → G E ({ frames := 1, cells := 0, slots := 0, locals := 64 } : Room) D cy 3 P 0 0 4 [(0, .int a0), (1, .int v4_1), (2, .int v4_2)] [] := by
    intro n4
    induction n4 with
    | zero => intro v4_1 v4_2 hm4 hv4_1 hv4_2 rel4_0 rel4_1; omega
    | succ n4 ih4 =>
      intro v4_1 v4_2 hm4 hv4_1 hv4_2 rel4_0 rel4_1
      refine g_iload_n C dX12_bits_4 rfl 2 rfl ?_
      refine g_bipush (v := 20) C dX12_bits_5 (by decide) ?_
      refine b_icmp_ge C 24 dX12_bits_7 (by decide) (fun h28203 => ?_) (fun h28203 => ?_)
      · have h28203 : 20 ≤ v4_2.toInt := h28203
        refine g_iload_n C dX12_bits_24 rfl 1 rfl ?_
        exact ret _ _ _ _ _ _ dX12_bits_25 rfl (by decide) (by decide) ⟨rfl, (by omega), (by show v4_1.toInt = 0 ∨ a0.toInt ≠ 0; omega)⟩
      · have h28203 : v4_2.toInt < 20 := h28203
        refine g_iload_n C dX12_bits_10 rfl 1 rfl ?_
        refine g_iload_n C dX12_bits_11 rfl 0 rfl ?_
        refine g_iload_n C dX12_bits_12 rfl 2 rfl ?_
        refine g_ishr C dX12_bits_13 ?_
        refine g_topi (fun z28204 h28205 => ?_)
        refine g_iconst (v := 1) C dX12_bits_14 (by decide) ?_
        refine g_iand C dX12_bits_15 ?_
        refine g_topi (fun z28206 h28207 => ?_)
        have hb28208 := bit_of0 h28205 h28207 (by omega)
        have h28209 : 0 ≤ z28206.toInt ∧ z28206.toInt ≤ 1 := by rw [h28207]; exact i_and (by decide)
        refine s_iadd C dX12_bits_16 (by show -2147483648 ≤ v4_1.toInt + z28206.toInt ∧ v4_1.toInt + z28206.toInt ≤ 2147483647; omega) (fun z28210 h28211 => ?_)
        have h28211 : z28210.toInt = v4_1.toInt + z28206.toInt := h28211
        refine g_istore_n (lv' := [(1, .int z28210), (0, .int a0), (2, .int v4_2)]) C dX12_bits_17 rfl (by decide) rfl ?_
        refine s_iinc (lv0 := [(1, .int z28210), (0, .int a0)]) (m := 1) C dX12_bits_18 2 rfl (by decide) rfl (by decide) (by omega) (fun z28212 h28213 => ?_)
        have h28213 : z28212.toInt = v4_2.toInt + 1 := h28213
        refine g_goto C 4 dX12_bits_21 (by decide) ?_
        refine g_lv (lv' := [(0, .int a0), (1, .int z28210), (2, .int z28212)]) [2, 1, 0] rfl ?_
        exact ih4 z28210 z28212 (by omega) (by omega) (by omega) (by show a0.toInt ≠ 0 ∨ z28210.toInt = 0; omega) (by show z28210.toInt ≤ z28212.toInt; omega)
  refine g_iconst (v := 0) C dX12_bits_0 (by decide) ?_
  refine g_istore_n (lv' := [(1, .int 0), (0, .int a0)]) C dX12_bits_1 rfl (by decide) rfl ?_
  refine g_iconst (v := 0) C dX12_bits_2 (by decide) ?_
  refine g_istore_n (lv' := [(2, .int 0), (1, .int 0), (0, .int a0)]) C dX12_bits_3 rfl (by decide) rfl ?_
  refine g_lv (lv' := [(0, .int a0), (1, .int 0), (2, .int 0)]) [2, 1, 0] rfl ?_
  exact J4 _ 0 0 (Nat.lt_succ_self _) (by decide) (by decide) (by show a0.toInt ≠ 0 ∨ 0 = 0; omega) (by show 0 ≤ 0; omega)
theorem dX12_chancesOf_19 : decode cX12_chancesOf 19 = .ok (.iload_n 3, 1) := by decide +kernel
theorem dX12_chancesOf_20 : decode cX12_chancesOf 20 = .ok (.if_icmp .ne 97, 3) := by decide +kernel
theorem dX12_chancesOf_23 : decode cX12_chancesOf 23 = .ok (.aload_n 0, 1) := by decide +kernel
theorem dX12_chancesOf_24 : decode cX12_chancesOf 24 = .ok (.iload_n 1, 1) := by decide +kernel
theorem dX12_chancesOf_25 : decode cX12_chancesOf 25 = .ok (.invokevirtual 312, 3) := by decide +kernel
theorem dX12_chancesOf_28 : decode cX12_chancesOf 28 = .ok (.iconst 0, 1) := by decide +kernel
theorem dX12_chancesOf_29 : decode cX12_chancesOf 29 = .ok (.istore 7, 2) := by decide +kernel
theorem dX12_chancesOf_31 : decode cX12_chancesOf 31 = .ok (.iload 7, 2) := by decide +kernel
theorem dX12_chancesOf_33 : decode cX12_chancesOf 33 = .ok (.iload_n 2, 1) := by decide +kernel
theorem dX12_chancesOf_34 : decode cX12_chancesOf 34 = .ok (.if_icmp .ge 33, 3) := by decide +kernel
theorem dX12_chancesOf_37 : decode cX12_chancesOf 37 = .ok (.iload 6, 2) := by decide +kernel
theorem dX12_chancesOf_39 : decode cX12_chancesOf 39 = .ok (.iload 7, 2) := by decide +kernel
theorem dX12_chancesOf_41 : decode cX12_chancesOf 41 = .ok (.ishr, 1) := by decide +kernel
theorem dX12_chancesOf_42 : decode cX12_chancesOf 42 = .ok (.iconst 1, 1) := by decide +kernel
theorem dX12_chancesOf_43 : decode cX12_chancesOf 43 = .ok (.iand, 1) := by decide +kernel
theorem dX12_chancesOf_44 : decode cX12_chancesOf 44 = .ok (.iconst 1, 1) := by decide +kernel
theorem dX12_chancesOf_45 : decode cX12_chancesOf 45 = .ok (.if_icmp .ne 16, 3) := by decide +kernel
theorem dX12_chancesOf_48 : decode cX12_chancesOf 48 = .ok (.aload_n 0, 1) := by decide +kernel
theorem dX12_chancesOf_49 : decode cX12_chancesOf 49 = .ok (.aload_n 0, 1) := by decide +kernel
theorem dX12_chancesOf_50 : decode cX12_chancesOf 50 = .ok (.getfield 121, 3) := by decide +kernel
theorem dX12_chancesOf_53 : decode cX12_chancesOf 53 = .ok (.iload 7, 2) := by decide +kernel
theorem dX12_chancesOf_55 : decode cX12_chancesOf 55 = .ok (.iaload, 1) := by decide +kernel
theorem dX12_chancesOf_56 : decode cX12_chancesOf 56 = .ok (.iconst 0, 1) := by decide +kernel
theorem dX12_chancesOf_57 : decode cX12_chancesOf 57 = .ok (.iconst (-1), 1) := by decide +kernel
theorem dX12_chancesOf_58 : decode cX12_chancesOf 58 = .ok (.invokevirtual 308, 3) := by decide +kernel
theorem dX12_chancesOf_61 : decode cX12_chancesOf 61 = .ok (.iinc 7 1, 3) := by decide +kernel
theorem dX12_chancesOf_64 : decode cX12_chancesOf 64 = .ok (.goto (-33), 3) := by decide +kernel
theorem dX12_chancesOf_67 : decode cX12_chancesOf 67 = .ok (.iload 4, 2) := by decide +kernel
theorem dX12_chancesOf_69 : decode cX12_chancesOf 69 = .ok (.ifCond .ne 10, 3) := by decide +kernel
theorem dX12_chancesOf_72 : decode cX12_chancesOf 72 = .ok (.aload_n 0, 1) := by decide +kernel
theorem dX12_chancesOf_73 : decode cX12_chancesOf 73 = .ok (.invokevirtual 343, 3) := by decide +kernel
theorem dX12_chancesOf_79 : decode cX12_chancesOf 79 = .ok (.aload_n 0, 1) := by decide +kernel
theorem dX12_chancesOf_80 : decode cX12_chancesOf 80 = .ok (.invokevirtual 346, 3) := by decide +kernel
theorem dX12_chancesOf_117 : decode cX12_chancesOf 117 = .ok (.iinc 6 1, 3) := by decide +kernel
theorem dX12_chancesOf_120 : decode cX12_chancesOf 120 = .ok (.goto (-114), 3) := by decide +kernel
theorem dX12_findPeeled_0 : decode cX12_findPeeled 0 = .ok (.aload_n 0, 1) := by decide +kernel
theorem dX12_findPeeled_1 : decode cX12_findPeeled 1 = .ok (.iconst 0, 1) := by decide +kernel
theorem dX12_findPeeled_2 : decode cX12_findPeeled 2 = .ok (.putfield 318, 3) := by decide +kernel
theorem dX12_findPeeled_5 : decode cX12_findPeeled 5 = .ok (.iconst 1, 1) := by decide +kernel
theorem dX12_findPeeled_6 : decode cX12_findPeeled 6 = .ok (.istore_n 1, 1) := by decide +kernel
theorem dX12_findPeeled_7 : decode cX12_findPeeled 7 = .ok (.iload_n 1, 1) := by decide +kernel
theorem dX12_findPeeled_8 : decode cX12_findPeeled 8 = .ok (.ifCond .eq 112, 3) := by decide +kernel
theorem dX12_findPeeled_11 : decode cX12_findPeeled 11 = .ok (.iconst 0, 1) := by decide +kernel
theorem dX12_findPeeled_12 : decode cX12_findPeeled 12 = .ok (.istore_n 1, 1) := by decide +kernel
theorem dX12_findPeeled_13 : decode cX12_findPeeled 13 = .ok (.iconst 0, 1) := by decide +kernel
theorem dX12_findPeeled_14 : decode cX12_findPeeled 14 = .ok (.istore_n 2, 1) := by decide +kernel
theorem dX12_findPeeled_15 : decode cX12_findPeeled 15 = .ok (.iload_n 2, 1) := by decide +kernel
theorem dX12_findPeeled_16 : decode cX12_findPeeled 16 = .ok (.aload_n 0, 1) := by decide +kernel
theorem dX12_findPeeled_17 : decode cX12_findPeeled 17 = .ok (.getfield 305, 3) := by decide +kernel
theorem dX12_findPeeled_20 : decode cX12_findPeeled 20 = .ok (.if_icmp .ge 97, 3) := by decide +kernel
theorem dX12_findPeeled_23 : decode cX12_findPeeled 23 = .ok (.iload_n 1, 1) := by decide +kernel
theorem dX12_findPeeled_24 : decode cX12_findPeeled 24 = .ok (.ifCond .ne 93, 3) := by decide +kernel
theorem dX12_findPeeled_27 : decode cX12_findPeeled 27 = .ok (.aload_n 0, 1) := by decide +kernel
theorem dX12_findPeeled_28 : decode cX12_findPeeled 28 = .ok (.getfield 91, 3) := by decide +kernel
theorem dX12_findPeeled_31 : decode cX12_findPeeled 31 = .ok (.iload_n 2, 1) := by decide +kernel
theorem dX12_findPeeled_32 : decode cX12_findPeeled 32 = .ok (.iaload, 1) := by decide +kernel
theorem dX12_findPeeled_33 : decode cX12_findPeeled 33 = .ok (.aload_n 0, 1) := by decide +kernel
theorem dX12_findPeeled_34 : decode cX12_findPeeled 34 = .ok (.getfield 318, 3) := by decide +kernel
theorem dX12_findPeeled_37 : decode cX12_findPeeled 37 = .ok (.iconst (-1), 1) := by decide +kernel
theorem dX12_findPeeled_38 : decode cX12_findPeeled 38 = .ok (.ixor, 1) := by decide +kernel
theorem dX12_findPeeled_39 : decode cX12_findPeeled 39 = .ok (.iand, 1) := by decide +kernel
theorem dX12_findPeeled_40 : decode cX12_findPeeled 40 = .ok (.istore_n 3, 1) := by decide +kernel
theorem dX12_findPeeled_41 : decode cX12_findPeeled 41 = .ok (.iload_n 3, 1) := by decide +kernel
theorem dX12_findPeeled_42 : decode cX12_findPeeled 42 = .ok (.invokestatic 264, 3) := by decide +kernel
theorem dX12_findPeeled_45 : decode cX12_findPeeled 45 = .ok (.iconst 1, 1) := by decide +kernel
theorem dX12_findPeeled_46 : decode cX12_findPeeled 46 = .ok (.if_icmp .ne 65, 3) := by decide +kernel
theorem dX12_findPeeled_49 : decode cX12_findPeeled 49 = .ok (.iconst 1, 1) := by decide +kernel
theorem dX12_findPeeled_50 : decode cX12_findPeeled 50 = .ok (.istore_n 1, 1) := by decide +kernel
theorem dX12_findPeeled_51 : decode cX12_findPeeled 51 = .ok (.aload_n 0, 1) := by decide +kernel
theorem dX12_findPeeled_52 : decode cX12_findPeeled 52 = .ok (.iload_n 2, 1) := by decide +kernel
theorem dX12_findPeeled_53 : decode cX12_findPeeled 53 = .ok (.invokevirtual 321, 3) := by decide +kernel
theorem dX12_comesTo_0 : decode cX12_comesTo 0 = .ok (.aload_n 0, 1) := by decide +kernel
theorem dX12_comesTo_1 : decode cX12_comesTo 1 = .ok (.getfield 94, 3) := by decide +kernel
theorem dX12_comesTo_4 : decode cX12_comesTo 4 = .ok (.iload_n 1, 1) := by decide +kernel
theorem dX12_comesTo_5 : decode cX12_comesTo 5 = .ok (.iaload, 1) := by decide +kernel
theorem dX12_comesTo_6 : decode cX12_comesTo 6 = .ok (.istore_n 2, 1) := by decide +kernel
theorem dX12_comesTo_7 : decode cX12_comesTo 7 = .ok (.iconst 0, 1) := by decide +kernel
theorem dX12_comesTo_8 : decode cX12_comesTo 8 = .ok (.istore_n 3, 1) := by decide +kernel
theorem dX12_comesTo_9 : decode cX12_comesTo 9 = .ok (.iload_n 3, 1) := by decide +kernel
theorem dX12_comesTo_10 : decode cX12_comesTo 10 = .ok (.bipush 20, 2) := by decide +kernel
theorem dX12_comesTo_12 : decode cX12_comesTo 12 = .ok (.if_icmp .ge 40, 3) := by decide +kernel
theorem dX12_comesTo_15 : decode cX12_comesTo 15 = .ok (.iload_n 2, 1) := by decide +kernel
theorem dX12_comesTo_16 : decode cX12_comesTo 16 = .ok (.aload_n 0, 1) := by decide +kernel
theorem dX12_comesTo_17 : decode cX12_comesTo 17 = .ok (.getfield 91, 3) := by decide +kernel
theorem dX12_comesTo_20 : decode cX12_comesTo 20 = .ok (.iload_n 1, 1) := by decide +kernel
theorem dX12_comesTo_21 : decode cX12_comesTo 21 = .ok (.iaload, 1) := by decide +kernel
theorem dX12_comesTo_22 : decode cX12_comesTo 22 = .ok (.aload_n 0, 1) := by decide +kernel
theorem dX12_comesTo_23 : decode cX12_comesTo 23 = .ok (.getfield 318, 3) := by decide +kernel
theorem dX12_comesTo_26 : decode cX12_comesTo 26 = .ok (.iand, 1) := by decide +kernel
theorem dX12_comesTo_27 : decode cX12_comesTo 27 = .ok (.iconst 1, 1) := by decide +kernel
theorem dX12_comesTo_28 : decode cX12_comesTo 28 = .ok (.iload_n 3, 1) := by decide +kernel
theorem dX12_comesTo_29 : decode cX12_comesTo 29 = .ok (.ishl, 1) := by decide +kernel
theorem dX12_comesTo_30 : decode cX12_comesTo 30 = .ok (.iand, 1) := by decide +kernel
theorem dX12_comesTo_31 : decode cX12_comesTo 31 = .ok (.ifCond .eq 12, 3) := by decide +kernel
theorem dX12_comesTo_34 : decode cX12_comesTo 34 = .ok (.aload_n 0, 1) := by decide +kernel
theorem dX12_comesTo_35 : decode cX12_comesTo 35 = .ok (.getfield 103, 3) := by decide +kernel
theorem dX12_comesTo_38 : decode cX12_comesTo 38 = .ok (.iload_n 3, 1) := by decide +kernel
theorem dX12_comesTo_39 : decode cX12_comesTo 39 = .ok (.iaload, 1) := by decide +kernel
theorem dX12_comesTo_40 : decode cX12_comesTo 40 = .ok (.goto 4, 3) := by decide +kernel
theorem dX12_comesTo_43 : decode cX12_comesTo 43 = .ok (.iconst 0, 1) := by decide +kernel
theorem dX12_comesTo_44 : decode cX12_comesTo 44 = .ok (.ixor, 1) := by decide +kernel
theorem dX12_comesTo_45 : decode cX12_comesTo 45 = .ok (.istore_n 2, 1) := by decide +kernel
theorem dX12_comesTo_46 : decode cX12_comesTo 46 = .ok (.iinc 3 1, 3) := by decide +kernel
theorem dX12_comesTo_49 : decode cX12_comesTo 49 = .ok (.goto (-40), 3) := by decide +kernel
theorem dX12_comesTo_52 : decode cX12_comesTo 52 = .ok (.iload_n 2, 1) := by decide +kernel
theorem dX12_comesTo_53 : decode cX12_comesTo 53 = .ok (.ireturn, 1) := by decide +kernel
set_option maxHeartbeats 4000000 in
set_option maxRecDepth 100000 in
theorem s_X12_comesTo {P : PP} {a0 : Nat} {a1 : Int32} (I : IM P a0) (ha1 : 0 ≤ a1.toInt ∧ a1.toInt ≤ 63) (hW : MW P a0) : CtrI yX12_comesTo cX12_comesTo 4 (some Jvm.ClassFile.FieldType.int) ({ frames := 1, cells := 0, slots := 0, locals := 64 } : Room) 0 0 P [.ref a0, .int a1] (fun r P2 => P = P2 ∧ (True)) := by
  refine enI (lv := [(0, .ref a0), (1, .int a1)]) (by decide) (Nat.le_of_ble_eq_true rfl) rfl (fun E D cy C Ci0 ret => ?_)
  have ha0 := I.2.1
  have J9 : ∀ (n9 : Nat) (v9_2 : Int32) (v9_3 : Int32), (20 - v9_3.toInt).toNat < n9 → (0 ≤ v9_3.toInt ∧ v9_3.toInt ≤ 20) → G E ({ frames := 1, cells := 0, slots := 0, locals := 64 } : Room) D cy 4 P 0 0 9 [(0, .ref a0), (1, .int a1), (2, .int v9_2), (3, .int v9_3)] [] := by
    intro n9
    induction n9 with
    | zero => intro v9_2 v9_3 hm9 hv9_3; omega
    | succ n9 ih9 =>
      intro v9_2 v9_3 hm9 hv9_3
      have J44 : ∀ (v44_s0 : Int32), (0 ≤ v9_3.toInt ∧ v9_3.toInt ≤ 19) → G E ({ frames := 1, cells := 0, slots := 0, locals := 64 } : Room) D cy 4 P 0 0 44 [(0, .ref a0), (1, .int a1), (3, .int v9_3)] [.int v44_s0, .int v9_2] := by
        intro v44_s0 hv44_3
        refine a_ixor C dX12_comesTo_44 (fun z28607 => ?_)
        refine g_istore_n (lv' := [(2, .int z28607), (0, .ref a0), (1, .int a1), (3, .int v9_3)]) C dX12_comesTo_45 rfl (by decide) rfl ?_
        refine s_iinc (lv0 := [(2, .int z28607), (0, .ref a0), (1, .int a1)]) (m := 1) C dX12_comesTo_46 3 rfl (by decide) rfl (by decide) (by omega) (fun z28609 h28610 => ?_)
        have h28610 : z28609.toInt = v9_3.toInt + 1 := h28610
        refine g_goto C 9 dX12_comesTo_49 (by decide) ?_
        refine g_lv (lv' := [(0, .ref a0), (1, .int a1), (2, .int z28607), (3, .int z28609)]) [2, 3, 1, 0] rfl ?_
        exact ih9 z28607 z28609 (by omega) (by omega)
      refine g_iload_n C dX12_comesTo_9 rfl 3 rfl ?_
      refine g_bipush (v := 20) C dX12_comesTo_10 (by decide) ?_
      refine b_icmp_ge C 52 dX12_comesTo_12 (by decide) (fun h28611 => ?_) (fun h28611 => ?_)
      · have h28611 : 20 ≤ v9_3.toInt := h28611
        refine g_iload_n C dX12_comesTo_52 rfl 2 rfl ?_
        exact ret _ _ _ _ _ _ dX12_comesTo_53 rfl (by decide) (by decide) ⟨rfl, trivial⟩
      · have h28611 : v9_3.toInt < 20 := h28611
        refine g_iload_n C dX12_comesTo_15 rfl 2 rfl ?_
        refine g_aload_n C dX12_comesTo_16 rfl 0 rfl ?_
        obtain ⟨b28612, e28613, h28614⟩ := I.fld (ha0) 29 13 64 rfl
        refine g_getR C fi_X12_91 rfl e28613 (ha0).1 (ha0).2 dX12_comesTo_17 ?_
        refine g_iload_n C dX12_comesTo_20 rfl 1 rfl ?_
        refine g_iald (j := (a1.toInt.toNat)) C h28614.1 h28614.2.1 (ix_in h28614.2.2 (by omega)) dX12_comesTo_21 ?_
        refine g_aload_n C dX12_comesTo_22 rfl 0 rfl ?_
        refine g_getI C fi_X12_318 (by decide) (ha0).1 (ha0).2 dX12_comesTo_23 ?_
        refine a_iand C dX12_comesTo_26 (fun z28615 => ?_)
        refine g_iconst (v := 1) C dX12_comesTo_27 (by decide) ?_
        refine g_iload_n C dX12_comesTo_28 rfl 3 rfl ?_
        refine a_ishl C dX12_comesTo_29 (fun z28617 => ?_)
        refine a_iand C dX12_comesTo_30 (fun z28619 => ?_)
        have u28622 := ti_rng z28619
        refine b_if_eq C 43 dX12_comesTo_31 (by decide) (fun h28621 => ?_) (fun h28621 => ?_)
        · have h28621 : z28619.toInt = 0 := congrArg Int32.toInt h28621
          refine g_iconst (v := 0) C dX12_comesTo_43 (by decide) ?_
          refine g_lv (lv' := [(0, .ref a0), (1, .int a1), (3, .int v9_3)]) [0, 1, 3] rfl ?_
          exact J44 0 (by omega)
        · have h28621 : z28619.toInt ≠ 0 := ti_ne h28621
          refine g_aload_n C dX12_comesTo_34 rfl 0 rfl ?_
          obtain ⟨b28623, e28624, h28625⟩ := I.fld (ha0) 34 13 20 rfl
          refine g_getR C fi_X12_103 rfl e28624 (ha0).1 (ha0).2 dX12_comesTo_35 ?_
          refine g_iload_n C dX12_comesTo_38 rfl 3 rfl ?_
          refine g_iald (j := (v9_3.toInt.toNat)) C h28625.1 h28625.2.1 (ix_in h28625.2.2 (by omega)) dX12_comesTo_39 ?_
          refine g_goto C 44 dX12_comesTo_40 (by decide) ?_
          refine g_lv (lv' := [(0, .ref a0), (1, .int a1), (3, .int v9_3)]) [0, 1, 3] rfl ?_
          exact J44 (pI P b28623 (v9_3.toInt.toNat)) (by omega)
  refine g_aload_n C dX12_comesTo_0 rfl 0 rfl ?_
  obtain ⟨b28626, e28627, h28628⟩ := I.fld (ha0) 30 13 64 rfl
  refine g_getR C fi_X12_94 rfl e28627 (ha0).1 (ha0).2 dX12_comesTo_1 ?_
  refine g_iload_n C dX12_comesTo_4 rfl 1 rfl ?_
  refine g_iald (j := (a1.toInt.toNat)) C h28628.1 h28628.2.1 (ix_in h28628.2.2 (by omega)) dX12_comesTo_5 ?_
  refine g_topi (fun z28629 h28630 => ?_)
  have h28630 : z28629.toInt = (pI P b28626 (a1.toInt.toNat)).toInt := congrArg Int32.toInt h28630
  refine g_istore_n (lv' := [(2, .int z28629), (0, .ref a0), (1, .int a1)]) C dX12_comesTo_6 rfl (by decide) rfl ?_
  refine g_iconst (v := 0) C dX12_comesTo_7 (by decide) ?_
  refine g_istore_n (lv' := [(3, .int 0), (2, .int z28629), (0, .ref a0), (1, .int a1)]) C dX12_comesTo_8 rfl (by decide) rfl ?_
  refine g_lv (lv' := [(0, .ref a0), (1, .int a1), (2, .int z28629), (3, .int 0)]) [2, 3, 1, 0] rfl ?_
  exact J9 _ z28629 0 (Nat.lt_succ_self _) (by decide)
theorem dX12_findPeeled_56 : decode cX12_findPeeled 56 = .ok (.istore 4, 2) := by decide +kernel
theorem dX12_findPeeled_58 : decode cX12_findPeeled 58 = .ok (.iconst 0, 1) := by decide +kernel
theorem dX12_findPeeled_59 : decode cX12_findPeeled 59 = .ok (.istore 5, 2) := by decide +kernel
theorem dX12_findPeeled_61 : decode cX12_findPeeled 61 = .ok (.iload 5, 2) := by decide +kernel
theorem dX12_findPeeled_63 : decode cX12_findPeeled 63 = .ok (.bipush 20, 2) := by decide +kernel
theorem dX12_findPeeled_65 : decode cX12_findPeeled 65 = .ok (.if_icmp .ge 36, 3) := by decide +kernel
theorem dX12_findPeeled_68 : decode cX12_findPeeled 68 = .ok (.aload_n 0, 1) := by decide +kernel
theorem dX12_findPeeled_69 : decode cX12_findPeeled 69 = .ok (.getfield 103, 3) := by decide +kernel
theorem dX12_findPeeled_72 : decode cX12_findPeeled 72 = .ok (.iload 5, 2) := by decide +kernel
theorem dX12_findPeeled_74 : decode cX12_findPeeled 74 = .ok (.iload_n 3, 1) := by decide +kernel
theorem dX12_findPeeled_75 : decode cX12_findPeeled 75 = .ok (.iconst 1, 1) := by decide +kernel
theorem dX12_findPeeled_76 : decode cX12_findPeeled 76 = .ok (.iload 5, 2) := by decide +kernel
theorem dX12_findPeeled_78 : decode cX12_findPeeled 78 = .ok (.ishl, 1) := by decide +kernel
theorem dX12_findPeeled_79 : decode cX12_findPeeled 79 = .ok (.if_icmp .ne 8, 3) := by decide +kernel
theorem dX12_findPeeled_82 : decode cX12_findPeeled 82 = .ok (.iload 4, 2) := by decide +kernel
theorem dX12_findPeeled_84 : decode cX12_findPeeled 84 = .ok (.goto 10, 3) := by decide +kernel
theorem dX12_findPeeled_87 : decode cX12_findPeeled 87 = .ok (.aload_n 0, 1) := by decide +kernel
theorem dX12_findPeeled_88 : decode cX12_findPeeled 88 = .ok (.getfield 103, 3) := by decide +kernel
theorem dX12_findPeeled_91 : decode cX12_findPeeled 91 = .ok (.iload 5, 2) := by decide +kernel
theorem dX12_findPeeled_93 : decode cX12_findPeeled 93 = .ok (.iaload, 1) := by decide +kernel
theorem dX12_findPeeled_94 : decode cX12_findPeeled 94 = .ok (.iastore, 1) := by decide +kernel
theorem dX12_findPeeled_95 : decode cX12_findPeeled 95 = .ok (.iinc 5 1, 3) := by decide +kernel
theorem dX12_findPeeled_98 : decode cX12_findPeeled 98 = .ok (.goto (-37), 3) := by decide +kernel
theorem dX12_findPeeled_101 : decode cX12_findPeeled 101 = .ok (.aload_n 0, 1) := by decide +kernel
theorem dX12_findPeeled_102 : decode cX12_findPeeled 102 = .ok (.dup, 1) := by decide +kernel
theorem dX12_findPeeled_103 : decode cX12_findPeeled 103 = .ok (.getfield 318, 3) := by decide +kernel
theorem dX12_findPeeled_106 : decode cX12_findPeeled 106 = .ok (.iload_n 3, 1) := by decide +kernel
theorem dX12_findPeeled_107 : decode cX12_findPeeled 107 = .ok (.ior, 1) := by decide +kernel
theorem dX12_findPeeled_108 : decode cX12_findPeeled 108 = .ok (.putfield 318, 3) := by decide +kernel
theorem dX12_findPeeled_111 : decode cX12_findPeeled 111 = .ok (.iinc 2 1, 3) := by decide +kernel
theorem dX12_findPeeled_114 : decode cX12_findPeeled 114 = .ok (.goto (-99), 3) := by decide +kernel
theorem dX12_findPeeled_117 : decode cX12_findPeeled 117 = .ok (.goto (-110), 3) := by decide +kernel
theorem dX12_findPeeled_120 : decode cX12_findPeeled 120 = .ok (.return_, 1) := by decide +kernel
set_option maxHeartbeats 4000000 in
set_option maxRecDepth 100000 in
theorem s_X12_findPeeled {P : PP} {a0 : Nat} (I : IM P a0) (hW : MW P a0) : CtrV yX12_findPeeled cX12_findPeeled 6 none ({ frames := 2, cells := 0, slots := 0, locals := 128 } : Room) 0 0 P [.ref a0] (fun P2 => IM P2 a0 ∧ EM [33, 34] a0 P P2 ∧ MW P2 a0) := by
  refine enV (lv := [(0, .ref a0)]) (by decide) (Nat.le_of_ble_eq_true rfl) rfl (fun E D cy C Ci0 ret => ?_)
  have ha0 := I.2.1
  have J7 : ∀ (n7 : Nat) (P7 : PP) (v7_1 : Int32), (2 * (nf_M (pI P7 a0 33) : Int) + v7_1.toInt).toNat < n7 → (IM P7 a0) → (EM [33, 34] a0 P P7) → (MW P7 a0) → (0 ≤ v7_1.toInt ∧ v7_1.toInt ≤ 1) → G E ({ frames := 2, cells := 0, slots := 0, locals := 128 } : Room) D cy 6 P7 0 0 7 [(0, .ref a0), (1, .int v7_1)] [] := by
    intro n7
    induction n7 with
    | zero => intro P7 v7_1 hm7 I7 X7 W7 hv7_1; omega
    | succ n7 ih7 =>
      intro P7 v7_1 hm7 I7 X7 W7 hv7_1
      have h29816 := X7.at ha0
      have J117 : ∀ (P117 : PP) (v117_1 : Int32), (IM P117 a0) → (EM [33, 34] a0 P P117) → (MW P117 a0) → (0 ≤ v117_1.toInt ∧ v117_1.toInt ≤ 1) → ((v117_1.toInt = 0 ∧ nf_M (pI P117 a0 33) = nf_M (pI P7 a0 33)) ∨ (v117_1.toInt = 1 ∧ nf_M (pI P117 a0 33) < nf_M (pI P7 a0 33))) → (v7_1.toInt = 1) → G E ({ frames := 2, cells := 0, slots := 0, locals := 128 } : Room) D cy 6 P117 0 0 117 [(0, .ref a0), (1, .int v117_1)] [] := by
        intro P117 v117_1 I117 X117 W117 hv117_1 rel117_0 rel117_1
        have h29817 := X117.at ha0
        refine g_goto C 7 dX12_findPeeled_117 (by decide) ?_
        exact ih7 P117 v117_1 (by omega) I117 X117 W117 (by omega)
      have J15 : ∀ (n15 : Nat) (P15 : PP) (v15_1 : Int32) (v15_2 : Int32), (64 - v15_2.toInt).toNat < n15 → (IM P15 a0) → (EM [33, 34] a0 P P15) → (MW P15 a0) → (0 ≤ v15_1.toInt ∧ v15_1.toInt ≤ 1) → (0 ≤ v15_2.toInt ∧ v15_2.toInt ≤ 64) → ((v15_1.toInt = 0 ∧ nf_M (pI P15 a0 33) = nf_M (pI P7 a0 33)) ∨ (v15_1.toInt = 1 ∧ nf_M (pI P15 a0 33) < nf_M (pI P7 a0 33))) → (v7_1.toInt = 1) → G E ({ frames := 2, cells := 0, slots := 0, locals := 128 } : Room) D cy 6 P15 0 0 15 [(0, .ref a0), (1, .int v15_1), (2, .int v15_2)] [] := by
        intro n15
        induction n15 with
        | zero => intro P15 v15_1 v15_2 hm15 I15 X15 W15 hv15_1 hv15_2 rel15_0 rel15_1; omega
        | succ n15 ih15 =>
          intro P15 v15_1 v15_2 hm15 I15 X15 W15 hv15_1 hv15_2 rel15_0 rel15_1
          have h29818 := X15.at ha0
          have J111 : ∀ (P111 : PP) (v111_1 : Int32), (IM P111 a0) → (EM [33, 34] a0 P P111) → (MW P111 a0) → (0 ≤ v111_1.toInt ∧ v111_1.toInt ≤ 1) → (0 ≤ v15_2.toInt ∧ v15_2.toInt ≤ 63) → (1 ≤ (pI P111 a0 28).toInt ∧ (pI P111 a0 28).toInt ≤ 64) → ((v111_1.toInt = 0 ∧ nf_M (pI P111 a0 33) = nf_M (pI P7 a0 33)) ∨ (v111_1.toInt = 1 ∧ nf_M (pI P111 a0 33) < nf_M (pI P7 a0 33))) → (v7_1.toInt = 1) → G E ({ frames := 2, cells := 0, slots := 0, locals := 128 } : Room) D cy 6 P111 0 0 111 [(0, .ref a0), (1, .int v111_1), (2, .int v15_2)] [] := by
            intro P111 v111_1 I111 X111 W111 hv111_1 hv111_2 hq111_0 rel111_0 rel111_1
            have h29819 := X111.at ha0
            refine s_iinc (lv0 := [(0, .ref a0), (1, .int v111_1)]) (m := 1) C dX12_findPeeled_111 2 rfl (by decide) rfl (by decide) (by omega) (fun z29820 h29821 => ?_)
            have h29821 : z29820.toInt = v15_2.toInt + 1 := h29821
            refine g_goto C 15 dX12_findPeeled_114 (by decide) ?_
            refine g_lv (lv' := [(0, .ref a0), (1, .int v111_1), (2, .int z29820)]) [1, 2, 0] rfl ?_
            exact ih15 P111 v111_1 z29820 (by omega) I111 X111 W111 (by omega) (by omega) (by show (v111_1.toInt = 0 ∧ nf_M (pI P111 a0 33) = nf_M (pI P7 a0 33)) ∨ (v111_1.toInt = 1 ∧ nf_M (pI P111 a0 33) < nf_M (pI P7 a0 33)); omega) (by show v7_1.toInt = 1; omega)
          have J61 : ∀ (n61 : Nat) (P61 : PP) (v61_3 : Int32) (v61_4 : Int32) (v61_5 : Int32), (20 - v61_5.toInt).toNat < n61 → (IM P61 a0) → (EM [33, 34] a0 P P61) → (MW P61 a0) → (0 ≤ v15_2.toInt ∧ v15_2.toInt ≤ 63) → (0 ≤ v61_5.toInt ∧ v61_5.toInt ≤ 20) → (1 ≤ (pI P61 a0 28).toInt ∧ (pI P61 a0 28).toInt ≤ 64) → (nf_M (pI P61 a0 33) = nf_M (pI P7 a0 33)) → (nf_M (pI P61 a0 33 ||| v61_3) < nf_M (pI P61 a0 33)) → (v7_1.toInt = 1) → G E ({ frames := 2, cells := 0, slots := 0, locals := 128 } : Room) D cy 6 P61 0 0 61 [(0, .ref a0), (1, .int 1), (2, .int v15_2), (3, .int v61_3), (4, .int v61_4), (5, .int v61_5)] [] := by
            intro n61
            induction n61 with
            | zero => intro P61 v61_3 v61_4 v61_5 hm61 I61 X61 W61 hv61_2 hv61_5 hq61_0 rel61_0 rel61_1 rel61_2; omega
            | succ n61 ih61 =>
              intro P61 v61_3 v61_4 v61_5 hm61 I61 X61 W61 hv61_2 hv61_5 hq61_0 rel61_0 rel61_1 rel61_2
              have h29822 := X61.at ha0
              have J94 : ∀ (v94_s0 : Int32) (b94_s2 : Nat), (0 ≤ v15_2.toInt ∧ v15_2.toInt ≤ 63) → (0 ≤ v61_5.toInt ∧ v61_5.toInt ≤ 19) → (Ar P61 b94_s2 13 20) → (pR P61 a0 34 = some b94_s2) → (1 ≤ (pI P61 a0 28).toInt ∧ (pI P61 a0 28).toInt ≤ 64) → (nf_M (pI P61 a0 33) = nf_M (pI P7 a0 33)) → (nf_M (pI P61 a0 33 ||| v61_3) < nf_M (pI P61 a0 33)) → (v7_1.toInt = 1) → G E ({ frames := 2, cells := 0, slots := 0, locals := 128 } : Room) D cy 6 P61 0 0 94 [(0, .ref a0), (1, .int 1), (2, .int v15_2), (3, .int v61_3), (4, .int v61_4), (5, .int v61_5)] [.int v94_s0, .int v61_5, .ref b94_s2] := by
                intro v94_s0 b94_s2 hv94_2 hv94_5 hb94_s2 eb94_s2 hq94_0 rel94_0 rel94_1 rel94_2
                have h29823 := X61.at ha0
                refine g_iast (j := (v61_5.toInt.toNat)) C hb94_s2.1 hb94_s2.2.1 (ix_in hb94_s2.2.2 (by omega)) dX12_findPeeled_94 ?_
                refine gqW (ks := [34]) (I61.setA eb94_s2 hb94_s2 (by decide) (arOk.none rfl)) (EM.setA I61 eb94_s2 rfl (by decide)) (fun Y29824 Iy29825 Xy29826 w29827  => ?_)
                have w29827 : (pI Y29824 b94_s2 (v61_5.toInt.toNat)).toInt = v94_s0.toInt := w29827
                have q29828 := Xy29826.keepF 28 (by decide)
                have W29829 := W61.keep I61 Xy29826 (by decide) (by decide) (by decide) (by decide)
                have Xz29830 : EM [33, 34] a0 P Y29824 := EM.tr ha0 X61 (Xy29826.mono (by decide))
                have e29831 := Xy29826.ref h29823 (by decide) eb94_s2
                have h29832 := Xy29826.at h29823
                have h29833 := Xy29826.ar hb94_s2
                have m29834 : nf_M (pI Y29824 a0 33) = nf_M (pI P61 a0 33) := by rw [Xy29826.2.2.1 33 (by decide)]
                have m29835 : nf_M (pI Y29824 a0 33 ||| v61_3) = nf_M (pI P61 a0 33 ||| v61_3) := by rw [Xy29826.2.2.1 33 (by decide)]
                refine s_iinc (lv0 := [(0, .ref a0), (1, .int 1), (2, .int v15_2), (3, .int v61_3), (4, .int v61_4)]) (m := 1) C dX12_findPeeled_95 5 rfl (by decide) rfl (by decide) (by omega) (fun z29836 h29837 => ?_)
                have h29837 : z29836.toInt = v61_5.toInt + 1 := h29837
                refine g_goto C 61 dX12_findPeeled_98 (by decide) ?_
                refine g_lv (lv' := [(0, .ref a0), (1, .int 1), (2, .int v15_2), (3, .int v61_3), (4, .int v61_4), (5, .int z29836)]) [1, 2, 3, 4, 5, 0] rfl ?_
                exact ih61 Y29824 v61_3 v61_4 z29836 (by omega) Iy29825 Xz29830 W29829 (by omega) (by omega) (by omega) (by show nf_M (pI Y29824 a0 33) = nf_M (pI P7 a0 33); omega) (by show nf_M (pI Y29824 a0 33 ||| v61_3) < nf_M (pI Y29824 a0 33); omega) (by show v7_1.toInt = 1; omega)
              refine g_iload C dX12_findPeeled_61 5 rfl ?_
              refine g_bipush (v := 20) C dX12_findPeeled_63 (by decide) ?_
              refine b_icmp_ge C 101 dX12_findPeeled_65 (by decide) (fun h29838 => ?_) (fun h29838 => ?_)
              · have h29838 : 20 ≤ v61_5.toInt := h29838
                refine g_aload_n C dX12_findPeeled_101 rfl 0 rfl ?_
                refine g_dup C dX12_findPeeled_102 rfl ?_
                refine g_getI C fi_X12_318 (by decide) (h29822).1 (h29822).2 dX12_findPeeled_103 ?_
                refine g_iload_n C dX12_findPeeled_106 rfl 3 rfl ?_
                refine g_ior C dX12_findPeeled_107 ?_
                refine g_topi (fun z29839 h29840 => ?_)
                refine g_putI C fi_X12_318 rfl (h29822).1 (h29822).2 dX12_findPeeled_108 ?_
                refine gqW (ks := [33]) (I61.setI (rgOk.none rfl)) (EM.setI I61 (by decide)) (fun Y29841 Iy29842 Xy29843 w29844  => ?_)
                have w29844 : (pI Y29841 a0 33).toInt = z29839.toInt := w29844
                have q29845 := Xy29843.keepF 28 (by decide)
                have W29846 := W61.keep I61 Xy29843 (by decide) (by decide) (by decide) (by decide)
                have Xz29847 : EM [33, 34] a0 P Y29841 := EM.tr ha0 X61 (Xy29843.mono (by decide))
                have h29848 := Xy29843.at h29822
                have m29849 : nf_M (pI Y29841 a0 33) = nf_M (pI P61 a0 33 ||| v61_3) := by rw [Int32.toInt_inj.mp (show (pI Y29841 a0 33).toInt = z29839.toInt by omega), h29840]
                refine g_lv (lv' := [(0, .ref a0), (1, .int 1), (2, .int v15_2)]) [0, 1, 2] rfl ?_
                exact J111 Y29841 1 Iy29842 Xz29847 W29846 (by decide) (by omega) (by omega) (by show (1 = 0 ∧ nf_M (pI Y29841 a0 33) = nf_M (pI P7 a0 33)) ∨ (1 = 1 ∧ nf_M (pI Y29841 a0 33) < nf_M (pI P7 a0 33)); omega) (by show v7_1.toInt = 1; omega)
              · have h29838 : v61_5.toInt < 20 := h29838
                refine g_aload_n C dX12_findPeeled_68 rfl 0 rfl ?_
                obtain ⟨b29850, e29851, h29852⟩ := I61.fld (h29822) 34 13 20 rfl
                refine g_getR C fi_X12_103 rfl e29851 (h29822).1 (h29822).2 dX12_findPeeled_69 ?_
                refine g_iload C dX12_findPeeled_72 5 rfl ?_
                refine g_iload_n C dX12_findPeeled_74 rfl 3 rfl ?_
                refine g_iconst (v := 1) C dX12_findPeeled_75 (by decide) ?_
                refine g_iload C dX12_findPeeled_76 5 rfl ?_
                refine a_ishl C dX12_findPeeled_78 (fun z29853 => ?_)
                have u29856 := ti_rng v61_3
                have u29857 := ti_rng z29853
                refine b_icmp_ne C 87 dX12_findPeeled_79 (by decide) (fun h29855 => ?_) (fun h29855 => ?_)
                · have h29855 : v61_3.toInt ≠ z29853.toInt := ti_ne h29855
                  refine g_aload_n C dX12_findPeeled_87 rfl 0 rfl ?_
                  refine g_getR C fi_X12_103 rfl e29851 (h29822).1 (h29822).2 dX12_findPeeled_88 ?_
                  refine g_iload C dX12_findPeeled_91 5 rfl ?_
                  refine g_iald (j := (v61_5.toInt.toNat)) C h29852.1 h29852.2.1 (ix_in h29852.2.2 (by omega)) dX12_findPeeled_93 ?_
                  exact J94 (pI P61 b29850 (v61_5.toInt.toNat)) b29850 (by omega) (by omega) h29852 e29851 (by omega) (by show nf_M (pI P61 a0 33) = nf_M (pI P7 a0 33); omega) (by show nf_M (pI P61 a0 33 ||| v61_3) < nf_M (pI P61 a0 33); omega) (by show v7_1.toInt = 1; omega)
                · have h29855 : v61_3.toInt = z29853.toInt := congrArg Int32.toInt h29855
                  refine g_iload C dX12_findPeeled_82 4 rfl ?_
                  refine g_goto C 94 dX12_findPeeled_84 (by decide) ?_
                  exact J94 v61_4 b29850 (by omega) (by omega) h29852 e29851 (by omega) (by show nf_M (pI P61 a0 33) = nf_M (pI P7 a0 33); omega) (by show nf_M (pI P61 a0 33 ||| v61_3) < nf_M (pI P61 a0 33); omega) (by show v7_1.toInt = 1; omega)
          refine g_iload_n C dX12_findPeeled_15 rfl 2 rfl ?_
          refine g_aload_n C dX12_findPeeled_16 rfl 0 rfl ?_
          refine g_getI C fi_X12_305 (by decide) (h29818).1 (h29818).2 dX12_findPeeled_17 ?_
          have h29858 := I15.rg (h29818) 28 rfl
          refine b_icmp_ge C 117 dX12_findPeeled_20 (by decide) (fun h29859 => ?_) (fun h29859 => ?_)
          · have h29859 : (pI P15 a0 28).toInt ≤ v15_2.toInt := h29859
            refine g_lv (lv' := [(0, .ref a0), (1, .int v15_1)]) [0, 1] rfl ?_
            exact J117 P15 v15_1 I15 X15 W15 (by omega) (by show (v15_1.toInt = 0 ∧ nf_M (pI P15 a0 33) = nf_M (pI P7 a0 33)) ∨ (v15_1.toInt = 1 ∧ nf_M (pI P15 a0 33) < nf_M (pI P7 a0 33)); omega) (by show v7_1.toInt = 1; omega)
          · have h29859 : v15_2.toInt < (pI P15 a0 28).toInt := h29859
            refine g_iload_n C dX12_findPeeled_23 rfl 1 rfl ?_
            refine b_if_ne C 117 dX12_findPeeled_24 (by decide) (fun h29860 => ?_) (fun h29860 => ?_)
            · have h29860 : v15_1.toInt ≠ 0 := ti_ne h29860
              refine g_lv (lv' := [(0, .ref a0), (1, .int v15_1)]) [0, 1] rfl ?_
              exact J117 P15 v15_1 I15 X15 W15 (by omega) (by show (v15_1.toInt = 0 ∧ nf_M (pI P15 a0 33) = nf_M (pI P7 a0 33)) ∨ (v15_1.toInt = 1 ∧ nf_M (pI P15 a0 33) < nf_M (pI P7 a0 33)); omega) (by show v7_1.toInt = 1; omega)
            · have h29860 : v15_1.toInt = 0 := congrArg Int32.toInt h29860
              refine g_aload_n C dX12_findPeeled_27 rfl 0 rfl ?_
              obtain ⟨b29861, e29862, h29863⟩ := I15.fld (h29818) 29 13 64 rfl
              refine g_getR C fi_X12_91 rfl e29862 (h29818).1 (h29818).2 dX12_findPeeled_28 ?_
              refine g_iload_n C dX12_findPeeled_31 rfl 2 rfl ?_
              refine g_iald (j := (v15_2.toInt.toNat)) C h29863.1 h29863.2.1 (ix_in h29863.2.2 (by omega)) dX12_findPeeled_32 ?_
              refine g_aload_n C dX12_findPeeled_33 rfl 0 rfl ?_
              refine g_getI C fi_X12_318 (by decide) (h29818).1 (h29818).2 dX12_findPeeled_34 ?_
              refine g_iconst (v := (-1)) C dX12_findPeeled_37 (by decide) ?_
              refine g_ixor C dX12_findPeeled_38 ?_
              refine g_topi (fun z29864 h29865 => ?_)
              refine g_iand C dX12_findPeeled_39 ?_
              refine g_topi (fun z29866 h29867 => ?_)
              refine g_istore_n (lv' := [(3, .int z29866), (0, .ref a0), (1, .int v15_1), (2, .int v15_2)]) C dX12_findPeeled_40 rfl (by decide) rfl ?_
              refine g_iload_n C dX12_findPeeled_41 rfl 0 rfl ?_
              refine g_callSI (b := 0) (ci := 0) (rest := []) C ms_X12_264 [.int z29866] (s_X12_bits I15.1) rfl rfl (by decide) (Nat.le_of_ble_eq_true rfl) (by decide) dX12_findPeeled_42 (fun r29868 Y29869 h29870 => ?_)
              obtain ⟨rfl, h29870⟩ := h29870
              obtain ⟨h29870, hi29871⟩ := h29870
              have hi29871 : r29868.toInt = 0 ∨ z29866.toInt ≠ 0 := hi29871
              have h29870 : 0 ≤ r29868.toInt ∧ r29868.toInt ≤ 20 := h29870
              refine g_iconst (v := 1) C dX12_findPeeled_45 (by decide) ?_
              refine b_icmp_ne C 111 dX12_findPeeled_46 (by decide) (fun h29872 => ?_) (fun h29872 => ?_)
              · have h29872 : r29868.toInt ≠ 1 := ti_ne h29872
                refine g_lv (lv' := [(0, .ref a0), (1, .int v15_1), (2, .int v15_2)]) [1, 2, 3] rfl ?_
                exact J111 P15 v15_1 I15 X15 W15 (by omega) (by omega) (by omega) (by show (v15_1.toInt = 0 ∧ nf_M (pI P15 a0 33) = nf_M (pI P7 a0 33)) ∨ (v15_1.toInt = 1 ∧ nf_M (pI P15 a0 33) < nf_M (pI P7 a0 33)); omega) (by show v7_1.toInt = 1; omega)
              · have h29872 : r29868.toInt = 1 := congrArg Int32.toInt h29872
                have hne : ¬ z29866 = 0 := fun h9 => by have h8 : z29866.toInt = 0 := congrArg Int32.toInt h9; omega
                have hdi : (pI P15 a0 33) &&& z29866 = 0 := by rw [h29867, h29865]; exact and_rest _ _
                have hgr := nf_gr (pI P15 a0 33) z29866 hdi hne
                refine g_iconst (v := 1) C dX12_findPeeled_49 (by decide) ?_
                refine g_istore_n (lv' := [(1, .int 1), (3, .int z29866), (0, .ref a0), (2, .int v15_2)]) C dX12_findPeeled_50 rfl (by decide) rfl ?_
                refine g_aload_n C dX12_findPeeled_51 rfl 2 rfl ?_
                refine g_iload_n C dX12_findPeeled_52 rfl 3 rfl ?_
                refine g_callVI (rest := []) C mv_X12_321 [.int v15_2] (s_X12_comesTo I15 (by omega) W15) (h29818).1 (h29818).2 rfl rfl (by decide) (Nat.le_of_ble_eq_true rfl) (by decide) dX12_findPeeled_53 (fun r29873 Y29874 h29875 => ?_)
                obtain ⟨rfl, h29875⟩ := h29875
                have h29875 : True := h29875
                refine g_istore (lv' := [(4, .int r29873), (1, .int 1), (3, .int z29866), (0, .ref a0), (2, .int v15_2)]) C dX12_findPeeled_56 (by decide) rfl ?_
                refine g_iconst (v := 0) C dX12_findPeeled_58 (by decide) ?_
                refine g_istore (lv' := [(5, .int 0), (4, .int r29873), (1, .int 1), (3, .int z29866), (0, .ref a0), (2, .int v15_2)]) C dX12_findPeeled_59 (by decide) rfl ?_
                refine g_lv (lv' := [(0, .ref a0), (1, .int 1), (2, .int v15_2), (3, .int z29866), (4, .int r29873), (5, .int 0)]) [4, 2, 5, 3, 1, 0] rfl ?_
                exact J61 _ P15 z29866 r29873 0 (Nat.lt_succ_self _) I15 X15 W15 (by omega) (by decide) (by omega) (by show nf_M (pI P15 a0 33) = nf_M (pI P7 a0 33); omega) (by show nf_M (pI P15 a0 33 ||| z29866) < nf_M (pI P15 a0 33); omega) (by show v7_1.toInt = 1; omega)
      refine g_iload_n C dX12_findPeeled_7 rfl 1 rfl ?_
      refine b_if_eq C 120 dX12_findPeeled_8 (by decide) (fun h29876 => ?_) (fun h29876 => ?_)
      · have h29876 : v7_1.toInt = 0 := congrArg Int32.toInt h29876
        exact ret _ _ _ _ _ dX12_findPeeled_120 (by decide) (by decide) ⟨I7, X7, W7⟩
      · have h29876 : v7_1.toInt ≠ 0 := ti_ne h29876
        refine g_iconst (v := 0) C dX12_findPeeled_11 (by decide) ?_
        refine g_istore_n (lv' := [(1, .int 0), (0, .ref a0)]) C dX12_findPeeled_12 rfl (by decide) rfl ?_
        refine g_iconst (v := 0) C dX12_findPeeled_13 (by decide) ?_
        refine g_istore_n (lv' := [(2, .int 0), (1, .int 0), (0, .ref a0)]) C dX12_findPeeled_14 rfl (by decide) rfl ?_
        refine g_lv (lv' := [(0, .ref a0), (1, .int 0), (2, .int 0)]) [2, 1, 0] rfl ?_
        exact J15 _ P7 0 0 (Nat.lt_succ_self _) I7 X7 W7 (by decide) (by decide) (by show (0 = 0 ∧ nf_M (pI P7 a0 33) = nf_M (pI P7 a0 33)) ∨ (0 = 1 ∧ nf_M (pI P7 a0 33) < nf_M (pI P7 a0 33)); omega) (by show v7_1.toInt = 1; omega)
  refine g_aload_n C dX12_findPeeled_0 rfl 0 rfl ?_
  refine g_iconst (v := 0) C dX12_findPeeled_1 (by decide) ?_
  refine g_putI C fi_X12_318 rfl (ha0).1 (ha0).2 dX12_findPeeled_2 ?_
  refine gqW (ks := [33]) (I.setI (rgOk.none rfl)) (EM.setI I (by decide)) (fun Y29877 Iy29878 Xy29879 w29880  => ?_)
  have w29880 : (pI Y29877 a0 33).toInt = 0 := w29880
  have W29881 := hW.keep I Xy29879 (by decide) (by decide) (by decide) (by decide)
  have Xz29882 : EM [33, 34] a0 P Y29877 := Xy29879.mono (by decide)
  have h29883 := Xy29879.at ha0
  refine g_iconst (v := 1) C dX12_findPeeled_5 (by decide) ?_
  refine g_istore_n (lv' := [(1, .int 1), (0, .ref a0)]) C dX12_findPeeled_6 rfl (by decide) rfl ?_
  refine g_lv (lv' := [(0, .ref a0), (1, .int 1)]) [1, 0] rfl ?_
  exact J7 _ Y29877 1 (Nat.lt_succ_self _) Iy29878 Xz29882 W29881 (by decide)
theorem dX12_chancesOf_76 : decode cX12_chancesOf 76 = .ok (.goto 7, 3) := by decide +kernel
theorem dX12_chancesOf_83 : decode cX12_chancesOf 83 = .ok (.iload 5, 2) := by decide +kernel
theorem dX12_chancesOf_85 : decode cX12_chancesOf 85 = .ok (.aload_n 0, 1) := by decide +kernel
theorem dX12_chancesOf_86 : decode cX12_chancesOf 86 = .ok (.iload_n 1, 1) := by decide +kernel
theorem dX12_chancesOf_87 : decode cX12_chancesOf 87 = .ok (.iload 4, 2) := by decide +kernel
theorem dX12_chancesOf_89 : decode cX12_chancesOf 89 = .ok (.ifCond .ne 10, 3) := by decide +kernel
theorem dX12_chancesOf_99 : decode cX12_chancesOf 99 = .ok (.aload_n 0, 1) := by decide +kernel
theorem dX12_chancesOf_100 : decode cX12_chancesOf 100 = .ok (.invokevirtual 349, 3) := by decide +kernel
theorem dX12_fixedSet_0 : decode cX12_fixedSet 0 = .ok (.iconst 0, 1) := by decide +kernel
theorem dX12_fixedSet_1 : decode cX12_fixedSet 1 = .ok (.istore_n 1, 1) := by decide +kernel
theorem dX12_fixedSet_2 : decode cX12_fixedSet 2 = .ok (.iconst 0, 1) := by decide +kernel
theorem dX12_fixedSet_3 : decode cX12_fixedSet 3 = .ok (.istore_n 2, 1) := by decide +kernel
theorem dX12_fixedSet_4 : decode cX12_fixedSet 4 = .ok (.iload_n 2, 1) := by decide +kernel
theorem dX12_fixedSet_5 : decode cX12_fixedSet 5 = .ok (.bipush 20, 2) := by decide +kernel
theorem dX12_fixedSet_7 : decode cX12_fixedSet 7 = .ok (.if_icmp .ge 27, 3) := by decide +kernel
theorem dX12_fixedSet_10 : decode cX12_fixedSet 10 = .ok (.iload_n 1, 1) := by decide +kernel
theorem dX12_fixedSet_11 : decode cX12_fixedSet 11 = .ok (.aload_n 0, 1) := by decide +kernel
theorem dX12_fixedSet_12 : decode cX12_fixedSet 12 = .ok (.iload_n 2, 1) := by decide +kernel
theorem dX12_fixedSet_13 : decode cX12_fixedSet 13 = .ok (.invokevirtual 330, 3) := by decide +kernel
theorem dX12_isFixed_0 : decode cX12_isFixed 0 = .ok (.aload_n 0, 1) := by decide +kernel
theorem dX12_isFixed_1 : decode cX12_isFixed 1 = .ok (.getfield 326, 3) := by decide +kernel
theorem dX12_isFixed_4 : decode cX12_isFixed 4 = .ok (.ifCond .eq 19, 3) := by decide +kernel
theorem dX12_isFixed_7 : decode cX12_isFixed 7 = .ok (.aload_n 0, 1) := by decide +kernel
theorem dX12_isFixed_8 : decode cX12_isFixed 8 = .ok (.getfield 106, 3) := by decide +kernel
theorem dX12_isFixed_11 : decode cX12_isFixed 11 = .ok (.iload_n 1, 1) := by decide +kernel
theorem dX12_isFixed_12 : decode cX12_isFixed 12 = .ok (.iaload, 1) := by decide +kernel
theorem dX12_isFixed_13 : decode cX12_isFixed 13 = .ok (.iconst 1, 1) := by decide +kernel
theorem dX12_isFixed_14 : decode cX12_isFixed 14 = .ok (.iload_n 1, 1) := by decide +kernel
theorem dX12_isFixed_15 : decode cX12_isFixed 15 = .ok (.ishl, 1) := by decide +kernel
theorem dX12_isFixed_16 : decode cX12_isFixed 16 = .ok (.if_icmp .ne 7, 3) := by decide +kernel
theorem dX12_isFixed_19 : decode cX12_isFixed 19 = .ok (.iconst 1, 1) := by decide +kernel
theorem dX12_isFixed_20 : decode cX12_isFixed 20 = .ok (.goto 4, 3) := by decide +kernel
theorem dX12_isFixed_23 : decode cX12_isFixed 23 = .ok (.iconst 0, 1) := by decide +kernel
theorem dX12_isFixed_24 : decode cX12_isFixed 24 = .ok (.ireturn, 1) := by decide +kernel
set_option maxHeartbeats 4000000 in
set_option maxRecDepth 100000 in
theorem s_X12_isFixed {P : PP} {a0 : Nat} {a1 : Int32} (I : IM P a0) (ha1 : 0 ≤ a1.toInt ∧ a1.toInt ≤ 19) (hW : MW P a0) : CtrI yX12_isFixed cX12_isFixed 2 (some Jvm.ClassFile.FieldType.boolean) ({ frames := 1, cells := 0, slots := 0, locals := 64 } : Room) 0 0 P [.ref a0, .int a1] (fun r P2 => P = P2 ∧ (0 ≤ r.toInt ∧ r.toInt ≤ 1)) := by
  refine enI (lv := [(0, .ref a0), (1, .int a1)]) (by decide) (Nat.le_of_ble_eq_true rfl) rfl (fun E D cy C Ci0 ret => ?_)
  have ha0 := I.2.1
  have J23 : (0 ≤ (pI P a0 36).toInt ∧ (pI P a0 36).toInt ≤ 1) → G E ({ frames := 1, cells := 0, slots := 0, locals := 64 } : Room) D cy 2 P 0 0 23 [] [] := by
    intro hq23_0
    refine g_iconst (v := 0) C dX12_isFixed_23 (by decide) ?_
    exact ret _ _ _ _ _ _ dX12_isFixed_24 rfl (by decide) (by decide) ⟨rfl, (by decide)⟩
  refine g_aload_n C dX12_isFixed_0 rfl 0 rfl ?_
  refine g_getI C fi_X12_326 (by decide) (ha0).1 (ha0).2 dX12_isFixed_1 ?_
  have h30076 := I.rg (ha0) 36 rfl
  refine b_if_eq C 23 dX12_isFixed_4 (by decide) (fun h30077 => ?_) (fun h30077 => ?_)
  · have h30077 : (pI P a0 36).toInt = 0 := congrArg Int32.toInt h30077
    refine g_lv (lv' := []) [] rfl ?_
    exact J23 (by omega)
  · have h30077 : (pI P a0 36).toInt ≠ 0 := ti_ne h30077
    refine g_aload_n C dX12_isFixed_7 rfl 0 rfl ?_
    obtain ⟨b30078, e30079, h30080⟩ := I.fld (ha0) 37 13 20 rfl
    refine g_getR C fi_X12_106 rfl e30079 (ha0).1 (ha0).2 dX12_isFixed_8 ?_
    refine g_iload_n C dX12_isFixed_11 rfl 1 rfl ?_
    refine g_iald (j := (a1.toInt.toNat)) C h30080.1 h30080.2.1 (ix_in h30080.2.2 (by omega)) dX12_isFixed_12 ?_
    refine g_iconst (v := 1) C dX12_isFixed_13 (by decide) ?_
    refine g_iload_n C dX12_isFixed_14 rfl 1 rfl ?_
    refine a_ishl C dX12_isFixed_15 (fun z30081 => ?_)
    have u30084 := ti_rng (pI P b30078 (a1.toInt.toNat))
    have u30085 := ti_rng z30081
    refine b_icmp_ne C 23 dX12_isFixed_16 (by decide) (fun h30083 => ?_) (fun h30083 => ?_)
    · have h30083 : (pI P b30078 (a1.toInt.toNat)).toInt ≠ z30081.toInt := ti_ne h30083
      refine g_lv (lv' := []) [] rfl ?_
      exact J23 (by omega)
    · have h30083 : (pI P b30078 (a1.toInt.toNat)).toInt = z30081.toInt := congrArg Int32.toInt h30083
      refine g_iconst (v := 1) C dX12_isFixed_19 (by decide) ?_
      refine g_goto C 24 dX12_isFixed_20 (by decide) ?_
      exact ret _ _ _ _ _ _ dX12_isFixed_24 rfl (by decide) (by decide) ⟨rfl, (by decide)⟩
theorem dX12_fixedSet_16 : decode cX12_fixedSet 16 = .ok (.ifCond .eq 9, 3) := by decide +kernel
theorem dX12_fixedSet_19 : decode cX12_fixedSet 19 = .ok (.iconst 1, 1) := by decide +kernel
theorem dX12_fixedSet_20 : decode cX12_fixedSet 20 = .ok (.iload_n 2, 1) := by decide +kernel
theorem dX12_fixedSet_21 : decode cX12_fixedSet 21 = .ok (.ishl, 1) := by decide +kernel
theorem dX12_fixedSet_22 : decode cX12_fixedSet 22 = .ok (.goto 4, 3) := by decide +kernel
theorem dX12_fixedSet_25 : decode cX12_fixedSet 25 = .ok (.iconst 0, 1) := by decide +kernel
theorem dX12_fixedSet_26 : decode cX12_fixedSet 26 = .ok (.ior, 1) := by decide +kernel
theorem dX12_fixedSet_27 : decode cX12_fixedSet 27 = .ok (.istore_n 1, 1) := by decide +kernel
theorem dX12_fixedSet_28 : decode cX12_fixedSet 28 = .ok (.iinc 2 1, 3) := by decide +kernel
theorem dX12_fixedSet_31 : decode cX12_fixedSet 31 = .ok (.goto (-27), 3) := by decide +kernel
theorem dX12_fixedSet_34 : decode cX12_fixedSet 34 = .ok (.iload_n 1, 1) := by decide +kernel
theorem dX12_fixedSet_35 : decode cX12_fixedSet 35 = .ok (.ireturn, 1) := by decide +kernel
set_option maxHeartbeats 4000000 in
set_option maxRecDepth 100000 in
theorem s_X12_fixedSet {P : PP} {a0 : Nat} (I : IM P a0) (hW : MW P a0) : CtrI yX12_fixedSet cX12_fixedSet 3 (some Jvm.ClassFile.FieldType.int) ({ frames := 2, cells := 0, slots := 0, locals := 128 } : Room) 0 0 P [.ref a0] (fun r P2 => P = P2 ∧ (True)) := by
  refine enI (lv := [(0, .ref a0)]) (by decide) (Nat.le_of_ble_eq_true rfl) rfl (fun E D cy C Ci0 ret => ?_)
  have ha0 := I.2.1
  have J4 : ∀ (n4 : Nat) (v4_1 : Int32) (v4_2 : Int32), (20 - v4_2.toInt).toNat < n4 → (0 ≤ v4_2.toInt ∧ v4_2.toInt ≤ 20) → G E ({ frames := 2, cells := 0, slots := 0, locals := 128 } : Room) D cy 3 P 0 0 4 [(0, .ref a0), (1, .int v4_1), (2, .int v4_2)] [] := by
    intro n4
    induction n4 with
    | zero => intro v4_1 v4_2 hm4 hv4_2; omega
    | succ n4 ih4 =>
      intro v4_1 v4_2 hm4 hv4_2
      have J26 : ∀ (v26_s0 : Int32), (0 ≤ v4_2.toInt ∧ v4_2.toInt ≤ 19) → G E ({ frames := 2, cells := 0, slots := 0, locals := 128 } : Room) D cy 3 P 0 0 26 [(0, .ref a0), (2, .int v4_2)] [.int v26_s0, .int v4_1] := by
        intro v26_s0 hv26_2
        refine a_ior C dX12_fixedSet_26 (fun z30229 => ?_)
        refine g_istore_n (lv' := [(1, .int z30229), (0, .ref a0), (2, .int v4_2)]) C dX12_fixedSet_27 rfl (by decide) rfl ?_
        refine s_iinc (lv0 := [(1, .int z30229), (0, .ref a0)]) (m := 1) C dX12_fixedSet_28 2 rfl (by decide) rfl (by decide) (by omega) (fun z30231 h30232 => ?_)
        have h30232 : z30231.toInt = v4_2.toInt + 1 := h30232
        refine g_goto C 4 dX12_fixedSet_31 (by decide) ?_
        refine g_lv (lv' := [(0, .ref a0), (1, .int z30229), (2, .int z30231)]) [2, 1, 0] rfl ?_
        exact ih4 z30229 z30231 (by omega) (by omega)
      refine g_iload_n C dX12_fixedSet_4 rfl 2 rfl ?_
      refine g_bipush (v := 20) C dX12_fixedSet_5 (by decide) ?_
      refine b_icmp_ge C 34 dX12_fixedSet_7 (by decide) (fun h30233 => ?_) (fun h30233 => ?_)
      · have h30233 : 20 ≤ v4_2.toInt := h30233
        refine g_iload_n C dX12_fixedSet_34 rfl 1 rfl ?_
        exact ret _ _ _ _ _ _ dX12_fixedSet_35 rfl (by decide) (by decide) ⟨rfl, trivial⟩
      · have h30233 : v4_2.toInt < 20 := h30233
        refine g_iload_n C dX12_fixedSet_10 rfl 1 rfl ?_
        refine g_aload_n C dX12_fixedSet_11 rfl 0 rfl ?_
        refine g_iload_n C dX12_fixedSet_12 rfl 2 rfl ?_
        refine g_callVI (rest := [.int v4_1]) C mv_X12_330 [.int v4_2] (s_X12_isFixed I (by omega) hW) (ha0).1 (ha0).2 rfl rfl (by decide) (Nat.le_of_ble_eq_true rfl) (by decide) dX12_fixedSet_13 (fun r30234 Y30235 h30236 => ?_)
        obtain ⟨rfl, h30236⟩ := h30236
        have h30236 : 0 ≤ r30234.toInt ∧ r30234.toInt ≤ 1 := h30236
        refine b_if_eq C 25 dX12_fixedSet_16 (by decide) (fun h30237 => ?_) (fun h30237 => ?_)
        · have h30237 : r30234.toInt = 0 := congrArg Int32.toInt h30237
          refine g_iconst (v := 0) C dX12_fixedSet_25 (by decide) ?_
          refine g_lv (lv' := [(0, .ref a0), (2, .int v4_2)]) [0, 2] rfl ?_
          exact J26 0 (by omega)
        · have h30237 : r30234.toInt ≠ 0 := ti_ne h30237
          refine g_iconst (v := 1) C dX12_fixedSet_19 (by decide) ?_
          refine g_iload_n C dX12_fixedSet_20 rfl 2 rfl ?_
          refine a_ishl C dX12_fixedSet_21 (fun z30238 => ?_)
          refine g_goto C 26 dX12_fixedSet_22 (by decide) ?_
          refine g_lv (lv' := [(0, .ref a0), (2, .int v4_2)]) [0, 2] rfl ?_
          exact J26 z30238 (by omega)
  refine g_iconst (v := 0) C dX12_fixedSet_0 (by decide) ?_
  refine g_istore_n (lv' := [(1, .int 0), (0, .ref a0)]) C dX12_fixedSet_1 rfl (by decide) rfl ?_
  refine g_iconst (v := 0) C dX12_fixedSet_2 (by decide) ?_
  refine g_istore_n (lv' := [(2, .int 0), (1, .int 0), (0, .ref a0)]) C dX12_fixedSet_3 rfl (by decide) rfl ?_
  refine g_lv (lv' := [(0, .ref a0), (1, .int 0), (2, .int 0)]) [2, 1, 0] rfl ?_
  exact J4 _ 0 0 (Nat.lt_succ_self _) (by decide)
theorem dX12_chancesOf_92 : decode cX12_chancesOf 92 = .ok (.aload_n 0, 1) := by decide +kernel
theorem dX12_chancesOf_93 : decode cX12_chancesOf 93 = .ok (.getfield 318, 3) := by decide +kernel
theorem dX12_chancesOf_96 : decode cX12_chancesOf 96 = .ok (.goto 7, 3) := by decide +kernel
theorem dX12_chancesOf_103 : decode cX12_chancesOf 103 = .ok (.invokevirtual 371, 3) := by decide +kernel
theorem dX12_givesAll_0 : decode cX12_givesAll 0 = .ok (.iload_n 2, 1) := by decide +kernel
theorem dX12_givesAll_1 : decode cX12_givesAll 1 = .ok (.iconst (-1), 1) := by decide +kernel
theorem dX12_givesAll_2 : decode cX12_givesAll 2 = .ok (.ixor, 1) := by decide +kernel
theorem dX12_givesAll_3 : decode cX12_givesAll 3 = .ok (.iconst 1, 1) := by decide +kernel
theorem dX12_givesAll_4 : decode cX12_givesAll 4 = .ok (.aload_n 0, 1) := by decide +kernel
theorem dX12_givesAll_5 : decode cX12_givesAll 5 = .ok (.getfield 45, 3) := by decide +kernel
theorem dX12_givesAll_8 : decode cX12_givesAll 8 = .ok (.iload_n 1, 1) := by decide +kernel
theorem dX12_givesAll_9 : decode cX12_givesAll 9 = .ok (.iaload, 1) := by decide +kernel
theorem dX12_givesAll_10 : decode cX12_givesAll 10 = .ok (.ishl, 1) := by decide +kernel
theorem dX12_givesAll_11 : decode cX12_givesAll 11 = .ok (.iconst 1, 1) := by decide +kernel
theorem dX12_givesAll_12 : decode cX12_givesAll 12 = .ok (.isub, 1) := by decide +kernel
theorem dX12_givesAll_13 : decode cX12_givesAll 13 = .ok (.iand, 1) := by decide +kernel
theorem dX12_givesAll_14 : decode cX12_givesAll 14 = .ok (.ifCond .ne 7, 3) := by decide +kernel
theorem dX12_givesAll_17 : decode cX12_givesAll 17 = .ok (.iconst 1, 1) := by decide +kernel
theorem dX12_givesAll_18 : decode cX12_givesAll 18 = .ok (.goto 4, 3) := by decide +kernel
theorem dX12_givesAll_21 : decode cX12_givesAll 21 = .ok (.iconst 0, 1) := by decide +kernel
theorem dX12_givesAll_22 : decode cX12_givesAll 22 = .ok (.ireturn, 1) := by decide +kernel
set_option maxHeartbeats 4000000 in
set_option maxRecDepth 100000 in
theorem s_X12_givesAll {P : PP} {a0 : Nat} {a1 : Int32} {a2 : Int32} (I : IM P a0) (ha1 : 0 ≤ a1.toInt ∧ a1.toInt ≤ 1) (hW : MW P a0) : CtrI yX12_givesAll cX12_givesAll 3 (some Jvm.ClassFile.FieldType.boolean) ({ frames := 1, cells := 0, slots := 0, locals := 64 } : Room) 0 0 P [.ref a0, .int a1, .int a2] (fun r P2 => P = P2 ∧ (0 ≤ r.toInt ∧ r.toInt ≤ 1)) := by
  refine enI (lv := [(0, .ref a0), (1, .int a1), (2, .int a2)]) (by decide) (Nat.le_of_ble_eq_true rfl) rfl (fun E D cy C Ci0 ret => ?_)
  have ha0 := I.2.1
  refine g_iload_n C dX12_givesAll_0 rfl 2 rfl ?_
  refine g_iconst (v := (-1)) C dX12_givesAll_1 (by decide) ?_
  refine a_ixor C dX12_givesAll_2 (fun z30505 => ?_)
  refine g_iconst (v := 1) C dX12_givesAll_3 (by decide) ?_
  refine g_aload_n C dX12_givesAll_4 rfl 0 rfl ?_
  obtain ⟨b30507, e30508, h30509⟩ := I.fld (ha0) 10 13 2 rfl
  refine g_getR C fi_X12_45 rfl e30508 (ha0).1 (ha0).2 dX12_givesAll_5 ?_
  refine g_iload_n C dX12_givesAll_8 rfl 1 rfl ?_
  refine g_iald (j := (a1.toInt.toNat)) C h30509.1 h30509.2.1 (ix_in h30509.2.2 (by omega)) dX12_givesAll_9 ?_
  have h30510 := I.arr e30508 rfl (a1.toInt.toNat)
  refine a_ishl C dX12_givesAll_10 (fun z30511 => ?_)
  refine g_iconst (v := 1) C dX12_givesAll_11 (by decide) ?_
  refine a_isub C dX12_givesAll_12 (fun z30513 => ?_)
  refine a_iand C dX12_givesAll_13 (fun z30515 => ?_)
  have u30518 := ti_rng z30515
  refine b_if_ne C 21 dX12_givesAll_14 (by decide) (fun h30517 => ?_) (fun h30517 => ?_)
  · have h30517 : z30515.toInt ≠ 0 := ti_ne h30517
    refine g_iconst (v := 0) C dX12_givesAll_21 (by decide) ?_
    exact ret _ _ _ _ _ _ dX12_givesAll_22 rfl (by decide) (by decide) ⟨rfl, (by decide)⟩
  · have h30517 : z30515.toInt = 0 := congrArg Int32.toInt h30517
    refine g_iconst (v := 1) C dX12_givesAll_17 (by decide) ?_
    refine g_goto C 22 dX12_givesAll_18 (by decide) ?_
    exact ret _ _ _ _ _ _ dX12_givesAll_22 rfl (by decide) (by decide) ⟨rfl, (by decide)⟩
theorem dX12_chancesOf_106 : decode cX12_chancesOf 106 = .ok (.ifCond .eq 7, 3) := by decide +kernel
theorem dX12_chancesOf_109 : decode cX12_chancesOf 109 = .ok (.iconst 1, 1) := by decide +kernel
theorem dX12_chancesOf_110 : decode cX12_chancesOf 110 = .ok (.goto 4, 3) := by decide +kernel
theorem dX12_chancesOf_113 : decode cX12_chancesOf 113 = .ok (.iconst 0, 1) := by decide +kernel
theorem dX12_chancesOf_114 : decode cX12_chancesOf 114 = .ok (.iadd, 1) := by decide +kernel
theorem dX12_chancesOf_115 : decode cX12_chancesOf 115 = .ok (.istore 5, 2) := by decide +kernel
set_option maxHeartbeats 4000000 in
set_option maxRecDepth 100000 in
theorem s_X12_chancesOf {P : PP} {a0 : Nat} {a1 : Int32} {a2 : Int32} {a3 : Int32} {a4 : Int32} (I : IM P a0) (ha1 : 0 ≤ a1.toInt ∧ a1.toInt ≤ 1) (ha2 : 1 ≤ a2.toInt ∧ a2.toInt ≤ 11) (hf0 : ∀ b, pR P a0 10 = some b → 1 ≤ (pI P b (a1.toInt.toNat)).toInt ∧ (pI P b (a1.toInt.toNat)).toInt ≤ 16) (hW : MW P a0) : CtrI yX12_chancesOf cX12_chancesOf 8 (some Jvm.ClassFile.FieldType.int) ({ frames := 3, cells := 0, slots := 0, locals := 192 } : Room) 0 0 P [.ref a0, .int a1, .int a2, .int a3, .int a4] (fun r P2 => IM P2 a0 ∧ EM [28, 29, 30, 31, 33, 34, 35, 36, 37, 38] a0 P P2 ∧ MW P2 a0 ∧ (True)) := by
  refine enI (lv := [(0, .ref a0), (1, .int a1), (2, .int a2), (3, .int a3), (4, .int a4)]) (by decide) (Nat.le_of_ble_eq_true rfl) rfl (fun E D cy C Ci0 ret => ?_)
  have ha0 := I.2.1
  have J6 : ∀ (n6 : Nat) (P6 : PP) (v6_5 : Int32) (v6_6 : Int32), (2147483647 - v6_6.toInt).toNat < n6 → (IM P6 a0) → (EM [28, 29, 30, 31, 33, 34, 35, 36, 37, 38] a0 P P6) → (MW P6 a0) → (0 ≤ v6_6.toInt) → (∀ b, pR P6 a0 10 = some b → 1 ≤ (pI P6 b (a1.toInt.toNat)).toInt ∧ (pI P6 b (a1.toInt.toNat)).toInt ≤ 16) → G E ({ frames := 3, cells := 0, slots := 0, locals := 192 } : Room) D cy 8 P6 0 0 6 [(0, .ref a0), (1, .int a1), (2, .int a2), (3, .int a3), (4, .int a4), (5, .int v6_5), (6, .int v6_6)] [] := by
    intro n6
    induction n6 with
    | zero => intro P6 v6_5 v6_6 hm6 I6 X6 W6 hv6_6 hq6_0; omega
    | succ n6 ih6 =>
      intro P6 v6_5 v6_6 hm6 I6 X6 W6 hv6_6 hq6_0
      have h36877 := X6.at ha0
      obtain ⟨b36878, e36879, h36880⟩ := I6.fld (h36877) 10 13 2 rfl
      have hq6_0 := hq6_0 b36878 e36879
      have J117 : ∀ (P117 : PP) (v117_5 : Int32), (IM P117 a0) → (EM [28, 29, 30, 31, 33, 34, 35, 36, 37, 38] a0 P P117) → (MW P117 a0) → (0 ≤ v6_6.toInt ∧ v6_6.toInt ≤ 2147483646) → (∀ b, pR P117 a0 10 = some b → 1 ≤ (pI P117 b (a1.toInt.toNat)).toInt ∧ (pI P117 b (a1.toInt.toNat)).toInt ≤ 16) → G E ({ frames := 3, cells := 0, slots := 0, locals := 192 } : Room) D cy 8 P117 0 0 117 [(0, .ref a0), (1, .int a1), (2, .int a2), (3, .int a3), (4, .int a4), (5, .int v117_5), (6, .int v6_6)] [] := by
        intro P117 v117_5 I117 X117 W117 hv117_6 hq117_0
        have h36881 := X117.at ha0
        obtain ⟨b36882, e36883, h36884⟩ := I117.fld (h36881) 10 13 2 rfl
        have hq117_0 := hq117_0 b36882 e36883
        refine s_iinc (lv0 := [(0, .ref a0), (1, .int a1), (2, .int a2), (3, .int a3), (4, .int a4), (5, .int v117_5)]) (m := 1) C dX12_chancesOf_117 6 rfl (by decide) rfl (by decide) (by omega) (fun z36885 h36886 => ?_)
        have h36886 : z36885.toInt = v6_6.toInt + 1 := h36886
        refine g_goto C 6 dX12_chancesOf_120 (by decide) ?_
        refine g_lv (lv' := [(0, .ref a0), (1, .int a1), (2, .int a2), (3, .int a3), (4, .int a4), (5, .int v117_5), (6, .int z36885)]) [1, 2, 3, 4, 5, 6, 0] rfl ?_
        exact ih6 P117 v117_5 z36885 (by omega) I117 X117 W117 (by omega) (fun b9 e9 => by rw [e36883] at e9; cases e9; omega)
      have J114 : ∀ (P114 : PP) (v114_s0 : Int32), (IM P114 a0) → (EM [28, 29, 30, 31, 33, 34, 35, 36, 37, 38] a0 P P114) → (MW P114 a0) → (0 ≤ a3.toInt ∧ a3.toInt ≤ 20) → (0 ≤ v6_6.toInt ∧ v6_6.toInt ≤ 2147483646) → (0 ≤ v114_s0.toInt ∧ v114_s0.toInt ≤ 1) → (∀ b, pR P114 a0 10 = some b → 1 ≤ (pI P114 b (a1.toInt.toNat)).toInt ∧ (pI P114 b (a1.toInt.toNat)).toInt ≤ 16) → G E ({ frames := 3, cells := 0, slots := 0, locals := 192 } : Room) D cy 8 P114 0 0 114 [(0, .ref a0), (1, .int a1), (2, .int a2), (3, .int a3), (4, .int a4), (6, .int v6_6)] [.int v114_s0, .int v6_5] := by
        intro P114 v114_s0 I114 X114 W114 hv114_3 hv114_6 hv114_s0 hq114_0
        have h36887 := X114.at ha0
        obtain ⟨b36888, e36889, h36890⟩ := I114.fld (h36887) 10 13 2 rfl
        have hq114_0 := hq114_0 b36888 e36889
        refine a_iadd C dX12_chancesOf_114 (fun z36891 => ?_)
        refine g_istore (lv' := [(5, .int z36891), (0, .ref a0), (1, .int a1), (2, .int a2), (3, .int a3), (4, .int a4), (6, .int v6_6)]) C dX12_chancesOf_115 (by decide) rfl ?_
        refine g_lv (lv' := [(0, .ref a0), (1, .int a1), (2, .int a2), (3, .int a3), (4, .int a4), (5, .int z36891), (6, .int v6_6)]) [1, 2, 3, 4, 5, 0, 6] rfl ?_
        exact J117 P114 z36891 I114 X114 W114 (by omega) (fun b9 e9 => by rw [e36889] at e9; cases e9; omega)
      have J103 : ∀ (P103 : PP) (v103_s0 : Int32), (IM P103 a0) → (EM [28, 29, 30, 31, 33, 34, 35, 36, 37, 38] a0 P P103) → (MW P103 a0) → (0 ≤ a3.toInt ∧ a3.toInt ≤ 20) → (0 ≤ v6_6.toInt ∧ v6_6.toInt ≤ 2147483646) → (∀ b, pR P103 a0 10 = some b → 1 ≤ (pI P103 b (a1.toInt.toNat)).toInt ∧ (pI P103 b (a1.toInt.toNat)).toInt ≤ 16) → G E ({ frames := 3, cells := 0, slots := 0, locals := 192 } : Room) D cy 8 P103 0 0 103 [(0, .ref a0), (1, .int a1), (2, .int a2), (3, .int a3), (4, .int a4), (6, .int v6_6)] [.int v103_s0, .int a1, .ref a0, .int v6_5] := by
        intro P103 v103_s0 I103 X103 W103 hv103_3 hv103_6 hq103_0
        have h36893 := X103.at ha0
        obtain ⟨b36894, e36895, h36896⟩ := I103.fld (h36893) 10 13 2 rfl
        have hq103_0 := hq103_0 b36894 e36895
        refine g_callVI (rest := [.int v6_5]) C mv_X12_371 [.int a1, .int v103_s0] (s_X12_givesAll I103 (by omega) W103) (h36893).1 (h36893).2 rfl rfl (by decide) (Nat.le_of_ble_eq_true rfl) (by decide) dX12_chancesOf_103 (fun r36897 Y36898 h36899 => ?_)
        obtain ⟨rfl, h36899⟩ := h36899
        have h36899 : 0 ≤ r36897.toInt ∧ r36897.toInt ≤ 1 := h36899
        refine b_if_eq C 113 dX12_chancesOf_106 (by decide) (fun h36900 => ?_) (fun h36900 => ?_)
        · have h36900 : r36897.toInt = 0 := congrArg Int32.toInt h36900
          refine g_iconst (v := 0) C dX12_chancesOf_113 (by decide) ?_
          exact J114 P103 0 I103 X103 W103 (by omega) (by omega) (by decide) (fun b9 e9 => by rw [e36895] at e9; cases e9; omega)
        · have h36900 : r36897.toInt ≠ 0 := ti_ne h36900
          refine g_iconst (v := 1) C dX12_chancesOf_109 (by decide) ?_
          refine g_goto C 114 dX12_chancesOf_110 (by decide) ?_
          exact J114 P103 1 I103 X103 W103 (by omega) (by omega) (by decide) (fun b9 e9 => by rw [e36895] at e9; cases e9; omega)
      have J83 : ∀ (P83 : PP), (IM P83 a0) → (EM [28, 29, 30, 31, 33, 34, 35, 36, 37, 38] a0 P P83) → (MW P83 a0) → (0 ≤ a3.toInt ∧ a3.toInt ≤ 20) → (0 ≤ v6_6.toInt ∧ v6_6.toInt ≤ 2147483646) → (∀ b, pR P83 a0 10 = some b → 1 ≤ (pI P83 b (a1.toInt.toNat)).toInt ∧ (pI P83 b (a1.toInt.toNat)).toInt ≤ 16) → G E ({ frames := 3, cells := 0, slots := 0, locals := 192 } : Room) D cy 8 P83 0 0 83 [(0, .ref a0), (1, .int a1), (2, .int a2), (3, .int a3), (4, .int a4), (5, .int v6_5), (6, .int v6_6)] [] := by
        intro P83 I83 X83 W83 hv83_3 hv83_6 hq83_0
        have h36901 := X83.at ha0
        obtain ⟨b36902, e36903, h36904⟩ := I83.fld (h36901) 10 13 2 rfl
        have hq83_0 := hq83_0 b36902 e36903
        refine g_iload C dX12_chancesOf_83 5 rfl ?_
        refine g_aload_n C dX12_chancesOf_85 rfl 0 rfl ?_
        refine g_iload_n C dX12_chancesOf_86 rfl 1 rfl ?_
        refine g_iload C dX12_chancesOf_87 4 rfl ?_
        have u36906 := ti_rng a4
        refine b_if_ne C 99 dX12_chancesOf_89 (by decide) (fun h36905 => ?_) (fun h36905 => ?_)
        · have h36905 : a4.toInt ≠ 0 := ti_ne h36905
          refine g_aload_n C dX12_chancesOf_99 rfl 0 rfl ?_
          refine g_callVI (rest := [.int a1, .ref a0, .int v6_5]) C mv_X12_349 [] (s_X12_fixedSet I83 W83) (h36901).1 (h36901).2 rfl rfl (by decide) (Nat.le_of_ble_eq_true rfl) (by decide) dX12_chancesOf_100 (fun r36907 Y36908 h36909 => ?_)
          obtain ⟨rfl, h36909⟩ := h36909
          have h36909 : True := h36909
          refine g_lv (lv' := [(0, .ref a0), (1, .int a1), (2, .int a2), (3, .int a3), (4, .int a4), (6, .int v6_6)]) [0, 1, 2, 3, 4, 6] rfl ?_
          exact J103 P83 r36907 I83 X83 W83 (by omega) (by omega) (fun b9 e9 => by rw [e36903] at e9; cases e9; omega)
        · have h36905 : a4.toInt = 0 := congrArg Int32.toInt h36905
          refine g_aload_n C dX12_chancesOf_92 rfl 0 rfl ?_
          refine g_getI C fi_X12_318 (by decide) (h36901).1 (h36901).2 dX12_chancesOf_93 ?_
          refine g_goto C 103 dX12_chancesOf_96 (by decide) ?_
          refine g_lv (lv' := [(0, .ref a0), (1, .int a1), (2, .int a2), (3, .int a3), (4, .int a4), (6, .int v6_6)]) [0, 1, 2, 3, 4, 6] rfl ?_
          exact J103 P83 (pI P83 a0 33) I83 X83 W83 (by omega) (by omega) (fun b9 e9 => by rw [e36903] at e9; cases e9; omega)
      have J31 : ∀ (n31 : Nat) (P31 : PP) (v31_7 : Int32), (11 - v31_7.toInt).toNat < n31 → (IM P31 a0) → (EM [28, 29, 30, 31, 33, 34, 35, 36, 37, 38] a0 P P31) → (MW P31 a0) → (0 ≤ a3.toInt ∧ a3.toInt ≤ 20) → (0 ≤ v6_6.toInt ∧ v6_6.toInt ≤ 2147483646) → (0 ≤ v31_7.toInt ∧ v31_7.toInt ≤ 11) → (∀ b, pR P31 a0 10 = some b → 1 ≤ (pI P31 b (a1.toInt.toNat)).toInt ∧ (pI P31 b (a1.toInt.toNat)).toInt ≤ 16) → ((pI P31 a0 28).toInt ≤ 4 + v31_7.toInt) → G E ({ frames := 3, cells := 0, slots := 0, locals := 192 } : Room) D cy 8 P31 0 0 31 [(0, .ref a0), (1, .int a1), (2, .int a2), (3, .int a3), (4, .int a4), (5, .int v6_5), (6, .int v6_6), (7, .int v31_7)] [] := by
        intro n31
        induction n31 with
        | zero => intro P31 v31_7 hm31 I31 X31 W31 hv31_3 hv31_6 hv31_7 hq31_0 rel31_0; omega
        | succ n31 ih31 =>
          intro P31 v31_7 hm31 I31 X31 W31 hv31_3 hv31_6 hv31_7 hq31_0 rel31_0
          have h36910 := X31.at ha0
          obtain ⟨b36911, e36912, h36913⟩ := I31.fld (h36910) 10 13 2 rfl
          have hq31_0 := hq31_0 b36911 e36912
          have h36914 := I31.rg h36910 28 rfl
          have J61 : ∀ (P61 : PP), (IM P61 a0) → (EM [28, 29, 30, 31, 33, 34, 35, 36, 37, 38] a0 P P61) → (MW P61 a0) → (0 ≤ a3.toInt ∧ a3.toInt ≤ 20) → (0 ≤ v6_6.toInt ∧ v6_6.toInt ≤ 2147483646) → (0 ≤ v31_7.toInt ∧ v31_7.toInt ≤ 10) → (∀ b, pR P61 a0 10 = some b → 1 ≤ (pI P61 b (a1.toInt.toNat)).toInt ∧ (pI P61 b (a1.toInt.toNat)).toInt ≤ 16) → ((pI P61 a0 28).toInt ≤ 5 + v31_7.toInt) → G E ({ frames := 3, cells := 0, slots := 0, locals := 192 } : Room) D cy 8 P61 0 0 61 [(0, .ref a0), (1, .int a1), (2, .int a2), (3, .int a3), (4, .int a4), (5, .int v6_5), (6, .int v6_6), (7, .int v31_7)] [] := by
            intro P61 I61 X61 W61 hv61_3 hv61_6 hv61_7 hq61_0 rel61_0
            have h36915 := X61.at ha0
            obtain ⟨b36916, e36917, h36918⟩ := I61.fld (h36915) 10 13 2 rfl
            have hq61_0 := hq61_0 b36916 e36917
            have h36919 := I61.rg h36915 28 rfl
            refine s_iinc (lv0 := [(0, .ref a0), (1, .int a1), (2, .int a2), (3, .int a3), (4, .int a4), (5, .int v6_5), (6, .int v6_6)]) (m := 1) C dX12_chancesOf_61 7 rfl (by decide) rfl (by decide) (by omega) (fun z36920 h36921 => ?_)
            have h36921 : z36920.toInt = v31_7.toInt + 1 := h36921
            refine g_goto C 31 dX12_chancesOf_64 (by decide) ?_
            refine g_lv (lv' := [(0, .ref a0), (1, .int a1), (2, .int a2), (3, .int a3), (4, .int a4), (5, .int v6_5), (6, .int v6_6), (7, .int z36920)]) [1, 2, 3, 4, 5, 6, 7, 0] rfl ?_
            exact ih31 P61 z36920 (by omega) I61 X61 W61 (by omega) (by omega) (by omega) (fun b9 e9 => by rw [e36917] at e9; cases e9; omega) (by show (pI P61 a0 28).toInt ≤ 4 + z36920.toInt; omega)
          refine g_iload C dX12_chancesOf_31 7 rfl ?_
          refine g_iload_n C dX12_chancesOf_33 rfl 2 rfl ?_
          refine b_icmp_ge C 67 dX12_chancesOf_34 (by decide) (fun h36922 => ?_) (fun h36922 => ?_)
          · have h36922 : a2.toInt ≤ v31_7.toInt := h36922
            refine g_iload C dX12_chancesOf_67 4 rfl ?_
            have u36924 := ti_rng a4
            refine b_if_ne C 79 dX12_chancesOf_69 (by decide) (fun h36923 => ?_) (fun h36923 => ?_)
            · have h36923 : a4.toInt ≠ 0 := ti_ne h36923
              refine g_aload_n C dX12_chancesOf_79 rfl 0 rfl ?_
              refine g_callVV (rest := []) C mv_X12_346 [] (s_X12_findSolved I31 W31) (h36910).1 (h36910).2 rfl rfl (by decide) (Nat.le_of_ble_eq_true rfl) (by decide) dX12_chancesOf_80 (fun Y36926 h36927 => ?_)
              obtain ⟨Iy36928, Xy36929, W36930⟩ := h36927
              have q36931 := Xy36929.keepA e36912 (by decide) rfl (a1.toInt.toNat)
              have q36932 := Xy36929.keepF 28 (by decide)
              have Xz36933 : EM [28, 29, 30, 31, 33, 34, 35, 36, 37, 38] a0 P Y36926 := EM.tr ha0 X31 (Xy36929.mono (by decide))
              have e36934 := Xy36929.ref h36910 (by decide) e36912
              have h36935 := Xy36929.at h36910
              have h36936 := Xy36929.ar h36913
              refine g_lv (lv' := [(0, .ref a0), (1, .int a1), (2, .int a2), (3, .int a3), (4, .int a4), (5, .int v6_5), (6, .int v6_6)]) [0, 1, 2, 3, 4, 5, 6] rfl ?_
              exact J83 Y36926 Iy36928 Xz36933 W36930 (by omega) (by omega) (fun b9 e9 => by rw [e36934] at e9; cases e9; omega)
            · have h36923 : a4.toInt = 0 := congrArg Int32.toInt h36923
              refine g_aload_n C dX12_chancesOf_72 rfl 0 rfl ?_
              refine g_callVV (rest := []) C mv_X12_343 [] (s_X12_findPeeled I31 W31) (h36910).1 (h36910).2 rfl rfl (by decide) (Nat.le_of_ble_eq_true rfl) (by decide) dX12_chancesOf_73 (fun Y36938 h36939 => ?_)
              obtain ⟨Iy36940, Xy36941, W36942⟩ := h36939
              have q36943 := Xy36941.keepA e36912 (by decide) rfl (a1.toInt.toNat)
              have q36944 := Xy36941.keepF 28 (by decide)
              have Xz36945 : EM [28, 29, 30, 31, 33, 34, 35, 36, 37, 38] a0 P Y36938 := EM.tr ha0 X31 (Xy36941.mono (by decide))
              have e36946 := Xy36941.ref h36910 (by decide) e36912
              have h36947 := Xy36941.at h36910
              have h36948 := Xy36941.ar h36913
              refine g_goto C 83 dX12_chancesOf_76 (by decide) ?_
              refine g_lv (lv' := [(0, .ref a0), (1, .int a1), (2, .int a2), (3, .int a3), (4, .int a4), (5, .int v6_5), (6, .int v6_6)]) [0, 1, 2, 3, 4, 5, 6] rfl ?_
              exact J83 Y36938 Iy36940 Xz36945 W36942 (by omega) (by omega) (fun b9 e9 => by rw [e36946] at e9; cases e9; omega)
          · have h36922 : v31_7.toInt < a2.toInt := h36922
            refine g_iload C dX12_chancesOf_37 6 rfl ?_
            refine g_iload C dX12_chancesOf_39 7 rfl ?_
            refine a_ishr C dX12_chancesOf_41 (fun z36949 => ?_)
            refine g_iconst (v := 1) C dX12_chancesOf_42 (by decide) ?_
            refine s_iand C dX12_chancesOf_43 (by show 0 ≤ 1; omega) (fun z36951 h36952 => ?_)
            have h36952 : 0 ≤ z36951.toInt ∧ z36951.toInt ≤ 1 := h36952
            refine g_iconst (v := 1) C dX12_chancesOf_44 (by decide) ?_
            refine b_icmp_ne C 61 dX12_chancesOf_45 (by decide) (fun h36953 => ?_) (fun h36953 => ?_)
            · have h36953 : z36951.toInt ≠ 1 := ti_ne h36953
              exact J61 P31 I31 X31 W31 (by omega) (by omega) (by omega) (fun b9 e9 => by rw [e36912] at e9; cases e9; omega) (by show (pI P31 a0 28).toInt ≤ 5 + v31_7.toInt; omega)
            · have h36953 : z36951.toInt = 1 := congrArg Int32.toInt h36953
              refine g_aload_n C dX12_chancesOf_48 rfl 0 rfl ?_
              refine g_aload_n C dX12_chancesOf_49 rfl 0 rfl ?_
              obtain ⟨b36954, e36955, h36956⟩ := I31.fld (h36910) 43 13 60 rfl
              refine g_getR C fi_X12_121 rfl e36955 (h36910).1 (h36910).2 dX12_chancesOf_50 ?_
              refine g_iload C dX12_chancesOf_53 7 rfl ?_
              refine g_iald (j := (v31_7.toInt.toNat)) C h36956.1 h36956.2.1 (ix_in h36956.2.2 (by omega)) dX12_chancesOf_55 ?_
              refine g_iconst (v := 0) C dX12_chancesOf_56 (by decide) ?_
              refine g_iconst (v := (-1)) C dX12_chancesOf_57 (by decide) ?_
              refine g_callVV (rest := []) C mv_X12_308 [.int (pI P31 b36954 (v31_7.toInt.toNat)), .int 0, .int (-1)] (s_X12_adds I31 (by omega) W31) (h36910).1 (h36910).2 rfl rfl (by decide) (Nat.le_of_ble_eq_true rfl) (by decide) dX12_chancesOf_58 (fun Y36958 h36959 => ?_)
              obtain ⟨Iy36960, Xy36961, W36962, p36963⟩ := h36959
              have p36963 : (pI Y36958 a0 28).toInt = (pI P31 a0 28).toInt + 1 := p36963
              have q36964 := Xy36961.keepA e36912 (by decide) rfl (a1.toInt.toNat)
              have Xz36965 : EM [28, 29, 30, 31, 33, 34, 35, 36, 37, 38] a0 P Y36958 := EM.tr ha0 X31 (Xy36961.mono (by decide))
              have e36966 := Xy36961.ref h36910 (by decide) e36912
              have h36967 := Xy36961.at h36910
              have h36968 := Xy36961.ar h36913
              have h36969 := Iy36960.rg h36967 28 rfl
              exact J61 Y36958 Iy36960 Xz36965 W36962 (by omega) (by omega) (by omega) (fun b9 e9 => by rw [e36966] at e9; cases e9; omega) (by show (pI Y36958 a0 28).toInt ≤ 5 + v31_7.toInt; omega)
      refine g_iload C dX12_chancesOf_6 6 rfl ?_
      refine g_iconst (v := 1) C dX12_chancesOf_8 (by decide) ?_
      refine g_iload_n C dX12_chancesOf_9 rfl 2 rfl ?_
      refine a_ishl C dX12_chancesOf_10 (fun z36970 => ?_)
      have u36973 := ti_rng v6_6
      have u36974 := ti_rng z36970
      refine b_icmp_ge C 123 dX12_chancesOf_11 (by decide) (fun h36972 => ?_) (fun h36972 => ?_)
      · have h36972 : z36970.toInt ≤ v6_6.toInt := h36972
        refine g_iload C dX12_chancesOf_123 5 rfl ?_
        exact ret _ _ _ _ _ _ dX12_chancesOf_125 rfl (by decide) (by decide) ⟨I6, X6, W6, trivial⟩
      · have h36972 : v6_6.toInt < z36970.toInt := h36972
        refine g_iload C dX12_chancesOf_14 6 rfl ?_
        refine g_callSI (b := 0) (ci := 0) (rest := []) C ms_X12_264 [.int v6_6] (s_X12_bits I6.1) rfl rfl (by decide) (Nat.le_of_ble_eq_true rfl) (by decide) dX12_chancesOf_16 (fun r36975 Y36976 h36977 => ?_)
        obtain ⟨rfl, h36977⟩ := h36977
        obtain ⟨h36977, hi36978⟩ := h36977
        have hi36978 : r36975.toInt = 0 ∨ v6_6.toInt ≠ 0 := hi36978
        have h36977 : 0 ≤ r36975.toInt ∧ r36975.toInt ≤ 20 := h36977
        refine g_iload_n C dX12_chancesOf_19 rfl 3 rfl ?_
        have u36980 := ti_rng a3
        refine b_icmp_ne C 117 dX12_chancesOf_20 (by decide) (fun h36979 => ?_) (fun h36979 => ?_)
        · have h36979 : r36975.toInt ≠ a3.toInt := ti_ne h36979
          exact J117 P6 v6_5 I6 X6 W6 (by omega) (fun b9 e9 => by rw [e36879] at e9; cases e9; omega)
        · have h36979 : r36975.toInt = a3.toInt := congrArg Int32.toInt h36979
          refine g_aload_n C dX12_chancesOf_23 rfl 0 rfl ?_
          refine g_iload_n C dX12_chancesOf_24 rfl 1 rfl ?_
          refine g_callVV (rest := []) C mv_X12_312 [.int a1] (s_X12_begins I6 (by omega) W6) (h36877).1 (h36877).2 rfl rfl (by decide) (Nat.le_of_ble_eq_true rfl) (by decide) dX12_chancesOf_25 (fun Y36982 h36983 => ?_)
          obtain ⟨Iy36984, Xy36985, W36986, p36987⟩ := h36983
          have p36987 : (pI Y36982 a0 28).toInt ≤ 4 := p36987
          have q36988 := Xy36985.keepA e36879 (by decide) rfl (a1.toInt.toNat)
          have Xz36989 : EM [28, 29, 30, 31, 33, 34, 35, 36, 37, 38] a0 P Y36982 := EM.tr ha0 X6 (Xy36985.mono (by decide))
          have e36990 := Xy36985.ref h36877 (by decide) e36879
          have h36991 := Xy36985.at h36877
          have h36992 := Xy36985.ar h36880
          have h36993 := Iy36984.rg h36991 28 rfl
          refine g_iconst (v := 0) C dX12_chancesOf_28 (by decide) ?_
          refine g_istore (lv' := [(7, .int 0), (0, .ref a0), (1, .int a1), (2, .int a2), (3, .int a3), (4, .int a4), (5, .int v6_5), (6, .int v6_6)]) C dX12_chancesOf_29 (by decide) rfl ?_
          refine g_lv (lv' := [(0, .ref a0), (1, .int a1), (2, .int a2), (3, .int a3), (4, .int a4), (5, .int v6_5), (6, .int v6_6), (7, .int 0)]) [1, 2, 3, 4, 5, 6, 7, 0] rfl ?_
          exact J31 _ Y36982 0 (Nat.lt_succ_self _) Iy36984 Xz36989 W36986 (by omega) (by omega) (by decide) (fun b9 e9 => by rw [e36990] at e9; cases e9; omega) (by show (pI Y36982 a0 28).toInt ≤ 4 + 0; omega)
  obtain ⟨b36994, e36995, h36996⟩ := I.fld (ha0) 10 13 2 rfl
  have hf0 := hf0 b36994 e36995
  refine g_iconst (v := 0) C dX12_chancesOf_0 (by decide) ?_
  refine g_istore (lv' := [(5, .int 0), (0, .ref a0), (1, .int a1), (2, .int a2), (3, .int a3), (4, .int a4)]) C dX12_chancesOf_1 (by decide) rfl ?_
  refine g_iconst (v := 0) C dX12_chancesOf_3 (by decide) ?_
  refine g_istore (lv' := [(6, .int 0), (5, .int 0), (0, .ref a0), (1, .int a1), (2, .int a2), (3, .int a3), (4, .int a4)]) C dX12_chancesOf_4 (by decide) rfl ?_
  refine g_lv (lv' := [(0, .ref a0), (1, .int a1), (2, .int a2), (3, .int a3), (4, .int a4), (5, .int 0), (6, .int 0)]) [2, 3, 4, 5, 6, 1, 0] rfl ?_
  exact J6 _ P 0 0 (Nat.lt_succ_self _) I EM.rf hW (by decide) (fun b9 e9 => by rw [e36995] at e9; cases e9; omega)
theorem dX12_average_25 : decode cX12_average 25 = .ok (.ldc2_w 390, 3) := by decide +kernel
theorem dX12_average_28 : decode cX12_average 28 = .ok (.lreturn, 1) := by decide +kernel
theorem dX12_average_43 : decode cX12_average 43 = .ok (.ifCond .ne 7, 3) := by decide +kernel
theorem dX12_average_46 : decode cX12_average 46 = .ok (.ldc2_w 390, 3) := by decide +kernel
theorem dX12_average_49 : decode cX12_average 49 = .ok (.lreturn, 1) := by decide +kernel
theorem dX12_average_50 : decode cX12_average 50 = .ok (.lconst 0, 1) := by decide +kernel
theorem dX12_average_51 : decode cX12_average 51 = .ok (.lstore 5, 2) := by decide +kernel
theorem dX12_average_53 : decode cX12_average 53 = .ok (.lconst 1, 1) := by decide +kernel
theorem dX12_average_54 : decode cX12_average 54 = .ok (.lstore 7, 2) := by decide +kernel
theorem dX12_average_56 : decode cX12_average 56 = .ok (.iconst 0, 1) := by decide +kernel
theorem dX12_average_57 : decode cX12_average 57 = .ok (.istore 9, 2) := by decide +kernel
theorem dX12_average_59 : decode cX12_average 59 = .ok (.iload 9, 2) := by decide +kernel
theorem dX12_average_61 : decode cX12_average 61 = .ok (.iload_n 2, 1) := by decide +kernel
theorem dX12_average_62 : decode cX12_average 62 = .ok (.if_icmp .ge 76, 3) := by decide +kernel
theorem dX12_average_65 : decode cX12_average 65 = .ok (.iload_n 2, 1) := by decide +kernel
theorem dX12_average_66 : decode cX12_average 66 = .ok (.iload 9, 2) := by decide +kernel
theorem dX12_average_68 : decode cX12_average 68 = .ok (.invokestatic 387, 3) := by decide +kernel
theorem dX12_choices_0 : decode cX12_choices 0 = .ok (.iconst 1, 1) := by decide +kernel
theorem dX12_choices_1 : decode cX12_choices 1 = .ok (.istore_n 2, 1) := by decide +kernel
theorem dX12_choices_2 : decode cX12_choices 2 = .ok (.iconst 0, 1) := by decide +kernel
theorem dX12_choices_3 : decode cX12_choices 3 = .ok (.istore_n 3, 1) := by decide +kernel
theorem dX12_choices_4 : decode cX12_choices 4 = .ok (.iload_n 3, 1) := by decide +kernel
theorem dX12_choices_5 : decode cX12_choices 5 = .ok (.iload_n 1, 1) := by decide +kernel
theorem dX12_choices_6 : decode cX12_choices 6 = .ok (.if_icmp .ge 19, 3) := by decide +kernel
theorem dX12_choices_9 : decode cX12_choices 9 = .ok (.iload_n 2, 1) := by decide +kernel
theorem dX12_choices_10 : decode cX12_choices 10 = .ok (.iload_n 0, 1) := by decide +kernel
theorem dX12_choices_11 : decode cX12_choices 11 = .ok (.iload_n 3, 1) := by decide +kernel
theorem dX12_choices_12 : decode cX12_choices 12 = .ok (.isub, 1) := by decide +kernel
theorem dX12_choices_13 : decode cX12_choices 13 = .ok (.imul, 1) := by decide +kernel
theorem dX12_choices_14 : decode cX12_choices 14 = .ok (.iload_n 3, 1) := by decide +kernel
theorem dX12_choices_15 : decode cX12_choices 15 = .ok (.iconst 1, 1) := by decide +kernel
theorem dX12_choices_16 : decode cX12_choices 16 = .ok (.iadd, 1) := by decide +kernel
theorem dX12_choices_17 : decode cX12_choices 17 = .ok (.idiv, 1) := by decide +kernel
theorem dX12_choices_18 : decode cX12_choices 18 = .ok (.istore_n 2, 1) := by decide +kernel
theorem dX12_choices_19 : decode cX12_choices 19 = .ok (.iinc 3 1, 3) := by decide +kernel
theorem dX12_choices_22 : decode cX12_choices 22 = .ok (.goto (-18), 3) := by decide +kernel
theorem dX12_choices_25 : decode cX12_choices 25 = .ok (.iload_n 2, 1) := by decide +kernel
theorem dX12_choices_26 : decode cX12_choices 26 = .ok (.ireturn, 1) := by decide +kernel
set_option maxHeartbeats 4000000 in
set_option maxRecDepth 100000 in
theorem s_X12_choices {P : PP} {a0 : Int32} {a1 : Int32} (I : IV P) (ha0 : 0 ≤ a0.toInt ∧ a0.toInt ≤ 11) (ha1 : 0 ≤ a1.toInt ∧ a1.toInt ≤ 11) : CtrI yX12_choices cX12_choices 4 (some Jvm.ClassFile.FieldType.int) ({ frames := 1, cells := 0, slots := 0, locals := 64 } : Room) 0 0 P [.int a0, .int a1] (fun r P2 => P = P2 ∧ (True) ∧ (a1.toInt ≤ a0.toInt → (1 ≤ r.toInt ∧ r.toInt ≤ 462) ∧ r.toInt.natAbs ∣ 27720)) := by
  refine enI (lv := [(0, .int a0), (1, .int a1)]) (by decide) (Nat.le_of_ble_eq_true rfl) rfl (fun E D cy C Ci0 ret => ?_)
  have J4 : ∀ (n4 : Nat) (v4_2 : Int32) (v4_3 : Int32), (11 - v4_3.toInt).toNat < n4 → (0 ≤ v4_3.toInt ∧ v4_3.toInt ≤ 11) → (v4_2.toInt = (chF a0 (v4_3.toInt : Int).toNat).toInt) → (v4_3.toInt ≤ a1.toInt) → G E ({ frames := 1, cells := 0, slots := 0, locals := 64 } : Room) D cy 4 P 0 0 4 [(0, .int a0), (1, .int a1), (2, .int v4_2), (3, .int v4_3)] [] := by
    intro n4
    induction n4 with
    | zero => intro v4_2 v4_3 hm4 hv4_3 rel4_0 rel4_1; omega
    | succ n4 ih4 =>
      intro v4_2 v4_3 hm4 hv4_3 rel4_0 rel4_1
      refine g_iload_n C dX12_choices_4 rfl 3 rfl ?_
      refine g_iload_n C dX12_choices_5 rfl 1 rfl ?_
      refine b_icmp_ge C 25 dX12_choices_6 (by decide) (fun h37152 => ?_) (fun h37152 => ?_)
      · have h37152 : a1.toInt ≤ v4_3.toInt := h37152
        refine g_iload_n C dX12_choices_25 rfl 2 rfl ?_
        exact ret _ _ _ _ _ _ dX12_choices_26 rfl (by decide) (by decide) ⟨rfl, trivial, (fun _ => by have h9 := chF_rg (m := a0) (k := v4_3.toInt.toNat) ha0 (by omega); rw [← rel4_0] at h9; exact h9)⟩
      · have h37152 : v4_3.toInt < a1.toInt := h37152
        refine g_iload_n C dX12_choices_9 rfl 2 rfl ?_
        refine g_iload_n C dX12_choices_10 rfl 0 rfl ?_
        refine g_iload_n C dX12_choices_11 rfl 3 rfl ?_
        refine g_isub C dX12_choices_12 ?_
        refine g_topi (fun z37153 h37154 => ?_)
        refine g_imul C dX12_choices_13 ?_
        refine g_topi (fun z37155 h37156 => ?_)
        refine g_iload_n C dX12_choices_14 rfl 3 rfl ?_
        refine g_iconst (v := 1) C dX12_choices_15 (by decide) ?_
        refine g_iadd C dX12_choices_16 ?_
        refine g_topi (fun z37157 h37158 => ?_)
        have hc9 : z37157.toInt = v4_3.toInt + 1 := by rw [h37158]; exact (ti_add (y := 1) (by show -2147483648 ≤ v4_3.toInt + 1 ∧ v4_3.toInt + 1 ≤ 2147483647; omega))
        refine g_idiv C dX12_choices_17 (fun e9 => by have h8 : z37157.toInt = 0 := congrArg Int32.toInt e9; omega) ?_
        refine g_topi (fun z37159 h37160 => ?_)
        refine g_istore_n (lv' := [(2, .int z37159), (0, .int a0), (1, .int a1), (3, .int v4_3)]) C dX12_choices_18 rfl (by decide) rfl ?_
        refine s_iinc (lv0 := [(2, .int z37159), (0, .int a0), (1, .int a1)]) (m := 1) C dX12_choices_19 3 rfl (by decide) rfl (by decide) (by omega) (fun z37161 h37162 => ?_)
        have h37162 : z37161.toInt = v4_3.toInt + 1 := h37162
        have st := chF_step (i := v4_3) rel4_0 (by omega) h37154 h37156 h37158 h37160 (d := z37161.toInt) (by omega)
        refine g_goto C 4 dX12_choices_22 (by decide) ?_
        refine g_lv (lv' := [(0, .int a0), (1, .int a1), (2, .int z37159), (3, .int z37161)]) [2, 3, 1, 0] rfl ?_
        exact ih4 z37159 z37161 (by omega) (by omega) (by show z37159.toInt = (chF a0 (z37161.toInt : Int).toNat).toInt; omega) (by show z37161.toInt ≤ a1.toInt; omega)
  refine g_iconst (v := 1) C dX12_choices_0 (by decide) ?_
  refine g_istore_n (lv' := [(2, .int 1), (0, .int a0), (1, .int a1)]) C dX12_choices_1 rfl (by decide) rfl ?_
  have h0c : (chF a0 (0 : Int).toNat).toInt = 1 := rfl
  refine g_iconst (v := 0) C dX12_choices_2 (by decide) ?_
  refine g_istore_n (lv' := [(3, .int 0), (2, .int 1), (0, .int a0), (1, .int a1)]) C dX12_choices_3 rfl (by decide) rfl ?_
  refine g_lv (lv' := [(0, .int a0), (1, .int a1), (2, .int 1), (3, .int 0)]) [2, 3, 1, 0] rfl ?_
  exact J4 _ 1 0 (Nat.lt_succ_self _) (by decide) (by show 1 = (chF a0 (0 : Int).toNat).toInt; omega) (by show 0 ≤ a1.toInt; omega)
theorem dX12_average_71 : decode cX12_average 71 = .ok (.i2l, 1) := by decide +kernel
theorem dX12_average_72 : decode cX12_average 72 = .ok (.lstore 10, 2) := by decide +kernel
theorem dX12_average_74 : decode cX12_average 74 = .ok (.lload 10, 2) := by decide +kernel
theorem dX12_average_76 : decode cX12_average 76 = .ok (.aload_n 0, 1) := by decide +kernel
theorem dX12_average_77 : decode cX12_average 77 = .ok (.iload_n 1, 1) := by decide +kernel
theorem dX12_average_78 : decode cX12_average 78 = .ok (.iload_n 2, 1) := by decide +kernel
theorem dX12_average_79 : decode cX12_average 79 = .ok (.iload 9, 2) := by decide +kernel
theorem dX12_average_81 : decode cX12_average 81 = .ok (.iload_n 3, 1) := by decide +kernel
theorem dX12_average_82 : decode cX12_average 82 = .ok (.invokevirtual 383, 3) := by decide +kernel
theorem dX12_average_85 : decode cX12_average 85 = .ok (.i2l, 1) := by decide +kernel
theorem dX12_average_86 : decode cX12_average 86 = .ok (.lsub, 1) := by decide +kernel
theorem dX12_average_87 : decode cX12_average 87 = .ok (.lstore 12, 2) := by decide +kernel
theorem dX12_average_89 : decode cX12_average 89 = .ok (.lload 5, 2) := by decide +kernel
theorem dX12_average_91 : decode cX12_average 91 = .ok (.lload 10, 2) := by decide +kernel
theorem dX12_average_93 : decode cX12_average 93 = .ok (.lmul, 1) := by decide +kernel
theorem dX12_average_94 : decode cX12_average 94 = .ok (.lload 12, 2) := by decide +kernel
theorem dX12_average_96 : decode cX12_average 96 = .ok (.lload 7, 2) := by decide +kernel
theorem dX12_average_98 : decode cX12_average 98 = .ok (.lmul, 1) := by decide +kernel
theorem dX12_average_99 : decode cX12_average 99 = .ok (.ladd, 1) := by decide +kernel
theorem dX12_average_100 : decode cX12_average 100 = .ok (.lstore 5, 2) := by decide +kernel
theorem dX12_average_102 : decode cX12_average 102 = .ok (.lload 7, 2) := by decide +kernel
theorem dX12_average_104 : decode cX12_average 104 = .ok (.lload 10, 2) := by decide +kernel
theorem dX12_average_106 : decode cX12_average 106 = .ok (.lmul, 1) := by decide +kernel
theorem dX12_average_107 : decode cX12_average 107 = .ok (.lstore 7, 2) := by decide +kernel
theorem dX12_average_109 : decode cX12_average 109 = .ok (.lload 7, 2) := by decide +kernel
theorem dX12_average_111 : decode cX12_average 111 = .ok (.lload 5, 2) := by decide +kernel
theorem dX12_average_113 : decode cX12_average 113 = .ok (.invokestatic 392, 3) := by decide +kernel
theorem dX12_common_0 : decode cX12_common 0 = .ok (.lload_n 0, 1) := by decide +kernel
theorem dX12_common_1 : decode cX12_common 1 = .ok (.lstore 4, 2) := by decide +kernel
theorem dX12_common_3 : decode cX12_common 3 = .ok (.lload_n 2, 1) := by decide +kernel
theorem dX12_common_4 : decode cX12_common 4 = .ok (.lstore 6, 2) := by decide +kernel
theorem dX12_common_6 : decode cX12_common 6 = .ok (.lload 6, 2) := by decide +kernel
theorem dX12_common_8 : decode cX12_common 8 = .ok (.lconst 0, 1) := by decide +kernel
theorem dX12_common_9 : decode cX12_common 9 = .ok (.lcmp, 1) := by decide +kernel
theorem dX12_common_10 : decode cX12_common 10 = .ok (.ifCond .eq 21, 3) := by decide +kernel
theorem dX12_common_13 : decode cX12_common 13 = .ok (.lload 4, 2) := by decide +kernel
theorem dX12_common_15 : decode cX12_common 15 = .ok (.lload 6, 2) := by decide +kernel
theorem dX12_common_17 : decode cX12_common 17 = .ok (.lrem, 1) := by decide +kernel
theorem dX12_common_18 : decode cX12_common 18 = .ok (.lstore 8, 2) := by decide +kernel
theorem dX12_common_20 : decode cX12_common 20 = .ok (.lload 6, 2) := by decide +kernel
theorem dX12_common_22 : decode cX12_common 22 = .ok (.lstore 4, 2) := by decide +kernel
theorem dX12_common_24 : decode cX12_common 24 = .ok (.lload 8, 2) := by decide +kernel
theorem dX12_common_26 : decode cX12_common 26 = .ok (.lstore 6, 2) := by decide +kernel
theorem dX12_common_28 : decode cX12_common 28 = .ok (.goto (-22), 3) := by decide +kernel
theorem dX12_common_31 : decode cX12_common 31 = .ok (.lload 4, 2) := by decide +kernel
theorem dX12_common_33 : decode cX12_common 33 = .ok (.lreturn, 1) := by decide +kernel
set_option maxHeartbeats 4000000 in
set_option maxRecDepth 100000 in
theorem s_X12_common {P : PP} {a0 : Int64} {a1 : Int64} (I : IV P) : CtrL yX12_common cX12_common 10 (some Jvm.ClassFile.FieldType.long) ({ frames := 1, cells := 0, slots := 0, locals := 64 } : Room) 0 0 P [.long a0, .long a1] (fun r P2 => P = P2 ∧ (r.toInt.natAbs = Nat.gcd a0.toInt.natAbs a1.toInt.natAbs)) := by
  refine enL (lv := [(0, .long a0), (2, .long a1)]) (by decide) (Nat.le_of_ble_eq_true rfl) rfl (fun E D cy C Ci0 ret => ?_)
  have J6 : ∀ (n6 : Nat) (l6_4 : Int64) (l6_6 : Int64), l6_6.toInt.natAbs < n6 → (gcI l6_4 l6_6 a0 a1) → G E ({ frames := 1, cells := 0, slots := 0, locals := 64 } : Room) D cy 10 P 0 0 6 [(4, .long l6_4), (6, .long l6_6)] [] := by
    intro n6
    induction n6 with
    | zero => intro l6_4 l6_6 hm6 rel6_0; omega
    | succ n6 ih6 =>
      intro l6_4 l6_6 hm6 rel6_0
      refine g_lload C dX12_common_6 1 rfl ?_
      refine g_lconst (v := 0) C dX12_common_8 (by decide) ?_
      refine a_lcmp0e C dX12_common_9 (fun z37255 h37256 => ?_)
      have u37258 := ti_rng z37255
      refine b_if_eq C 31 dX12_common_10 (by decide) (fun h37257 => ?_) (fun h37257 => ?_)
      · have h37257 : z37255.toInt = 0 := congrArg Int32.toInt h37257
        have he_l6_6 := h37256.2 h37257
        refine g_lload C dX12_common_31 0 rfl ?_
        exact ret _ _ _ _ _ _ dX12_common_33 (by decide) (by decide) ⟨rfl, gc_end rel6_0 he_l6_6⟩
      · have h37257 : z37255.toInt ≠ 0 := ti_ne h37257
        have hz_l6_6 := h37256.1 h37257
        refine g_lload C dX12_common_13 0 rfl ?_
        refine g_lload C dX12_common_15 1 rfl ?_
        refine g_lrem C dX12_common_17 hz_l6_6 ?_
        refine g_topl (fun l37259 h37260 => ?_)
        obtain ⟨hgs, hls⟩ := gc_step rel6_0 hz_l6_6 h37260
        refine g_lstore (lv' := [(8, .long l37259), (4, .long l6_4), (6, .long l6_6)]) C dX12_common_18 (by decide) rfl ?_
        refine g_lload C dX12_common_20 2 rfl ?_
        refine g_lstore (lv' := [(4, .long l6_6), (8, .long l37259), (6, .long l6_6)]) C dX12_common_22 (by decide) rfl ?_
        refine g_lload C dX12_common_24 1 rfl ?_
        refine g_lstore (lv' := [(6, .long l37259), (4, .long l6_6), (8, .long l37259)]) C dX12_common_26 (by decide) rfl ?_
        refine g_goto C 6 dX12_common_28 (by decide) ?_
        refine g_lv (lv' := [(4, .long l6_6), (6, .long l37259)]) [1, 0] rfl ?_
        exact ih6 l6_6 l37259 (by omega) (by show gcI l6_6 l37259 a0 a1; assumption)
  refine g_lload_n C dX12_common_0 rfl 0 rfl ?_
  refine g_lstore (lv' := [(4, .long a0), (0, .long a0), (2, .long a1)]) C dX12_common_1 (by decide) rfl ?_
  refine g_lload_n C dX12_common_3 rfl 2 rfl ?_
  have hg0 : gcI a0 a1 a0 a1 := rfl
  refine g_lstore (lv' := [(6, .long a1), (4, .long a0), (0, .long a0), (2, .long a1)]) C dX12_common_4 (by decide) rfl ?_
  refine g_lv (lv' := [(4, .long a0), (6, .long a1)]) [1, 0] rfl ?_
  exact J6 _ a0 a1 (Nat.lt_succ_self _) (by show gcI a0 a1 a0 a1; assumption)
theorem dX12_average_116 : decode cX12_average 116 = .ok (.lstore 14, 2) := by decide +kernel
theorem dX12_average_118 : decode cX12_average 118 = .ok (.lload 5, 2) := by decide +kernel
theorem dX12_average_120 : decode cX12_average 120 = .ok (.lload 14, 2) := by decide +kernel
theorem dX12_average_122 : decode cX12_average 122 = .ok (.ldiv, 1) := by decide +kernel
theorem dX12_average_123 : decode cX12_average 123 = .ok (.lstore 5, 2) := by decide +kernel
theorem dX12_average_125 : decode cX12_average 125 = .ok (.lload 7, 2) := by decide +kernel
theorem dX12_average_127 : decode cX12_average 127 = .ok (.lload 14, 2) := by decide +kernel
theorem dX12_average_129 : decode cX12_average 129 = .ok (.ldiv, 1) := by decide +kernel
theorem dX12_average_130 : decode cX12_average 130 = .ok (.lstore 7, 2) := by decide +kernel
theorem dX12_average_132 : decode cX12_average 132 = .ok (.iinc 9 1, 3) := by decide +kernel
theorem dX12_average_135 : decode cX12_average 135 = .ok (.goto (-76), 3) := by decide +kernel
theorem dX12_average_138 : decode cX12_average 138 = .ok (.iload 4, 2) := by decide +kernel
theorem dX12_average_140 : decode cX12_average 140 = .ok (.ifCond .ne 8, 3) := by decide +kernel
theorem dX12_average_143 : decode cX12_average 143 = .ok (.lload 5, 2) := by decide +kernel
theorem dX12_average_145 : decode cX12_average 145 = .ok (.goto 5, 3) := by decide +kernel
theorem dX12_average_148 : decode cX12_average 148 = .ok (.lload 7, 2) := by decide +kernel
theorem dX12_average_150 : decode cX12_average 150 = .ok (.lreturn, 1) := by decide +kernel
set_option maxHeartbeats 4000000 in
set_option maxRecDepth 100000 in
theorem s_X12_average {P : PP} {a0 : Nat} {a1 : Int32} {a2 : Int32} {a3 : Int32} {a4 : Int32} (I : IM P a0) (hW : MW P a0) : CtrL yX12_average cX12_average 16 (some Jvm.ClassFile.FieldType.long) ({ frames := 5, cells := 0, slots := 0, locals := 320 } : Room) 0 0 P [.ref a0, .int a1, .int a2, .int a3, .int a4] (fun r P2 => IM P2 a0 ∧ EM [0, 28, 29, 30, 31, 33, 34, 35, 36, 37, 38, 43] a0 P P2 ∧ MW P2 a0 ∧ (True)) := by
  refine enL (lv := [(0, .ref a0), (1, .int a1), (2, .int a2), (3, .int a3), (4, .int a4)]) (by decide) (Nat.le_of_ble_eq_true rfl) rfl (fun E D cy C Ci0 ret => ?_)
  have ha0 := I.2.1
  have J59 : ∀ (n59 : Nat) (P59 : PP) (l59_5 : Int64) (l59_7 : Int64) (v59_9 : Int32), (11 - v59_9.toInt).toNat < n59 → (IM P59 a0) → (EM [0, 28, 29, 30, 31, 33, 34, 35, 36, 37, 38, 43] a0 P P59) → (MW P59 a0) → (0 ≤ a1.toInt ∧ a1.toInt ≤ 1) → (1 ≤ a2.toInt ∧ a2.toInt ≤ 11) → (0 ≤ a3.toInt ∧ a3.toInt ≤ 1) → (0 ≤ a4.toInt ∧ a4.toInt ≤ 1) → (0 ≤ v59_9.toInt ∧ v59_9.toInt ≤ 11) → (0 ≤ (pI P59 a0 0).toInt ∧ (pI P59 a0 0).toInt ≤ 0) → (∀ b, pR P59 a0 10 = some b → 1 ≤ (pI P59 b (a1.toInt.toNat)).toInt ∧ (pI P59 b (a1.toInt.toNat)).toInt ≤ 16) → (avI l59_5 l59_7 v59_9.toInt) → G E ({ frames := 5, cells := 0, slots := 0, locals := 320 } : Room) D cy 16 P59 0 0 59 [(0, .ref a0), (1, .int a1), (2, .int a2), (3, .int a3), (4, .int a4), (5, .long l59_5), (7, .long l59_7), (9, .int v59_9)] [] := by
    intro n59
    induction n59 with
    | zero => intro P59 l59_5 l59_7 v59_9 hm59 I59 X59 W59 hv59_1 hv59_2 hv59_3 hv59_4 hv59_9 hq59_0 hq59_1 rel59_0; omega
    | succ n59 ih59 =>
      intro P59 l59_5 l59_7 v59_9 hm59 I59 X59 W59 hv59_1 hv59_2 hv59_3 hv59_4 hv59_9 hq59_0 hq59_1 rel59_0
      have h37716 := X59.at ha0
      obtain ⟨b37717, e37718, h37719⟩ := I59.fld (h37716) 10 13 2 rfl
      have hq59_1 := hq59_1 b37717 e37718
      refine g_iload C dX12_average_59 7 rfl ?_
      refine g_iload_n C dX12_average_61 rfl 2 rfl ?_
      refine b_icmp_ge C 138 dX12_average_62 (by decide) (fun h37720 => ?_) (fun h37720 => ?_)
      · have h37720 : a2.toInt ≤ v59_9.toInt := h37720
        refine g_iload C dX12_average_138 4 rfl ?_
        refine b_if_ne C 148 dX12_average_140 (by decide) (fun h37721 => ?_) (fun h37721 => ?_)
        · have h37721 : a4.toInt ≠ 0 := ti_ne h37721
          refine g_lload C dX12_average_148 6 rfl ?_
          exact ret _ _ _ _ _ _ dX12_average_150 (by decide) (by decide) ⟨I59, X59, W59, trivial⟩
        · have h37721 : a4.toInt = 0 := congrArg Int32.toInt h37721
          refine g_lload C dX12_average_143 5 rfl ?_
          refine g_goto C 150 dX12_average_145 (by decide) ?_
          exact ret _ _ _ _ _ _ dX12_average_150 (by decide) (by decide) ⟨I59, X59, W59, trivial⟩
      · have h37720 : v59_9.toInt < a2.toInt := h37720
        refine g_iload_n C dX12_average_65 rfl 2 rfl ?_
        refine g_iload C dX12_average_66 7 rfl ?_
        refine g_callSI (b := 0) (ci := 0) (rest := []) C ms_X12_387 [.int a2, .int v59_9] (s_X12_choices I59.1 (by omega) (by omega)) rfl rfl (by decide) (Nat.le_of_ble_eq_true rfl) (by decide) dX12_average_68 (fun r37722 Y37723 h37724 => ?_)
        obtain ⟨rfl, h37724⟩ := h37724
        obtain ⟨h37724, hi37725⟩ := h37724
        have hi37725 : v59_9.toInt ≤ a2.toInt → (1 ≤ r37722.toInt ∧ r37722.toInt ≤ 462) ∧ r37722.toInt.natAbs ∣ 27720 := hi37725
        have h37724 : True := h37724
        refine g_i2l C dX12_average_71 rfl ?_
        refine g_topl (fun l37726 h37727 => ?_)
        refine g_lstore (lv' := [(10, .long l37726), (0, .ref a0), (1, .int a1), (2, .int a2), (3, .int a3), (4, .int a4), (5, .long l59_5), (7, .long l59_7), (9, .int v59_9)]) C dX12_average_72 (by decide) rfl ?_
        refine g_lload C dX12_average_74 0 rfl ?_
        refine g_aload_n C dX12_average_76 rfl 1 rfl ?_
        refine g_iload_n C dX12_average_77 rfl 2 rfl ?_
        refine g_iload_n C dX12_average_78 rfl 3 rfl ?_
        refine g_iload C dX12_average_79 8 rfl ?_
        refine g_iload_n C dX12_average_81 rfl 4 rfl ?_
        refine g_callVI (rest := [.long l37726]) C mv_X12_383 [.int a1, .int a2, .int v59_9, .int a3] (s_X12_chancesOf I59 (by omega) (by omega) (fun b9 e9 => by rw [e37718] at e9; cases e9; show 1 ≤ (pI P59 b37717 (a1.toInt.toNat)).toInt ∧ (pI P59 b37717 (a1.toInt.toNat)).toInt ≤ 16; omega) W59) (h37716).1 (h37716).2 rfl rfl (by decide) (Nat.le_of_ble_eq_true rfl) (by decide) dX12_average_82 (fun r37728 Y37729 h37730 => ?_)
        obtain ⟨Iy37731, Xy37732, W37733, h37730⟩ := h37730
        have q37734 := Xy37732.keepF 0 (by decide)
        have q37735 := Xy37732.keepA e37718 (by decide) rfl (a1.toInt.toNat)
        have Xz37736 : EM [0, 28, 29, 30, 31, 33, 34, 35, 36, 37, 38, 43] a0 P Y37729 := EM.tr ha0 X59 (Xy37732.mono (by decide))
        have e37737 := Xy37732.ref h37716 (by decide) e37718
        have h37738 := Xy37732.at h37716
        have h37739 := Xy37732.ar h37719
        have h37730 : True := h37730
        refine g_i2l C dX12_average_85 rfl ?_
        refine g_topl (fun l37740 h37741 => ?_)
        refine g_lsub C dX12_average_86 ?_
        refine g_topl (fun l37742 h37743 => ?_)
        refine g_lstore (lv' := [(12, .long l37742), (10, .long l37726), (0, .ref a0), (1, .int a1), (2, .int a2), (3, .int a3), (4, .int a4), (5, .long l59_5), (7, .long l59_7), (9, .int v59_9)]) C dX12_average_87 (by decide) rfl ?_
        refine g_lload C dX12_average_89 7 rfl ?_
        refine g_lload C dX12_average_91 1 rfl ?_
        refine g_lmul C dX12_average_93 ?_
        refine g_topl (fun l37744 h37745 => ?_)
        refine g_lload C dX12_average_94 0 rfl ?_
        refine g_lload C dX12_average_96 8 rfl ?_
        refine g_lmul C dX12_average_98 ?_
        refine g_topl (fun l37746 h37747 => ?_)
        refine g_ladd C dX12_average_99 ?_
        refine g_topl (fun l37748 h37749 => ?_)
        refine g_lstore (lv' := [(5, .long l37748), (12, .long l37742), (10, .long l37726), (0, .ref a0), (1, .int a1), (2, .int a2), (3, .int a3), (4, .int a4), (7, .long l59_7), (9, .int v59_9)]) C dX12_average_100 (by decide) rfl ?_
        refine g_lload C dX12_average_102 8 rfl ?_
        refine g_lload C dX12_average_104 2 rfl ?_
        refine g_lmul C dX12_average_106 ?_
        refine g_topl (fun l37750 h37751 => ?_)
        refine g_lstore (lv' := [(7, .long l37750), (5, .long l37748), (12, .long l37742), (10, .long l37726), (0, .ref a0), (1, .int a1), (2, .int a2), (3, .int a3), (4, .int a4), (9, .int v59_9)]) C dX12_average_107 (by decide) rfl ?_
        refine g_lload C dX12_average_109 0 rfl ?_
        refine g_lload C dX12_average_111 1 rfl ?_
        refine g_callSL (b := 0) (ci := 0) (rest := []) C ms_X12_392 [.long l37750, .long l37748] (s_X12_common Iy37731.1) rfl rfl (by decide) (Nat.le_of_ble_eq_true rfl) (by decide) dX12_average_113 (fun r37752 Y37753 h37754 => ?_)
        obtain ⟨rfl, h37754⟩ := h37754
        have h37754 : r37752.toInt.natAbs = Nat.gcd l37750.toInt.natAbs l37748.toInt.natAbs := h37754
        refine g_lstore (lv' := [(14, .long r37752), (7, .long l37750), (5, .long l37748), (12, .long l37742), (10, .long l37726), (0, .ref a0), (1, .int a1), (2, .int a2), (3, .int a3), (4, .int a4), (9, .int v59_9)]) C dX12_average_116 (by decide) rfl ?_
        have hch := hi37725 (by omega)
        have hA : (1 ≤ l37726.toInt ∧ l37726.toInt ≤ 462) ∧ l37726.toInt.natAbs ∣ 27720 := by rw [h37727, Int32.toInt_toInt64]; exact hch
        have hN := n_sub h37727 h37741 (by omega) h37743
        have hst := av_step (k2 := v59_9.toInt + 1) rel59_0 (by omega) rfl hA hN (h37749.trans (by rw [h37745, h37747])) h37751 h37754
        have hz_r37752 := hst.1
        refine g_lload C dX12_average_118 2 rfl ?_
        refine g_lload C dX12_average_120 0 rfl ?_
        refine g_ldiv C dX12_average_122 hz_r37752 ?_
        refine g_topl (fun l37755 h37756 => ?_)
        refine g_lstore (lv' := [(5, .long l37755), (14, .long r37752), (7, .long l37750), (12, .long l37742), (10, .long l37726), (0, .ref a0), (1, .int a1), (2, .int a2), (3, .int a3), (4, .int a4), (9, .int v59_9)]) C dX12_average_123 (by decide) rfl ?_
        refine g_lload C dX12_average_125 2 rfl ?_
        refine g_lload C dX12_average_127 1 rfl ?_
        refine g_ldiv C dX12_average_129 hz_r37752 ?_
        refine g_topl (fun l37757 h37758 => ?_)
        refine g_lstore (lv' := [(7, .long l37757), (5, .long l37755), (14, .long r37752), (12, .long l37742), (10, .long l37726), (0, .ref a0), (1, .int a1), (2, .int a2), (3, .int a3), (4, .int a4), (9, .int v59_9)]) C dX12_average_130 (by decide) rfl ?_
        refine s_iinc (lv0 := [(7, .long l37757), (5, .long l37755), (14, .long r37752), (12, .long l37742), (10, .long l37726), (0, .ref a0), (1, .int a1), (2, .int a2), (3, .int a3), (4, .int a4)]) (m := 1) C dX12_average_132 10 rfl (by decide) rfl (by decide) (by omega) (fun z37759 h37760 => ?_)
        have h37760 : z37759.toInt = v59_9.toInt + 1 := h37760
        have hav2 : avI l37755 l37757 z37759.toInt := by rw [show z37759.toInt = v59_9.toInt + 1 by omega]; exact hst.2 _ _ h37756 h37758
        refine g_goto C 59 dX12_average_135 (by decide) ?_
        refine g_lv (lv' := [(0, .ref a0), (1, .int a1), (2, .int a2), (3, .int a3), (4, .int a4), (5, .long l37755), (7, .long l37757), (9, .int z37759)]) [6, 7, 8, 9, 10, 2, 1, 0] rfl ?_
        exact ih59 Y37729 l37755 l37757 z37759 (by omega) Iy37731 Xz37736 W37733 (by omega) (by omega) (by omega) (by omega) (by omega) (by omega) (fun b9 e9 => by rw [e37737] at e9; cases e9; omega) (by show avI l37755 l37757 z37759.toInt; assumption)
  have J25 : ∀ (P25 : PP), (IM P25 a0) → (EM [0, 28, 29, 30, 31, 33, 34, 35, 36, 37, 38, 43] a0 P P25) → (MW P25 a0) → (0 ≤ (pI P25 a0 0).toInt ∧ (pI P25 a0 0).toInt ≤ 0) → G E ({ frames := 5, cells := 0, slots := 0, locals := 320 } : Room) D cy 16 P25 0 0 25 [] [] := by
    intro P25 I25 X25 W25 hq25_0
    have h37761 := X25.at ha0
    refine g_ldc2 (v := -1) C kl_X12_390 dX12_average_25 ?_
    refine g_topl (fun l37762 el37762 => ?_)
    have hz_l37762 : ¬ l37762 = 0 := by rw [el37762]; decide
    exact ret _ _ _ _ _ _ dX12_average_28 (by decide) (by decide) ⟨I25, X25, W25, trivial⟩
  refine g_aload_n C dX12_average_0 rfl 0 rfl ?_
  refine g_iconst (v := 0) C dX12_average_1 (by decide) ?_
  refine g_putI C fi_X12_1 rfl (ha0).1 (ha0).2 dX12_average_2 ?_
  refine gqW (ks := [0]) (I.setI (rgOk.of rfl (by decide))) (EM.setI I (by decide)) (fun Y37763 Iy37764 Xy37765 w37766  => ?_)
  have w37766 : (pI Y37763 a0 0).toInt = 0 := w37766
  have W37767 := hW.keep I Xy37765 (by decide) (by decide) (by decide) (by decide)
  have Xz37768 : EM [0, 28, 29, 30, 31, 33, 34, 35, 36, 37, 38, 43] a0 P Y37763 := Xy37765.mono (by decide)
  have h37769 := Xy37765.at ha0
  refine g_aload_n C dX12_average_5 rfl 0 rfl ?_
  refine g_iload_n C dX12_average_6 rfl 1 rfl ?_
  refine g_iload_n C dX12_average_7 rfl 2 rfl ?_
  refine g_iload_n C dX12_average_8 rfl 3 rfl ?_
  refine g_callVI (rest := []) C mv_X12_377 [.int a1, .int a2, .int a3] (s_X12_areChances Iy37764 W37767) (h37769).1 (h37769).2 rfl rfl (by decide) (Nat.le_of_ble_eq_true rfl) (by decide) dX12_average_9 (fun r37770 Y37771 h37772 => ?_)
  obtain ⟨rfl, h37772⟩ := h37772
  obtain ⟨h37772, hi37773, hi37774⟩ := h37772
  have hi37773 : r37770.toInt = 0 ∨ (((0 : Int) ≤ a1.toInt ∧ a1.toInt ≤ (1 : Int)) ∧ ((1 : Int) ≤ a2.toInt ∧ a2.toInt ≤ (11 : Int)) ∧ ((0 : Int) ≤ a3.toInt ∧ a3.toInt ≤ (1 : Int))) := hi37773
  have h37772 : 0 ≤ r37770.toInt ∧ r37770.toInt ≤ 1 := h37772
  refine b_if_eq C 25 dX12_average_12 (by decide) (fun h37775 => ?_) (fun h37775 => ?_)
  · have h37775 : r37770.toInt = 0 := congrArg Int32.toInt h37775
    clear hi37773
    refine g_lv (lv' := []) [] rfl ?_
    exact J25 Y37763 Iy37764 Xz37768 W37767 (by omega)
  · have h37775 : r37770.toInt ≠ 0 := ti_ne h37775
    replace hi37773 := hi37773.resolve_left (by omega)
    obtain ⟨b37776, e37777, h37778⟩ := Iy37764.fld (h37769) 10 13 2 rfl
    have hi37774 := (hi37774.resolve_left (by omega)) b37776 e37777
    have hi37774 : 0 < (pI Y37763 b37776 (a1.toInt.toNat)).toInt := hi37774
    have h37779 := Iy37764.arr e37777 rfl (a1.toInt.toNat)
    refine g_iload C dX12_average_15 4 rfl ?_
    refine g_iconst (v := 0) C dX12_average_17 (by decide) ?_
    refine g_iconst (v := 1) C dX12_average_18 (by decide) ?_
    refine g_callSI (b := 0) (ci := 0) (rest := []) C ms_X12_178 [.int a4, .int 0, .int 1] (s_X12_within Iy37764.1) rfl rfl (by decide) (Nat.le_of_ble_eq_true rfl) (by decide) dX12_average_19 (fun r37780 Y37781 h37782 => ?_)
    obtain ⟨rfl, h37782⟩ := h37782
    obtain ⟨h37782, hi37783⟩ := h37782
    have hi37783 : r37780.toInt = 0 ∨ (0 ≤ a4.toInt ∧ a4.toInt ≤ 1) := hi37783
    have h37782 : 0 ≤ r37780.toInt ∧ r37780.toInt ≤ 1 := h37782
    refine b_if_ne C 29 dX12_average_22 (by decide) (fun h37784 => ?_) (fun h37784 => ?_)
    · have h37784 : r37780.toInt ≠ 0 := ti_ne h37784
      replace hi37783 := hi37783.resolve_left (by omega)
      refine g_aload_n C dX12_average_29 rfl 0 rfl ?_
      refine g_iload_n C dX12_average_30 rfl 1 rfl ?_
      refine g_iload_n C dX12_average_31 rfl 2 rfl ?_
      refine g_callVV (rest := []) C mv_X12_380 [.int a1, .int a2] (s_X12_keepsSets Iy37764 (by omega) (by omega) (fun b9 e9 => by rw [e37777] at e9; cases e9; show 1 ≤ (pI Y37763 b37776 (a1.toInt.toNat)).toInt ∧ (pI Y37763 b37776 (a1.toInt.toNat)).toInt ≤ 16; omega) W37767) (h37769).1 (h37769).2 rfl rfl (by decide) (Nat.le_of_ble_eq_true rfl) (by decide) dX12_average_32 (fun Y37786 h37787 => ?_)
      obtain ⟨Iy37788, Xy37789, W37790⟩ := h37787
      have q37791 := Xy37789.keepF 0 (by decide)
      have q37792 := Xy37789.keepA e37777 (by decide) rfl (a1.toInt.toNat)
      have Xz37793 : EM [0, 28, 29, 30, 31, 33, 34, 35, 36, 37, 38, 43] a0 P Y37786 := EM.tr ha0 Xz37768 (Xy37789.mono (by decide))
      have e37794 := Xy37789.ref h37769 (by decide) e37777
      have h37795 := Xy37789.at h37769
      have h37796 := Xy37789.ar h37778
      refine g_aload_n C dX12_average_35 rfl 0 rfl ?_
      refine g_iload_n C dX12_average_36 rfl 1 rfl ?_
      refine g_iload_n C dX12_average_37 rfl 2 rfl ?_
      refine g_iload_n C dX12_average_38 rfl 2 rfl ?_
      refine g_iload_n C dX12_average_39 rfl 3 rfl ?_
      refine g_callVI (rest := []) C mv_X12_383 [.int a1, .int a2, .int a2, .int a3] (s_X12_chancesOf Iy37788 (by omega) (by omega) (fun b9 e9 => by rw [e37794] at e9; cases e9; show 1 ≤ (pI Y37786 b37776 (a1.toInt.toNat)).toInt ∧ (pI Y37786 b37776 (a1.toInt.toNat)).toInt ≤ 16; omega) W37790) (h37795).1 (h37795).2 rfl rfl (by decide) (Nat.le_of_ble_eq_true rfl) (by decide) dX12_average_40 (fun r37797 Y37798 h37799 => ?_)
      obtain ⟨Iy37800, Xy37801, W37802, h37799⟩ := h37799
      have q37803 := Xy37801.keepF 0 (by decide)
      have q37804 := Xy37801.keepA e37794 (by decide) rfl (a1.toInt.toNat)
      have Xz37805 : EM [0, 28, 29, 30, 31, 33, 34, 35, 36, 37, 38, 43] a0 P Y37798 := EM.tr ha0 Xz37793 (Xy37801.mono (by decide))
      have e37806 := Xy37801.ref h37795 (by decide) e37794
      have h37807 := Xy37801.at h37795
      have h37808 := Xy37801.ar h37796
      have h37799 : True := h37799
      have u37810 := ti_rng r37797
      refine b_if_ne C 50 dX12_average_43 (by decide) (fun h37809 => ?_) (fun h37809 => ?_)
      · have h37809 : r37797.toInt ≠ 0 := ti_ne h37809
        refine g_lconst (v := 0) C dX12_average_50 (by decide) ?_
        refine g_lstore (lv' := [(5, .long 0), (0, .ref a0), (1, .int a1), (2, .int a2), (3, .int a3), (4, .int a4)]) C dX12_average_51 (by decide) rfl ?_
        refine g_lconst (v := 1) C dX12_average_53 (by decide) ?_
        refine g_lstore (lv' := [(7, .long 1), (5, .long 0), (0, .ref a0), (1, .int a1), (2, .int a2), (3, .int a3), (4, .int a4)]) C dX12_average_54 (by decide) rfl ?_
        refine g_iconst (v := 0) C dX12_average_56 (by decide) ?_
        have hav := av_0
        refine g_istore (lv' := [(9, .int 0), (7, .long 1), (5, .long 0), (0, .ref a0), (1, .int a1), (2, .int a2), (3, .int a3), (4, .int a4)]) C dX12_average_57 (by decide) rfl ?_
        refine g_lv (lv' := [(0, .ref a0), (1, .int a1), (2, .int a2), (3, .int a3), (4, .int a4), (5, .long 0), (7, .long 1), (9, .int 0)]) [3, 4, 5, 6, 7, 2, 1, 0] rfl ?_
        exact J59 _ Y37798 0 1 0 (Nat.lt_succ_self _) Iy37800 Xz37805 W37802 (by omega) (by omega) (by omega) (by omega) (by decide) (by omega) (fun b9 e9 => by rw [e37806] at e9; cases e9; omega) (by show avI 0 1 0; assumption)
      · have h37809 : r37797.toInt = 0 := congrArg Int32.toInt h37809
        refine g_ldc2 (v := -1) C kl_X12_390 dX12_average_46 ?_
        refine g_topl (fun l37811 el37811 => ?_)
        have hz_l37811 : ¬ l37811 = 0 := by rw [el37811]; decide
        exact ret _ _ _ _ _ _ dX12_average_49 (by decide) (by decide) ⟨Iy37800, Xz37805, W37802, trivial⟩
    · have h37784 : r37780.toInt = 0 := congrArg Int32.toInt h37784
      clear hi37783
      refine g_lv (lv' := []) [] rfl ?_
      exact J25 Y37763 Iy37764 Xz37768 W37767 (by omega)
theorem dX12_away_0 : decode cX12_away 0 = .ok (.aload_n 0, 1) := by decide +kernel
theorem dX12_away_1 : decode cX12_away 1 = .ok (.iconst 0, 1) := by decide +kernel
theorem dX12_away_2 : decode cX12_away 2 = .ok (.putfield 1, 3) := by decide +kernel
theorem dX12_away_5 : decode cX12_away 5 = .ok (.aload_n 0, 1) := by decide +kernel
theorem dX12_away_6 : decode cX12_away 6 = .ok (.iload_n 1, 1) := by decide +kernel
theorem dX12_away_7 : decode cX12_away 7 = .ok (.iload_n 2, 1) := by decide +kernel
theorem dX12_away_8 : decode cX12_away 8 = .ok (.invokevirtual 298, 3) := by decide +kernel
theorem dX12_away_11 : decode cX12_away 11 = .ok (.ifCond .ne 5, 3) := by decide +kernel
theorem dX12_away_16 : decode cX12_away 16 = .ok (.aload_n 0, 1) := by decide +kernel
theorem dX12_away_17 : decode cX12_away 17 = .ok (.iload_n 1, 1) := by decide +kernel
theorem dX12_away_18 : decode cX12_away 18 = .ok (.iload_n 2, 1) := by decide +kernel
theorem dX12_away_19 : decode cX12_away 19 = .ok (.invokevirtual 185, 3) := by decide +kernel
theorem dX12_takesOut_0 : decode cX12_takesOut 0 = .ok (.aload_n 0, 1) := by decide +kernel
theorem dX12_takesOut_1 : decode cX12_takesOut 1 = .ok (.getfield 69, 3) := by decide +kernel
theorem dX12_takesOut_4 : decode cX12_takesOut 4 = .ok (.iload_n 1, 1) := by decide +kernel
theorem dX12_takesOut_5 : decode cX12_takesOut 5 = .ok (.dup2, 1) := by decide +kernel
theorem dX12_takesOut_6 : decode cX12_takesOut 6 = .ok (.iaload, 1) := by decide +kernel
theorem dX12_takesOut_7 : decode cX12_takesOut 7 = .ok (.iconst 1, 1) := by decide +kernel
theorem dX12_takesOut_8 : decode cX12_takesOut 8 = .ok (.isub, 1) := by decide +kernel
theorem dX12_takesOut_9 : decode cX12_takesOut 9 = .ok (.iastore, 1) := by decide +kernel
theorem dX12_takesOut_10 : decode cX12_takesOut 10 = .ok (.iload_n 2, 1) := by decide +kernel
theorem dX12_takesOut_11 : decode cX12_takesOut 11 = .ok (.istore_n 3, 1) := by decide +kernel
theorem dX12_takesOut_12 : decode cX12_takesOut 12 = .ok (.iload_n 3, 1) := by decide +kernel
theorem dX12_takesOut_13 : decode cX12_takesOut 13 = .ok (.aload_n 0, 1) := by decide +kernel
theorem dX12_takesOut_14 : decode cX12_takesOut 14 = .ok (.getfield 69, 3) := by decide +kernel
theorem dX12_takesOut_17 : decode cX12_takesOut 17 = .ok (.iload_n 1, 1) := by decide +kernel
theorem dX12_takesOut_18 : decode cX12_takesOut 18 = .ok (.iaload, 1) := by decide +kernel
theorem dX12_takesOut_19 : decode cX12_takesOut 19 = .ok (.if_icmp .ge 27, 3) := by decide +kernel
theorem dX12_takesOut_22 : decode cX12_takesOut 22 = .ok (.aload_n 0, 1) := by decide +kernel
theorem dX12_takesOut_23 : decode cX12_takesOut 23 = .ok (.bipush 40, 2) := by decide +kernel
theorem dX12_takesOut_25 : decode cX12_takesOut 25 = .ok (.iload_n 1, 1) := by decide +kernel
theorem dX12_takesOut_26 : decode cX12_takesOut 26 = .ok (.imul, 1) := by decide +kernel
theorem dX12_takesOut_27 : decode cX12_takesOut 27 = .ok (.iload_n 3, 1) := by decide +kernel
theorem dX12_takesOut_28 : decode cX12_takesOut 28 = .ok (.iadd, 1) := by decide +kernel
theorem dX12_takesOut_29 : decode cX12_takesOut 29 = .ok (.iconst 1, 1) := by decide +kernel
theorem dX12_takesOut_30 : decode cX12_takesOut 30 = .ok (.iadd, 1) := by decide +kernel
theorem dX12_takesOut_31 : decode cX12_takesOut 31 = .ok (.bipush 40, 2) := by decide +kernel
theorem dX12_takesOut_33 : decode cX12_takesOut 33 = .ok (.iload_n 1, 1) := by decide +kernel
theorem dX12_takesOut_34 : decode cX12_takesOut 34 = .ok (.imul, 1) := by decide +kernel
theorem dX12_takesOut_35 : decode cX12_takesOut 35 = .ok (.iload_n 3, 1) := by decide +kernel
theorem dX12_takesOut_36 : decode cX12_takesOut 36 = .ok (.iadd, 1) := by decide +kernel
theorem dX12_takesOut_37 : decode cX12_takesOut 37 = .ok (.invokevirtual 274, 3) := by decide +kernel
theorem dX12_takesOut_46 : decode cX12_takesOut 46 = .ok (.return_, 1) := by decide +kernel
theorem dX12_moves_0 : decode cX12_moves 0 = .ok (.aload_n 0, 1) := by decide +kernel
theorem dX12_moves_1 : decode cX12_moves 1 = .ok (.getfield 72, 3) := by decide +kernel
theorem dX12_moves_4 : decode cX12_moves 4 = .ok (.iload_n 2, 1) := by decide +kernel
theorem dX12_moves_5 : decode cX12_moves 5 = .ok (.aload_n 0, 1) := by decide +kernel
theorem dX12_moves_6 : decode cX12_moves 6 = .ok (.getfield 72, 3) := by decide +kernel
theorem dX12_moves_9 : decode cX12_moves 9 = .ok (.iload_n 1, 1) := by decide +kernel
theorem dX12_moves_10 : decode cX12_moves 10 = .ok (.iaload, 1) := by decide +kernel
theorem dX12_moves_11 : decode cX12_moves 11 = .ok (.iastore, 1) := by decide +kernel
theorem dX12_moves_12 : decode cX12_moves 12 = .ok (.aload_n 0, 1) := by decide +kernel
theorem dX12_moves_13 : decode cX12_moves 13 = .ok (.getfield 75, 3) := by decide +kernel
theorem dX12_moves_16 : decode cX12_moves 16 = .ok (.iload_n 2, 1) := by decide +kernel
theorem dX12_moves_17 : decode cX12_moves 17 = .ok (.aload_n 0, 1) := by decide +kernel
theorem dX12_moves_18 : decode cX12_moves 18 = .ok (.getfield 75, 3) := by decide +kernel
theorem dX12_moves_21 : decode cX12_moves 21 = .ok (.iload_n 1, 1) := by decide +kernel
theorem dX12_moves_22 : decode cX12_moves 22 = .ok (.iaload, 1) := by decide +kernel
theorem dX12_moves_23 : decode cX12_moves 23 = .ok (.iastore, 1) := by decide +kernel
theorem dX12_moves_24 : decode cX12_moves 24 = .ok (.aload_n 0, 1) := by decide +kernel
theorem dX12_moves_25 : decode cX12_moves 25 = .ok (.getfield 78, 3) := by decide +kernel
theorem dX12_moves_28 : decode cX12_moves 28 = .ok (.iload_n 2, 1) := by decide +kernel
theorem dX12_moves_29 : decode cX12_moves 29 = .ok (.aload_n 0, 1) := by decide +kernel
theorem dX12_moves_30 : decode cX12_moves 30 = .ok (.getfield 78, 3) := by decide +kernel
theorem dX12_moves_33 : decode cX12_moves 33 = .ok (.iload_n 1, 1) := by decide +kernel
theorem dX12_moves_34 : decode cX12_moves 34 = .ok (.iaload, 1) := by decide +kernel
theorem dX12_moves_35 : decode cX12_moves 35 = .ok (.iastore, 1) := by decide +kernel
theorem dX12_moves_36 : decode cX12_moves 36 = .ok (.aload_n 0, 1) := by decide +kernel
theorem dX12_moves_37 : decode cX12_moves 37 = .ok (.getfield 81, 3) := by decide +kernel
theorem dX12_moves_40 : decode cX12_moves 40 = .ok (.iload_n 2, 1) := by decide +kernel
theorem dX12_moves_41 : decode cX12_moves 41 = .ok (.aload_n 0, 1) := by decide +kernel
theorem dX12_moves_42 : decode cX12_moves 42 = .ok (.getfield 81, 3) := by decide +kernel
theorem dX12_moves_45 : decode cX12_moves 45 = .ok (.iload_n 1, 1) := by decide +kernel
theorem dX12_moves_46 : decode cX12_moves 46 = .ok (.iaload, 1) := by decide +kernel
theorem dX12_moves_47 : decode cX12_moves 47 = .ok (.iastore, 1) := by decide +kernel
theorem dX12_moves_48 : decode cX12_moves 48 = .ok (.aload_n 0, 1) := by decide +kernel
theorem dX12_moves_49 : decode cX12_moves 49 = .ok (.getfield 84, 3) := by decide +kernel
theorem dX12_moves_52 : decode cX12_moves 52 = .ok (.iload_n 2, 1) := by decide +kernel
theorem dX12_moves_53 : decode cX12_moves 53 = .ok (.aload_n 0, 1) := by decide +kernel
theorem dX12_moves_54 : decode cX12_moves 54 = .ok (.getfield 84, 3) := by decide +kernel
theorem dX12_moves_57 : decode cX12_moves 57 = .ok (.iload_n 1, 1) := by decide +kernel
theorem dX12_moves_58 : decode cX12_moves 58 = .ok (.iaload, 1) := by decide +kernel
theorem dX12_moves_59 : decode cX12_moves 59 = .ok (.iastore, 1) := by decide +kernel
theorem dX12_moves_60 : decode cX12_moves 60 = .ok (.return_, 1) := by decide +kernel
set_option maxHeartbeats 4000000 in
set_option maxRecDepth 100000 in
theorem s_X12_moves {P : PP} {a0 : Nat} {a1 : Int32} {a2 : Int32} (I : IM P a0) (ha1 : 0 ≤ a1.toInt ∧ a1.toInt ≤ 799) (ha2 : 0 ≤ a2.toInt ∧ a2.toInt ≤ 799) (hW : okc P a0 (a1.toInt.toNat)) : CtrV yX12_moves cX12_moves 3 none ({ frames := 1, cells := 0, slots := 0, locals := 64 } : Room) 0 0 P [.ref a0, .int a1, .int a2] (fun P2 => IM P2 a0 ∧ EM [21, 22, 23, 24, 25] a0 P P2 ∧ OW P P2 a0 (a2.toInt.toNat)) := by
  refine enV (lv := [(0, .ref a0), (1, .int a1), (2, .int a2)]) (by decide) (Nat.le_of_ble_eq_true rfl) rfl (fun E D cy C Ci0 ret => ?_)
  have ha0 := I.2.1
  have W0 : OW P P a0 (a1.toInt.toNat) := ⟨hW, fun _ h9 => h9⟩
  refine g_aload_n C dX12_moves_0 rfl 0 rfl ?_
  obtain ⟨b37951, e37952, h37953⟩ := I.fld (ha0) 21 13 800 rfl
  refine g_getR C fi_X12_72 rfl e37952 (ha0).1 (ha0).2 dX12_moves_1 ?_
  refine g_iload_n C dX12_moves_4 rfl 2 rfl ?_
  refine g_aload_n C dX12_moves_5 rfl 0 rfl ?_
  refine g_getR C fi_X12_72 rfl e37952 (ha0).1 (ha0).2 dX12_moves_6 ?_
  refine g_iload_n C dX12_moves_9 rfl 1 rfl ?_
  refine g_iald (j := (a1.toInt.toNat)) C h37953.1 h37953.2.1 (ix_in h37953.2.2 (by omega)) dX12_moves_10 ?_
  refine g_iast (j := (a2.toInt.toNat)) C h37953.1 h37953.2.1 (ix_in h37953.2.2 (by omega)) dX12_moves_11 ?_
  refine gqW (ks := [21]) (I.setA e37952 h37953 (by decide) (arOk.none rfl)) (EM.setA I e37952 rfl (by decide)) (fun Y37954 Iy37955 Xy37956 w37957  => ?_)
  have w37957 : (pI Y37954 b37951 (a2.toInt.toNat)).toInt = (pI P b37951 (a1.toInt.toNat)).toInt := w37957
  have W37958 := W0.keep I Xy37956 (by decide) (by decide) (by decide) (by decide)
  have Xz37959 : EM [21, 22, 23, 24, 25] a0 P Y37954 := Xy37956.mono (by decide)
  have e37960 := Xy37956.ref ha0 (by decide) e37952
  have h37961 := Xy37956.at ha0
  have h37962 := Xy37956.ar h37953
  refine g_aload_n C dX12_moves_12 rfl 0 rfl ?_
  obtain ⟨b37963, e37964, h37965⟩ := Iy37955.fld (h37961) 22 13 800 rfl
  refine g_getR C fi_X12_75 rfl e37964 (h37961).1 (h37961).2 dX12_moves_13 ?_
  refine g_iload_n C dX12_moves_16 rfl 2 rfl ?_
  refine g_aload_n C dX12_moves_17 rfl 0 rfl ?_
  refine g_getR C fi_X12_75 rfl e37964 (h37961).1 (h37961).2 dX12_moves_18 ?_
  refine g_iload_n C dX12_moves_21 rfl 1 rfl ?_
  refine g_iald (j := (a1.toInt.toNat)) C h37965.1 h37965.2.1 (ix_in h37965.2.2 (by omega)) dX12_moves_22 ?_
  have h37966 := Iy37955.arr e37964 rfl (a1.toInt.toNat)
  refine g_iast (j := (a2.toInt.toNat)) C h37965.1 h37965.2.1 (ix_in h37965.2.2 (by omega)) dX12_moves_23 ?_
  refine gqX (ks := [22]) (W := (fun Y9 => OW P Y9 a0 (a2.toInt.toNat))) (Iy37955.setA e37964 h37965 (by decide) (arOk.of rfl (by omega))) (EM.setA Iy37955 e37964 rfl (by decide)) (W37958.mv Iy37955 e37964) (fun Y37967 Iy37968 Xy37969 w37970 W37971 => ?_)
  have w37970 : (pI Y37967 b37963 (a2.toInt.toNat)).toInt = (pI Y37954 b37963 (a1.toInt.toNat)).toInt := w37970
  have q37972 := Xy37969.keepA e37960 (by decide) rfl (a2.toInt.toNat)
  have Xz37973 : EM [21, 22, 23, 24, 25] a0 P Y37967 := EM.tr ha0 Xz37959 (Xy37969.mono (by decide))
  have e37974 := Xy37969.ref h37961 (by decide) e37960
  have e37975 := Xy37969.ref h37961 (by decide) e37964
  have h37976 := Xy37969.at h37961
  have h37977 := Xy37969.ar h37962
  have h37978 := Xy37969.ar h37965
  refine g_aload_n C dX12_moves_24 rfl 0 rfl ?_
  obtain ⟨b37979, e37980, h37981⟩ := Iy37968.fld (h37976) 23 13 800 rfl
  refine g_getR C fi_X12_78 rfl e37980 (h37976).1 (h37976).2 dX12_moves_25 ?_
  refine g_iload_n C dX12_moves_28 rfl 2 rfl ?_
  refine g_aload_n C dX12_moves_29 rfl 0 rfl ?_
  refine g_getR C fi_X12_78 rfl e37980 (h37976).1 (h37976).2 dX12_moves_30 ?_
  refine g_iload_n C dX12_moves_33 rfl 1 rfl ?_
  refine g_iald (j := (a1.toInt.toNat)) C h37981.1 h37981.2.1 (ix_in h37981.2.2 (by omega)) dX12_moves_34 ?_
  refine g_iast (j := (a2.toInt.toNat)) C h37981.1 h37981.2.1 (ix_in h37981.2.2 (by omega)) dX12_moves_35 ?_
  refine gqW (ks := [23]) (Iy37968.setA e37980 h37981 (by decide) (arOk.none rfl)) (EM.setA Iy37968 e37980 rfl (by decide)) (fun Y37982 Iy37983 Xy37984 w37985  => ?_)
  have w37985 : (pI Y37982 b37979 (a2.toInt.toNat)).toInt = (pI Y37967 b37979 (a1.toInt.toNat)).toInt := w37985
  have q37986 := Xy37984.keepA e37974 (by decide) rfl (a2.toInt.toNat)
  have q37987 := Xy37984.keepA e37975 (by decide) rfl (a2.toInt.toNat)
  have W37988 := W37971.keep Iy37968 Xy37984 (by decide) (by decide) (by decide) (by decide)
  have Xz37989 : EM [21, 22, 23, 24, 25] a0 P Y37982 := EM.tr ha0 Xz37973 (Xy37984.mono (by decide))
  have e37990 := Xy37984.ref h37976 (by decide) e37974
  have e37991 := Xy37984.ref h37976 (by decide) e37975
  have e37992 := Xy37984.ref h37976 (by decide) e37980
  have h37993 := Xy37984.at h37976
  have h37994 := Xy37984.ar h37977
  have h37995 := Xy37984.ar h37978
  have h37996 := Xy37984.ar h37981
  refine g_aload_n C dX12_moves_36 rfl 0 rfl ?_
  obtain ⟨b37997, e37998, h37999⟩ := Iy37983.fld (h37993) 24 13 800 rfl
  refine g_getR C fi_X12_81 rfl e37998 (h37993).1 (h37993).2 dX12_moves_37 ?_
  refine g_iload_n C dX12_moves_40 rfl 2 rfl ?_
  refine g_aload_n C dX12_moves_41 rfl 0 rfl ?_
  refine g_getR C fi_X12_81 rfl e37998 (h37993).1 (h37993).2 dX12_moves_42 ?_
  refine g_iload_n C dX12_moves_45 rfl 1 rfl ?_
  refine g_iald (j := (a1.toInt.toNat)) C h37999.1 h37999.2.1 (ix_in h37999.2.2 (by omega)) dX12_moves_46 ?_
  refine g_iast (j := (a2.toInt.toNat)) C h37999.1 h37999.2.1 (ix_in h37999.2.2 (by omega)) dX12_moves_47 ?_
  refine gqW (ks := [24]) (Iy37983.setA e37998 h37999 (by decide) (arOk.none rfl)) (EM.setA Iy37983 e37998 rfl (by decide)) (fun Y38000 Iy38001 Xy38002 w38003  => ?_)
  have w38003 : (pI Y38000 b37997 (a2.toInt.toNat)).toInt = (pI Y37982 b37997 (a1.toInt.toNat)).toInt := w38003
  have q38004 := Xy38002.keepA e37990 (by decide) rfl (a2.toInt.toNat)
  have q38005 := Xy38002.keepA e37991 (by decide) rfl (a2.toInt.toNat)
  have q38006 := Xy38002.keepA e37992 (by decide) rfl (a2.toInt.toNat)
  have W38007 := W37988.keep Iy37983 Xy38002 (by decide) (by decide) (by decide) (by decide)
  have Xz38008 : EM [21, 22, 23, 24, 25] a0 P Y38000 := EM.tr ha0 Xz37989 (Xy38002.mono (by decide))
  have e38009 := Xy38002.ref h37993 (by decide) e37990
  have e38010 := Xy38002.ref h37993 (by decide) e37991
  have e38011 := Xy38002.ref h37993 (by decide) e37992
  have e38012 := Xy38002.ref h37993 (by decide) e37998
  have h38013 := Xy38002.at h37993
  have h38014 := Xy38002.ar h37994
  have h38015 := Xy38002.ar h37995
  have h38016 := Xy38002.ar h37996
  have h38017 := Xy38002.ar h37999
  refine g_aload_n C dX12_moves_48 rfl 0 rfl ?_
  obtain ⟨b38018, e38019, h38020⟩ := Iy38001.fld (h38013) 25 13 800 rfl
  refine g_getR C fi_X12_84 rfl e38019 (h38013).1 (h38013).2 dX12_moves_49 ?_
  refine g_iload_n C dX12_moves_52 rfl 2 rfl ?_
  refine g_aload_n C dX12_moves_53 rfl 0 rfl ?_
  refine g_getR C fi_X12_84 rfl e38019 (h38013).1 (h38013).2 dX12_moves_54 ?_
  refine g_iload_n C dX12_moves_57 rfl 1 rfl ?_
  refine g_iald (j := (a1.toInt.toNat)) C h38020.1 h38020.2.1 (ix_in h38020.2.2 (by omega)) dX12_moves_58 ?_
  refine g_iast (j := (a2.toInt.toNat)) C h38020.1 h38020.2.1 (ix_in h38020.2.2 (by omega)) dX12_moves_59 ?_
  refine gqW (ks := [25]) (Iy38001.setA e38019 h38020 (by decide) (arOk.none rfl)) (EM.setA Iy38001 e38019 rfl (by decide)) (fun Y38021 Iy38022 Xy38023 w38024  => ?_)
  have w38024 : (pI Y38021 b38018 (a2.toInt.toNat)).toInt = (pI Y38000 b38018 (a1.toInt.toNat)).toInt := w38024
  have q38025 := Xy38023.keepA e38009 (by decide) rfl (a2.toInt.toNat)
  have q38026 := Xy38023.keepA e38010 (by decide) rfl (a2.toInt.toNat)
  have q38027 := Xy38023.keepA e38011 (by decide) rfl (a2.toInt.toNat)
  have q38028 := Xy38023.keepA e38012 (by decide) rfl (a2.toInt.toNat)
  have W38029 := W38007.keep Iy38001 Xy38023 (by decide) (by decide) (by decide) (by decide)
  have Xz38030 : EM [21, 22, 23, 24, 25] a0 P Y38021 := EM.tr ha0 Xz38008 (Xy38023.mono (by decide))
  have e38031 := Xy38023.ref h38013 (by decide) e38009
  have e38032 := Xy38023.ref h38013 (by decide) e38010
  have e38033 := Xy38023.ref h38013 (by decide) e38011
  have e38034 := Xy38023.ref h38013 (by decide) e38012
  have e38035 := Xy38023.ref h38013 (by decide) e38019
  have h38036 := Xy38023.at h38013
  have h38037 := Xy38023.ar h38014
  have h38038 := Xy38023.ar h38015
  have h38039 := Xy38023.ar h38016
  have h38040 := Xy38023.ar h38017
  have h38041 := Xy38023.ar h38020
  exact ret _ _ _ _ _ dX12_moves_60 (by decide) (by decide) ⟨Iy38022, Xz38030, W38029⟩
theorem dX12_takesOut_40 : decode cX12_takesOut 40 = .ok (.iinc 3 1, 3) := by decide +kernel
theorem dX12_takesOut_43 : decode cX12_takesOut 43 = .ok (.goto (-31), 3) := by decide +kernel
set_option maxHeartbeats 4000000 in
set_option maxRecDepth 100000 in
theorem s_X12_takesOut {P : PP} {a0 : Nat} {a1 : Int32} {a2 : Int32} (I : IM P a0) (ha1 : 0 ≤ a1.toInt ∧ a1.toInt ≤ 3) (ha2 : 0 ≤ a2.toInt ∧ a2.toInt ≤ 39) (hf0 : ∀ b, pR P a0 20 = some b → 1 ≤ (pI P b (a1.toInt.toNat)).toInt ∧ (pI P b (a1.toInt.toNat)).toInt ≤ 40) (hW : MW P a0) : CtrV yX12_takesOut cX12_takesOut 4 none ({ frames := 2, cells := 0, slots := 0, locals := 128 } : Room) 0 0 P [.ref a0, .int a1, .int a2] (fun P2 => IM P2 a0 ∧ EM [20, 21, 22, 23, 24, 25] a0 P P2 ∧ MW P2 a0 ∧ (∀ b, pR P a0 20 = some b → (pI P2 b (a1.toInt.toNat)).toInt = (pI P b (a1.toInt.toNat)).toInt - 1)) := by
  refine enV (lv := [(0, .ref a0), (1, .int a1), (2, .int a2)]) (by decide) (Nat.le_of_ble_eq_true rfl) rfl (fun E D cy C Ci0 ret => ?_)
  have ha0 := I.2.1
  have J12 : ∀ (n12 : Nat) (P12 : PP) (v12_3 : Int32), (39 - v12_3.toInt).toNat < n12 → (IM P12 a0) → (EM [20, 21, 22, 23, 24, 25] a0 P P12) → (MQx P12 a0 (szf P a0) 99) → (0 ≤ v12_3.toInt ∧ v12_3.toInt ≤ 39) → (∀ b, pR P12 a0 20 = some b → 0 ≤ (pI P12 b (a1.toInt.toNat)).toInt ∧ (pI P12 b (a1.toInt.toNat)).toInt ≤ 39) → (∀ b920, pR P12 a0 20 = some b920 → (pI P12 b920 (a1.toInt.toNat)).toInt = (pI P b920 (a1.toInt.toNat)).toInt - 1) → G E ({ frames := 2, cells := 0, slots := 0, locals := 128 } : Room) D cy 4 P12 0 0 12 [(0, .ref a0), (1, .int a1), (3, .int v12_3)] [] := by
    intro n12
    induction n12 with
    | zero => intro P12 v12_3 hm12 I12 X12 W12 hv12_3 hq12_0 rel12_0; omega
    | succ n12 ih12 =>
      intro P12 v12_3 hm12 I12 X12 W12 hv12_3 hq12_0 rel12_0
      have h38087 := X12.at ha0
      obtain ⟨b38088, e38089, h38090⟩ := I12.fld (h38087) 20 13 20 rfl
      have hq12_0 := hq12_0 b38088 e38089
      have rel12_0 := rel12_0 b38088 e38089
      have h38091 := I.arr (EM.refB X12 ha0 e38089) rfl (a1.toInt.toNat)
      refine g_iload_n C dX12_takesOut_12 rfl 2 rfl ?_
      refine g_aload_n C dX12_takesOut_13 rfl 0 rfl ?_
      refine g_getR C fi_X12_69 rfl e38089 (h38087).1 (h38087).2 dX12_takesOut_14 ?_
      refine g_iload_n C dX12_takesOut_17 rfl 1 rfl ?_
      refine g_iald (j := (a1.toInt.toNat)) C h38090.1 h38090.2.1 (ix_in h38090.2.2 (by omega)) dX12_takesOut_18 ?_
      refine b_icmp_ge C 46 dX12_takesOut_19 (by decide) (fun h38092 => ?_) (fun h38092 => ?_)
      · have h38092 : (pI P12 b38088 (a1.toInt.toNat)).toInt ≤ v12_3.toInt := h38092
        have W38093 := W12.back (by decide)
        exact ret _ _ _ _ _ dX12_takesOut_46 (by decide) (by decide) ⟨I12, X12, W38093, (fun b9 e9 => by have e8 := EM.ref X12 ha0 (by decide) e9; rw [e38089] at e8; cases e8; show (pI P12 b38088 (a1.toInt.toNat)).toInt = (pI P b38088 (a1.toInt.toNat)).toInt - 1; omega)⟩
      · have h38092 : v12_3.toInt < (pI P12 b38088 (a1.toInt.toNat)).toInt := h38092
        refine g_aload_n C dX12_takesOut_22 rfl 0 rfl ?_
        refine g_bipush (v := 40) C dX12_takesOut_23 (by decide) ?_
        refine g_iload_n C dX12_takesOut_25 rfl 1 rfl ?_
        refine s_imul C dX12_takesOut_26 (by show -2147483648 ≤ 40 * a1.toInt ∧ 40 * a1.toInt ≤ 2147483647; omega) (fun z38094 h38095 => ?_)
        have h38095 : z38094.toInt = 40 * a1.toInt := h38095
        refine g_iload_n C dX12_takesOut_27 rfl 2 rfl ?_
        refine s_iadd C dX12_takesOut_28 (by show -2147483648 ≤ z38094.toInt + v12_3.toInt ∧ z38094.toInt + v12_3.toInt ≤ 2147483647; omega) (fun z38096 h38097 => ?_)
        have h38097 : z38096.toInt = z38094.toInt + v12_3.toInt := h38097
        refine g_iconst (v := 1) C dX12_takesOut_29 (by decide) ?_
        refine s_iadd C dX12_takesOut_30 (by show -2147483648 ≤ z38096.toInt + 1 ∧ z38096.toInt + 1 ≤ 2147483647; omega) (fun z38098 h38099 => ?_)
        have h38099 : z38098.toInt = z38096.toInt + 1 := h38099
        refine g_bipush (v := 40) C dX12_takesOut_31 (by decide) ?_
        refine g_iload_n C dX12_takesOut_33 rfl 1 rfl ?_
        refine s_imul C dX12_takesOut_34 (by show -2147483648 ≤ 40 * a1.toInt ∧ 40 * a1.toInt ≤ 2147483647; omega) (fun z38100 h38101 => ?_)
        have h38101 : z38100.toInt = 40 * a1.toInt := h38101
        refine g_iload_n C dX12_takesOut_35 rfl 2 rfl ?_
        refine s_iadd C dX12_takesOut_36 (by show -2147483648 ≤ z38100.toInt + v12_3.toInt ∧ z38100.toInt + v12_3.toInt ≤ 2147483647; omega) (fun z38102 h38103 => ?_)
        have h38103 : z38102.toInt = z38100.toInt + v12_3.toInt := h38103
        refine g_callVV (rest := []) C mv_X12_274 [.int z38098, .int z38102] (s_X12_moves I12 (by omega) (by omega) (by have q9 := szf_at (EM.refB X12 ha0 e38089) (a1.toInt.toNat); have q8 := W12.2.1 (a1.toInt.toNat) (v12_3.toInt.toNat + 1) (by omega) (by omega) (by omega); rw [show z38098.toInt.toNat = 40 * a1.toInt.toNat + (v12_3.toInt.toNat + 1) by omega]; exact q8)) (h38087).1 (h38087).2 rfl rfl (by decide) (Nat.le_of_ble_eq_true rfl) (by decide) dX12_takesOut_37 (fun Y38105 h38106 => ?_)
        obtain ⟨Iy38107, Xy38108, W38109⟩ := h38106
        have q38110 := Xy38108.keepA e38089 (by decide) rfl (a1.toInt.toNat)
        have Xz38111 : EM [20, 21, 22, 23, 24, 25] a0 P Y38105 := EM.tr ha0 X12 (Xy38108.mono (by decide))
        have e38112 := Xy38108.ref h38087 (by decide) e38089
        have h38113 := Xy38108.at h38087
        have h38114 := Xy38108.ar h38090
        have W38115 := W12.mv I12 Xy38108 (by decide) (by decide) (by decide) W38109
        refine s_iinc (lv0 := [(0, .ref a0), (1, .int a1)]) (m := 1) C dX12_takesOut_40 2 rfl (by decide) rfl (by decide) (by omega) (fun z38116 h38117 => ?_)
        have h38117 : z38116.toInt = v12_3.toInt + 1 := h38117
        refine g_goto C 12 dX12_takesOut_43 (by decide) ?_
        refine g_lv (lv' := [(0, .ref a0), (1, .int a1), (3, .int z38116)]) [1, 2, 0] rfl ?_
        exact ih12 Y38105 z38116 (by omega) Iy38107 Xz38111 W38115 (by omega) (fun b9 e9 => by rw [e38112] at e9; cases e9; omega) (by intro b920 e920; rw [e38112] at e920; cases e920; show (pI Y38105 b38088 (a1.toInt.toNat)).toInt = (pI P b38088 (a1.toInt.toNat)).toInt - 1; omega)
  obtain ⟨b38118, e38119, h38120⟩ := I.fld (ha0) 20 13 20 rfl
  have hf0 := hf0 b38118 e38119
  refine g_aload_n C dX12_takesOut_0 rfl 0 rfl ?_
  refine g_getR C fi_X12_69 rfl e38119 (ha0).1 (ha0).2 dX12_takesOut_1 ?_
  refine g_iload_n C dX12_takesOut_4 rfl 1 rfl ?_
  refine g_dup2_11 C dX12_takesOut_5 rfl rfl ?_
  refine g_iald (j := (a1.toInt.toNat)) C h38120.1 h38120.2.1 (ix_in h38120.2.2 (by omega)) dX12_takesOut_6 ?_
  refine g_iconst (v := 1) C dX12_takesOut_7 (by decide) ?_
  refine s_isub C dX12_takesOut_8 (by show -2147483648 ≤ (pI P b38118 (a1.toInt.toNat)).toInt - 1 ∧ (pI P b38118 (a1.toInt.toNat)).toInt - 1 ≤ 2147483647; omega) (fun z38121 h38122 => ?_)
  have h38122 : z38121.toInt = (pI P b38118 (a1.toInt.toNat)).toInt - 1 := h38122
  refine g_iast (j := (a1.toInt.toNat)) C h38120.1 h38120.2.1 (ix_in h38120.2.2 (by omega)) dX12_takesOut_9 ?_
  refine gqX (ks := [20]) (W := (fun Y9 => MQx Y9 a0 (szf P a0) 99)) (I.setA e38119 h38120 (by decide) (arOk.of rfl (by omega))) (EM.setA I e38119 rfl (by decide)) (hW.exm I e38119 (Or.inr (by omega))) (fun Y38123 Iy38124 Xy38125 w38126 W38127 => ?_)
  have w38126 : (pI Y38123 b38118 (a1.toInt.toNat)).toInt = z38121.toInt := w38126
  have Xz38128 : EM [20, 21, 22, 23, 24, 25] a0 P Y38123 := Xy38125.mono (by decide)
  have e38129 := Xy38125.ref ha0 (by decide) e38119
  have h38130 := Xy38125.at ha0
  have h38131 := Xy38125.ar h38120
  refine g_iload_n C dX12_takesOut_10 rfl 2 rfl ?_
  refine g_istore_n (lv' := [(3, .int a2), (0, .ref a0), (1, .int a1), (2, .int a2)]) C dX12_takesOut_11 rfl (by decide) rfl ?_
  refine g_lv (lv' := [(0, .ref a0), (1, .int a1), (3, .int a2)]) [1, 2, 0] rfl ?_
  exact J12 _ Y38123 a2 (Nat.lt_succ_self _) Iy38124 Xz38128 W38127 (by omega) (fun b9 e9 => by rw [e38129] at e9; cases e9; omega) (by intro b920 e920; rw [e38129] at e920; cases e920; show (pI Y38123 b38118 (a1.toInt.toNat)).toInt = (pI P b38118 (a1.toInt.toNat)).toInt - 1; omega)
theorem dX12_away_14 : decode cX12_away 14 = .ok (.iconst 0, 1) := by decide +kernel
theorem dX12_away_15 : decode cX12_away 15 = .ok (.ireturn, 1) := by decide +kernel
theorem dX12_away_22 : decode cX12_away 22 = .ok (.iconst 1, 1) := by decide +kernel
theorem dX12_away_23 : decode cX12_away 23 = .ok (.ireturn, 1) := by decide +kernel
set_option maxHeartbeats 4000000 in
set_option maxRecDepth 100000 in
theorem s_X12_away {P : PP} {a0 : Nat} {a1 : Int32} {a2 : Int32} (I : IM P a0) (hW : MW P a0) : CtrI yX12_away cX12_away 3 (some Jvm.ClassFile.FieldType.boolean) ({ frames := 4, cells := 0, slots := 0, locals := 256 } : Room) 0 0 P [.ref a0, .int a1, .int a2] (fun r P2 => IM P2 a0 ∧ EM [0, 20, 21, 22, 23, 24, 25] a0 P P2 ∧ MW P2 a0 ∧ (0 ≤ r.toInt ∧ r.toInt ≤ 1) ∧ (r.toInt = 0 ∨ (((0 : Int) ≤ a1.toInt ∧ a1.toInt ≤ (3 : Int)) ∧ ((0 : Int) ≤ a2.toInt ∧ a2.toInt ≤ (39 : Int))))) := by
  refine enI (lv := [(0, .ref a0), (1, .int a1), (2, .int a2)]) (by decide) (Nat.le_of_ble_eq_true rfl) rfl (fun E D cy C Ci0 ret => ?_)
  have ha0 := I.2.1
  refine g_aload_n C dX12_away_0 rfl 0 rfl ?_
  refine g_iconst (v := 0) C dX12_away_1 (by decide) ?_
  refine g_putI C fi_X12_1 rfl (ha0).1 (ha0).2 dX12_away_2 ?_
  refine gqW (ks := [0]) (I.setI (rgOk.of rfl (by decide))) (EM.setI I (by decide)) (fun Y38161 Iy38162 Xy38163 w38164  => ?_)
  have w38164 : (pI Y38161 a0 0).toInt = 0 := w38164
  have W38165 := hW.keep I Xy38163 (by decide) (by decide) (by decide) (by decide)
  have Xz38166 : EM [0, 20, 21, 22, 23, 24, 25] a0 P Y38161 := Xy38163.mono (by decide)
  have h38167 := Xy38163.at ha0
  refine g_aload_n C dX12_away_5 rfl 0 rfl ?_
  refine g_iload_n C dX12_away_6 rfl 1 rfl ?_
  refine g_iload_n C dX12_away_7 rfl 2 rfl ?_
  refine g_callVI (rest := []) C mv_X12_298 [.int a1, .int a2] (s_X12_isPaper Iy38162 W38165) (h38167).1 (h38167).2 rfl rfl (by decide) (Nat.le_of_ble_eq_true rfl) (by decide) dX12_away_8 (fun r38168 Y38169 h38170 => ?_)
  obtain ⟨rfl, h38170⟩ := h38170
  obtain ⟨h38170, hi38171, hi38172⟩ := h38170
  have hi38171 : r38168.toInt = 0 ∨ (((0 : Int) ≤ a1.toInt ∧ a1.toInt ≤ (3 : Int)) ∧ ((0 : Int) ≤ a2.toInt ∧ a2.toInt ≤ (39 : Int))) := hi38171
  have h38170 : 0 ≤ r38168.toInt ∧ r38168.toInt ≤ 1 := h38170
  refine b_if_ne C 16 dX12_away_11 (by decide) (fun h38173 => ?_) (fun h38173 => ?_)
  · have h38173 : r38168.toInt ≠ 0 := ti_ne h38173
    replace hi38171 := hi38171.resolve_left (by omega)
    obtain ⟨b38174, e38175, h38176⟩ := Iy38162.fld (h38167) 20 13 20 rfl
    have hi38172 := (hi38172.resolve_left (by omega)) b38174 e38175
    have hi38172 : a2.toInt < (pI Y38161 b38174 (a1.toInt.toNat)).toInt ∧ 0 ≤ a2.toInt := hi38172
    have h38177 := Iy38162.arr e38175 rfl (a1.toInt.toNat)
    refine g_aload_n C dX12_away_16 rfl 0 rfl ?_
    refine g_iload_n C dX12_away_17 rfl 1 rfl ?_
    refine g_iload_n C dX12_away_18 rfl 2 rfl ?_
    refine g_callVV (rest := []) C mv_X12_185 [.int a1, .int a2] (s_X12_takesOut Iy38162 (by omega) (by omega) (fun b9 e9 => by rw [e38175] at e9; cases e9; show 1 ≤ (pI Y38161 b38174 (a1.toInt.toNat)).toInt ∧ (pI Y38161 b38174 (a1.toInt.toNat)).toInt ≤ 40; omega) W38165) (h38167).1 (h38167).2 rfl rfl (by decide) (Nat.le_of_ble_eq_true rfl) (by decide) dX12_away_19 (fun Y38179 h38180 => ?_)
    obtain ⟨Iy38181, Xy38182, W38183, p38184⟩ := h38180
    have p38184 := p38184 b38174 e38175
    have p38184 : (pI Y38179 b38174 (a1.toInt.toNat)).toInt = (pI Y38161 b38174 (a1.toInt.toNat)).toInt - 1 := p38184
    have q38185 := Xy38182.keepF 0 (by decide)
    have Xz38186 : EM [0, 20, 21, 22, 23, 24, 25] a0 P Y38179 := EM.tr ha0 Xz38166 (Xy38182.mono (by decide))
    have e38187 := Xy38182.ref h38167 (by decide) e38175
    have h38188 := Xy38182.at h38167
    have h38189 := Xy38182.ar h38176
    refine g_iconst (v := 1) C dX12_away_22 (by decide) ?_
    exact ret _ _ _ _ _ _ dX12_away_23 rfl (by decide) (by decide) ⟨Iy38181, Xz38186, W38183, (by decide), Or.inr (by omega)⟩
  · have h38173 : r38168.toInt = 0 := congrArg Int32.toInt h38173
    clear hi38171
    refine g_iconst (v := 0) C dX12_away_14 (by decide) ?_
    exact ret _ _ _ _ _ _ dX12_away_15 rfl (by decide) (by decide) ⟨Iy38162, Xz38166, W38165, (by decide), Or.inl rfl⟩
theorem dX12_book_0 : decode cX12_book 0 = .ok (.aload_n 0, 1) := by decide +kernel
theorem dX12_book_1 : decode cX12_book 1 = .ok (.iconst 0, 1) := by decide +kernel
theorem dX12_book_2 : decode cX12_book 2 = .ok (.putfield 1, 3) := by decide +kernel
theorem dX12_book_5 : decode cX12_book 5 = .ok (.iload_n 1, 1) := by decide +kernel
theorem dX12_book_6 : decode cX12_book 6 = .ok (.iconst 0, 1) := by decide +kernel
theorem dX12_book_7 : decode cX12_book 7 = .ok (.iconst 1, 1) := by decide +kernel
theorem dX12_book_8 : decode cX12_book 8 = .ok (.invokestatic 178, 3) := by decide +kernel
theorem dX12_book_11 : decode cX12_book 11 = .ok (.ifCond .eq 13, 3) := by decide +kernel
theorem dX12_book_14 : decode cX12_book 14 = .ok (.iload_n 2, 1) := by decide +kernel
theorem dX12_book_15 : decode cX12_book 15 = .ok (.iconst 1, 1) := by decide +kernel
theorem dX12_book_16 : decode cX12_book 16 = .ok (.bipush 16, 2) := by decide +kernel
theorem dX12_book_18 : decode cX12_book 18 = .ok (.invokestatic 178, 3) := by decide +kernel
theorem dX12_book_21 : decode cX12_book 21 = .ok (.ifCond .ne 5, 3) := by decide +kernel
theorem dX12_book_24 : decode cX12_book 24 = .ok (.iconst 0, 1) := by decide +kernel
theorem dX12_book_25 : decode cX12_book 25 = .ok (.ireturn, 1) := by decide +kernel
theorem dX12_book_26 : decode cX12_book 26 = .ok (.aload_n 0, 1) := by decide +kernel
theorem dX12_book_27 : decode cX12_book 27 = .ok (.getfield 45, 3) := by decide +kernel
theorem dX12_book_30 : decode cX12_book 30 = .ok (.iload_n 1, 1) := by decide +kernel
theorem dX12_book_31 : decode cX12_book 31 = .ok (.iload_n 2, 1) := by decide +kernel
theorem dX12_book_32 : decode cX12_book 32 = .ok (.iastore, 1) := by decide +kernel
theorem dX12_book_33 : decode cX12_book 33 = .ok (.iconst 0, 1) := by decide +kernel
theorem dX12_book_34 : decode cX12_book 34 = .ok (.istore_n 3, 1) := by decide +kernel
theorem dX12_book_35 : decode cX12_book 35 = .ok (.iload_n 3, 1) := by decide +kernel
theorem dX12_book_36 : decode cX12_book 36 = .ok (.bipush 16, 2) := by decide +kernel
theorem dX12_book_38 : decode cX12_book 38 = .ok (.if_icmp .ge 21, 3) := by decide +kernel
theorem dX12_book_41 : decode cX12_book 41 = .ok (.aload_n 0, 1) := by decide +kernel
theorem dX12_book_42 : decode cX12_book 42 = .ok (.getfield 48, 3) := by decide +kernel
theorem dX12_book_45 : decode cX12_book 45 = .ok (.bipush 16, 2) := by decide +kernel
theorem dX12_book_47 : decode cX12_book 47 = .ok (.iload_n 1, 1) := by decide +kernel
theorem dX12_book_48 : decode cX12_book 48 = .ok (.imul, 1) := by decide +kernel
theorem dX12_book_49 : decode cX12_book 49 = .ok (.iload_n 3, 1) := by decide +kernel
theorem dX12_book_50 : decode cX12_book 50 = .ok (.iadd, 1) := by decide +kernel
theorem dX12_book_51 : decode cX12_book 51 = .ok (.iconst 0, 1) := by decide +kernel
theorem dX12_book_52 : decode cX12_book 52 = .ok (.iastore, 1) := by decide +kernel
theorem dX12_book_53 : decode cX12_book 53 = .ok (.iinc 3 1, 3) := by decide +kernel
theorem dX12_book_56 : decode cX12_book 56 = .ok (.goto (-21), 3) := by decide +kernel
theorem dX12_book_59 : decode cX12_book 59 = .ok (.aload_n 0, 1) := by decide +kernel
theorem dX12_book_60 : decode cX12_book 60 = .ok (.iload_n 1, 1) := by decide +kernel
theorem dX12_book_61 : decode cX12_book 61 = .ok (.invokevirtual 182, 3) := by decide +kernel
theorem dX12_forgetsDraw_0 : decode cX12_forgetsDraw 0 = .ok (.iconst 0, 1) := by decide +kernel
theorem dX12_forgetsDraw_1 : decode cX12_forgetsDraw 1 = .ok (.istore_n 2, 1) := by decide +kernel
theorem dX12_forgetsDraw_2 : decode cX12_forgetsDraw 2 = .ok (.iload_n 2, 1) := by decide +kernel
theorem dX12_forgetsDraw_3 : decode cX12_forgetsDraw 3 = .ok (.bipush 21, 2) := by decide +kernel
theorem dX12_forgetsDraw_5 : decode cX12_forgetsDraw 5 = .ok (.if_icmp .ge 21, 3) := by decide +kernel
theorem dX12_forgetsDraw_8 : decode cX12_forgetsDraw 8 = .ok (.aload_n 0, 1) := by decide +kernel
theorem dX12_forgetsDraw_9 : decode cX12_forgetsDraw 9 = .ok (.getfield 51, 3) := by decide +kernel
theorem dX12_forgetsDraw_12 : decode cX12_forgetsDraw 12 = .ok (.bipush 21, 2) := by decide +kernel
theorem dX12_forgetsDraw_14 : decode cX12_forgetsDraw 14 = .ok (.iload_n 1, 1) := by decide +kernel
theorem dX12_forgetsDraw_15 : decode cX12_forgetsDraw 15 = .ok (.imul, 1) := by decide +kernel
theorem dX12_forgetsDraw_16 : decode cX12_forgetsDraw 16 = .ok (.iload_n 2, 1) := by decide +kernel
theorem dX12_forgetsDraw_17 : decode cX12_forgetsDraw 17 = .ok (.iadd, 1) := by decide +kernel
theorem dX12_forgetsDraw_18 : decode cX12_forgetsDraw 18 = .ok (.iconst (-1), 1) := by decide +kernel
theorem dX12_forgetsDraw_19 : decode cX12_forgetsDraw 19 = .ok (.iastore, 1) := by decide +kernel
theorem dX12_forgetsDraw_20 : decode cX12_forgetsDraw 20 = .ok (.iinc 2 1, 3) := by decide +kernel
theorem dX12_forgetsDraw_23 : decode cX12_forgetsDraw 23 = .ok (.goto (-21), 3) := by decide +kernel
theorem dX12_forgetsDraw_26 : decode cX12_forgetsDraw 26 = .ok (.aload_n 0, 1) := by decide +kernel
theorem dX12_forgetsDraw_27 : decode cX12_forgetsDraw 27 = .ok (.getfield 54, 3) := by decide +kernel
theorem dX12_forgetsDraw_30 : decode cX12_forgetsDraw 30 = .ok (.iload_n 1, 1) := by decide +kernel
theorem dX12_forgetsDraw_31 : decode cX12_forgetsDraw 31 = .ok (.iconst 0, 1) := by decide +kernel
theorem dX12_forgetsDraw_32 : decode cX12_forgetsDraw 32 = .ok (.iastore, 1) := by decide +kernel
theorem dX12_forgetsDraw_33 : decode cX12_forgetsDraw 33 = .ok (.aload_n 0, 1) := by decide +kernel
theorem dX12_forgetsDraw_34 : decode cX12_forgetsDraw 34 = .ok (.getfield 57, 3) := by decide +kernel
theorem dX12_forgetsDraw_37 : decode cX12_forgetsDraw 37 = .ok (.iload_n 1, 1) := by decide +kernel
theorem dX12_forgetsDraw_38 : decode cX12_forgetsDraw 38 = .ok (.iconst 1, 1) := by decide +kernel
theorem dX12_forgetsDraw_39 : decode cX12_forgetsDraw 39 = .ok (.iastore, 1) := by decide +kernel
theorem dX12_forgetsDraw_40 : decode cX12_forgetsDraw 40 = .ok (.aload_n 0, 1) := by decide +kernel
theorem dX12_forgetsDraw_41 : decode cX12_forgetsDraw 41 = .ok (.getfield 60, 3) := by decide +kernel
theorem dX12_forgetsDraw_44 : decode cX12_forgetsDraw 44 = .ok (.iload_n 1, 1) := by decide +kernel
theorem dX12_forgetsDraw_45 : decode cX12_forgetsDraw 45 = .ok (.iconst 0, 1) := by decide +kernel
theorem dX12_forgetsDraw_46 : decode cX12_forgetsDraw 46 = .ok (.iastore, 1) := by decide +kernel
theorem dX12_forgetsDraw_47 : decode cX12_forgetsDraw 47 = .ok (.aload_n 0, 1) := by decide +kernel
theorem dX12_forgetsDraw_48 : decode cX12_forgetsDraw 48 = .ok (.getfield 66, 3) := by decide +kernel
theorem dX12_forgetsDraw_51 : decode cX12_forgetsDraw 51 = .ok (.iload_n 1, 1) := by decide +kernel
theorem dX12_forgetsDraw_52 : decode cX12_forgetsDraw 52 = .ok (.iconst 0, 1) := by decide +kernel
theorem dX12_forgetsDraw_53 : decode cX12_forgetsDraw 53 = .ok (.iastore, 1) := by decide +kernel
theorem dX12_forgetsDraw_54 : decode cX12_forgetsDraw 54 = .ok (.return_, 1) := by decide +kernel
set_option maxHeartbeats 4000000 in
set_option maxRecDepth 100000 in
theorem s_X12_forgetsDrawx {P : PP} {a0 : Nat} {a1 : Int32} (I : IM P a0) (ha1 : 0 ≤ a1.toInt ∧ a1.toInt ≤ 2) (hW : MX P a0 (a1.toInt.toNat)) : CtrV yX12_forgetsDraw cX12_forgetsDraw 3 none ({ frames := 1, cells := 0, slots := 0, locals := 64 } : Room) 0 0 P [.ref a0, .int a1] (fun P2 => IM P2 a0 ∧ EM [12, 13, 14, 15, 17] a0 P P2 ∧ MX P2 a0 (a1.toInt.toNat) ∧ (∀ b, pR P a0 14 = some b → (pI P2 b (a1.toInt.toNat)).toInt = 1)) := by
  refine enV (lv := [(0, .ref a0), (1, .int a1)]) (by decide) (Nat.le_of_ble_eq_true rfl) rfl (fun E D cy C Ci0 ret => ?_)
  have ha0 := I.2.1
  have J2 : ∀ (n2 : Nat) (P2 : PP) (v2_2 : Int32), (21 - v2_2.toInt).toNat < n2 → (IM P2 a0) → (EM [12, 13, 14, 15, 17] a0 P P2) → (MX P2 a0 (a1.toInt.toNat)) → (0 ≤ v2_2.toInt ∧ v2_2.toInt ≤ 21) → G E ({ frames := 1, cells := 0, slots := 0, locals := 64 } : Room) D cy 3 P2 0 0 2 [(0, .ref a0), (1, .int a1), (2, .int v2_2)] [] := by
    intro n2
    induction n2 with
    | zero => intro P2 v2_2 hm2 I2 X2 W2 hv2_2; omega
    | succ n2 ih2 =>
      intro P2 v2_2 hm2 I2 X2 W2 hv2_2
      have h38841 := X2.at ha0
      refine g_iload_n C dX12_forgetsDraw_2 rfl 2 rfl ?_
      refine g_bipush (v := 21) C dX12_forgetsDraw_3 (by decide) ?_
      refine b_icmp_ge C 26 dX12_forgetsDraw_5 (by decide) (fun h38842 => ?_) (fun h38842 => ?_)
      · have h38842 : 21 ≤ v2_2.toInt := h38842
        refine g_aload_n C dX12_forgetsDraw_26 rfl 0 rfl ?_
        obtain ⟨b38843, e38844, h38845⟩ := I2.fld (h38841) 13 13 3 rfl
        refine g_getR C fi_X12_54 rfl e38844 (h38841).1 (h38841).2 dX12_forgetsDraw_27 ?_
        refine g_iload_n C dX12_forgetsDraw_30 rfl 1 rfl ?_
        refine g_iconst (v := 0) C dX12_forgetsDraw_31 (by decide) ?_
        refine g_iast (j := (a1.toInt.toNat)) C h38845.1 h38845.2.1 (ix_in h38845.2.2 (by omega)) dX12_forgetsDraw_32 ?_
        refine gqW (ks := [13]) (I2.setA e38844 h38845 (by decide) (arOk.none rfl)) (EM.setA I2 e38844 rfl (by decide)) (fun Y38846 Iy38847 Xy38848 w38849  => ?_)
        have w38849 : (pI Y38846 b38843 (a1.toInt.toNat)).toInt = 0 := w38849
        have W38850 := W2.keep I2 Xy38848 (by decide) (by decide) (by decide) (by decide)
        have Xz38851 : EM [12, 13, 14, 15, 17] a0 P Y38846 := EM.tr ha0 X2 (Xy38848.mono (by decide))
        have e38852 := Xy38848.ref h38841 (by decide) e38844
        have h38853 := Xy38848.at h38841
        have h38854 := Xy38848.ar h38845
        refine g_aload_n C dX12_forgetsDraw_33 rfl 0 rfl ?_
        obtain ⟨b38855, e38856, h38857⟩ := Iy38847.fld (h38853) 14 13 3 rfl
        refine g_getR C fi_X12_57 rfl e38856 (h38853).1 (h38853).2 dX12_forgetsDraw_34 ?_
        refine g_iload_n C dX12_forgetsDraw_37 rfl 1 rfl ?_
        refine g_iconst (v := 1) C dX12_forgetsDraw_38 (by decide) ?_
        refine g_iast (j := (a1.toInt.toNat)) C h38857.1 h38857.2.1 (ix_in h38857.2.2 (by omega)) dX12_forgetsDraw_39 ?_
        refine gqX (ks := [14]) (W := (fun Y9 => MX Y9 a0 (a1.toInt.toNat))) (Iy38847.setA e38856 h38857 (by decide) (arOk.of rfl (by decide))) (EM.setA Iy38847 e38856 rfl (by decide)) (W38850.set14 Iy38847 e38856 rfl) (fun Y38858 Iy38859 Xy38860 w38861 W38862 => ?_)
        have w38861 : (pI Y38858 b38855 (a1.toInt.toNat)).toInt = 1 := w38861
        have q38863 := Xy38860.keepA e38852 (by decide) rfl (a1.toInt.toNat)
        have Xz38864 : EM [12, 13, 14, 15, 17] a0 P Y38858 := EM.tr ha0 Xz38851 (Xy38860.mono (by decide))
        have e38865 := Xy38860.ref h38853 (by decide) e38852
        have e38866 := Xy38860.ref h38853 (by decide) e38856
        have h38867 := Xy38860.at h38853
        have h38868 := Xy38860.ar h38854
        have h38869 := Xy38860.ar h38857
        refine g_aload_n C dX12_forgetsDraw_40 rfl 0 rfl ?_
        obtain ⟨b38870, e38871, h38872⟩ := Iy38859.fld (h38867) 15 13 3 rfl
        refine g_getR C fi_X12_60 rfl e38871 (h38867).1 (h38867).2 dX12_forgetsDraw_41 ?_
        refine g_iload_n C dX12_forgetsDraw_44 rfl 1 rfl ?_
        refine g_iconst (v := 0) C dX12_forgetsDraw_45 (by decide) ?_
        refine g_iast (j := (a1.toInt.toNat)) C h38872.1 h38872.2.1 (ix_in h38872.2.2 (by omega)) dX12_forgetsDraw_46 ?_
        refine gqW (ks := [15]) (Iy38859.setA e38871 h38872 (by decide) (arOk.of rfl (by decide))) (EM.setA Iy38859 e38871 rfl (by decide)) (fun Y38873 Iy38874 Xy38875 w38876  => ?_)
        have w38876 : (pI Y38873 b38870 (a1.toInt.toNat)).toInt = 0 := w38876
        have q38877 := Xy38875.keepA e38865 (by decide) rfl (a1.toInt.toNat)
        have q38878 := Xy38875.keepA e38866 (by decide) rfl (a1.toInt.toNat)
        have W38879 := W38862.keep Iy38859 Xy38875 (by decide) (by decide) (by decide) (by decide)
        have Xz38880 : EM [12, 13, 14, 15, 17] a0 P Y38873 := EM.tr ha0 Xz38864 (Xy38875.mono (by decide))
        have e38881 := Xy38875.ref h38867 (by decide) e38865
        have e38882 := Xy38875.ref h38867 (by decide) e38866
        have e38883 := Xy38875.ref h38867 (by decide) e38871
        have h38884 := Xy38875.at h38867
        have h38885 := Xy38875.ar h38868
        have h38886 := Xy38875.ar h38869
        have h38887 := Xy38875.ar h38872
        refine g_aload_n C dX12_forgetsDraw_47 rfl 0 rfl ?_
        obtain ⟨b38888, e38889, h38890⟩ := Iy38874.fld (h38884) 17 13 3 rfl
        refine g_getR C fi_X12_66 rfl e38889 (h38884).1 (h38884).2 dX12_forgetsDraw_48 ?_
        refine g_iload_n C dX12_forgetsDraw_51 rfl 1 rfl ?_
        refine g_iconst (v := 0) C dX12_forgetsDraw_52 (by decide) ?_
        refine g_iast (j := (a1.toInt.toNat)) C h38890.1 h38890.2.1 (ix_in h38890.2.2 (by omega)) dX12_forgetsDraw_53 ?_
        refine gqW (ks := [17]) (Iy38874.setA e38889 h38890 (by decide) (arOk.none rfl)) (EM.setA Iy38874 e38889 rfl (by decide)) (fun Y38891 Iy38892 Xy38893 w38894  => ?_)
        have w38894 : (pI Y38891 b38888 (a1.toInt.toNat)).toInt = 0 := w38894
        have q38895 := Xy38893.keepA e38881 (by decide) rfl (a1.toInt.toNat)
        have q38896 := Xy38893.keepA e38882 (by decide) rfl (a1.toInt.toNat)
        have q38897 := Xy38893.keepA e38883 (by decide) rfl (a1.toInt.toNat)
        have W38898 := W38879.keep Iy38874 Xy38893 (by decide) (by decide) (by decide) (by decide)
        have Xz38899 : EM [12, 13, 14, 15, 17] a0 P Y38891 := EM.tr ha0 Xz38880 (Xy38893.mono (by decide))
        have e38900 := Xy38893.ref h38884 (by decide) e38881
        have e38901 := Xy38893.ref h38884 (by decide) e38882
        have e38902 := Xy38893.ref h38884 (by decide) e38883
        have e38903 := Xy38893.ref h38884 (by decide) e38889
        have h38904 := Xy38893.at h38884
        have h38905 := Xy38893.ar h38885
        have h38906 := Xy38893.ar h38886
        have h38907 := Xy38893.ar h38887
        have h38908 := Xy38893.ar h38890
        exact ret _ _ _ _ _ dX12_forgetsDraw_54 (by decide) (by decide) ⟨Iy38892, Xz38899, W38898, (fun b9 e9 => by have e8 := EM.ref Xz38899 ha0 (by decide) e9; rw [e38901] at e8; cases e8; show (pI Y38891 b38855 (a1.toInt.toNat)).toInt = 1; omega)⟩
      · have h38842 : v2_2.toInt < 21 := h38842
        refine g_aload_n C dX12_forgetsDraw_8 rfl 0 rfl ?_
        obtain ⟨b38909, e38910, h38911⟩ := I2.fld (h38841) 12 13 63 rfl
        refine g_getR C fi_X12_51 rfl e38910 (h38841).1 (h38841).2 dX12_forgetsDraw_9 ?_
        refine g_bipush (v := 21) C dX12_forgetsDraw_12 (by decide) ?_
        refine g_iload_n C dX12_forgetsDraw_14 rfl 1 rfl ?_
        refine s_imul C dX12_forgetsDraw_15 (by show -2147483648 ≤ 21 * a1.toInt ∧ 21 * a1.toInt ≤ 2147483647; omega) (fun z38912 h38913 => ?_)
        have h38913 : z38912.toInt = 21 * a1.toInt := h38913
        refine g_iload_n C dX12_forgetsDraw_16 rfl 2 rfl ?_
        refine s_iadd C dX12_forgetsDraw_17 (by show -2147483648 ≤ z38912.toInt + v2_2.toInt ∧ z38912.toInt + v2_2.toInt ≤ 2147483647; omega) (fun z38914 h38915 => ?_)
        have h38915 : z38914.toInt = z38912.toInt + v2_2.toInt := h38915
        refine g_iconst (v := (-1)) C dX12_forgetsDraw_18 (by decide) ?_
        refine g_iast (j := (z38914.toInt.toNat)) C h38911.1 h38911.2.1 (ix_in h38911.2.2 (by omega)) dX12_forgetsDraw_19 ?_
        refine gqW (ks := [12]) (I2.setA e38910 h38911 (by decide) (arOk.of rfl (by decide))) (EM.setA I2 e38910 rfl (by decide)) (fun Y38916 Iy38917 Xy38918 w38919  => ?_)
        have w38919 : (pI Y38916 b38909 (z38914.toInt.toNat)).toInt = (-1) := w38919
        have W38920 := W2.keep I2 Xy38918 (by decide) (by decide) (by decide) (by decide)
        have Xz38921 : EM [12, 13, 14, 15, 17] a0 P Y38916 := EM.tr ha0 X2 (Xy38918.mono (by decide))
        have e38922 := Xy38918.ref h38841 (by decide) e38910
        have h38923 := Xy38918.at h38841
        have h38924 := Xy38918.ar h38911
        refine s_iinc (lv0 := [(0, .ref a0), (1, .int a1)]) (m := 1) C dX12_forgetsDraw_20 2 rfl (by decide) rfl (by decide) (by omega) (fun z38925 h38926 => ?_)
        have h38926 : z38925.toInt = v2_2.toInt + 1 := h38926
        refine g_goto C 2 dX12_forgetsDraw_23 (by decide) ?_
        refine g_lv (lv' := [(0, .ref a0), (1, .int a1), (2, .int z38925)]) [1, 2, 0] rfl ?_
        exact ih2 Y38916 z38925 (by omega) Iy38917 Xz38921 W38920 (by omega)
  refine g_iconst (v := 0) C dX12_forgetsDraw_0 (by decide) ?_
  refine g_istore_n (lv' := [(2, .int 0), (0, .ref a0), (1, .int a1)]) C dX12_forgetsDraw_1 rfl (by decide) rfl ?_
  refine g_lv (lv' := [(0, .ref a0), (1, .int a1), (2, .int 0)]) [1, 2, 0] rfl ?_
  exact J2 _ P 0 (Nat.lt_succ_self _) I EM.rf hW (by decide)
