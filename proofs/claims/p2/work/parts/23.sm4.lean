theorem dX12_doubles_15 : decode cX12_doubles 15 = .ok (.iconst (-1), 1) := by decide +kernel
theorem dX12_doubles_16 : decode cX12_doubles 16 = .ok (.ireturn, 1) := by decide +kernel
theorem dX12_doubles_34 : decode cX12_doubles 34 = .ok (.aload_n 0, 1) := by decide +kernel
theorem dX12_doubles_35 : decode cX12_doubles 35 = .ok (.invokevirtual 346, 3) := by decide +kernel
theorem dX12_doubles_38 : decode cX12_doubles 38 = .ok (.aload_n 0, 1) := by decide +kernel
theorem dX12_doubles_39 : decode cX12_doubles 39 = .ok (.getfield 324, 3) := by decide +kernel
theorem dX12_doubles_42 : decode cX12_doubles 42 = .ok (.istore 4, 2) := by decide +kernel
theorem dX12_doubles_44 : decode cX12_doubles 44 = .ok (.iconst 0, 1) := by decide +kernel
theorem dX12_doubles_45 : decode cX12_doubles 45 = .ok (.istore 5, 2) := by decide +kernel
theorem dX12_doubles_47 : decode cX12_doubles 47 = .ok (.iconst 0, 1) := by decide +kernel
theorem dX12_doubles_48 : decode cX12_doubles 48 = .ok (.istore 6, 2) := by decide +kernel
theorem dX12_doubles_50 : decode cX12_doubles 50 = .ok (.iload 6, 2) := by decide +kernel
theorem dX12_doubles_52 : decode cX12_doubles 52 = .ok (.aload_n 0, 1) := by decide +kernel
theorem dX12_doubles_53 : decode cX12_doubles 53 = .ok (.getfield 69, 3) := by decide +kernel
theorem dX12_doubles_56 : decode cX12_doubles 56 = .ok (.iload_n 1, 1) := by decide +kernel
theorem dX12_doubles_57 : decode cX12_doubles 57 = .ok (.iaload, 1) := by decide +kernel
theorem dX12_doubles_58 : decode cX12_doubles 58 = .ok (.if_icmp .ge 96, 3) := by decide +kernel
theorem dX12_doubles_61 : decode cX12_doubles 61 = .ok (.bipush 40, 2) := by decide +kernel
theorem dX12_doubles_63 : decode cX12_doubles 63 = .ok (.iload_n 1, 1) := by decide +kernel
theorem dX12_doubles_64 : decode cX12_doubles 64 = .ok (.imul, 1) := by decide +kernel
theorem dX12_doubles_65 : decode cX12_doubles 65 = .ok (.iload 6, 2) := by decide +kernel
theorem dX12_doubles_67 : decode cX12_doubles 67 = .ok (.iadd, 1) := by decide +kernel
theorem dX12_doubles_68 : decode cX12_doubles 68 = .ok (.istore 7, 2) := by decide +kernel
theorem dX12_doubles_70 : decode cX12_doubles 70 = .ok (.aload_n 0, 1) := by decide +kernel
theorem dX12_doubles_71 : decode cX12_doubles 71 = .ok (.getfield 75, 3) := by decide +kernel
theorem dX12_doubles_74 : decode cX12_doubles 74 = .ok (.iload 7, 2) := by decide +kernel
theorem dX12_doubles_76 : decode cX12_doubles 76 = .ok (.iaload, 1) := by decide +kernel
theorem dX12_doubles_77 : decode cX12_doubles 77 = .ok (.iload_n 2, 1) := by decide +kernel
theorem dX12_doubles_78 : decode cX12_doubles 78 = .ok (.if_icmp .ne 70, 3) := by decide +kernel
theorem dX12_doubles_81 : decode cX12_doubles 81 = .ok (.aload_n 0, 1) := by decide +kernel
theorem dX12_doubles_82 : decode cX12_doubles 82 = .ok (.getfield 81, 3) := by decide +kernel
theorem dX12_doubles_85 : decode cX12_doubles 85 = .ok (.iload 7, 2) := by decide +kernel
theorem dX12_doubles_87 : decode cX12_doubles 87 = .ok (.iaload, 1) := by decide +kernel
theorem dX12_doubles_88 : decode cX12_doubles 88 = .ok (.iload_n 3, 1) := by decide +kernel
theorem dX12_doubles_89 : decode cX12_doubles 89 = .ok (.ishr, 1) := by decide +kernel
theorem dX12_doubles_90 : decode cX12_doubles 90 = .ok (.iconst 1, 1) := by decide +kernel
theorem dX12_doubles_91 : decode cX12_doubles 91 = .ok (.iand, 1) := by decide +kernel
theorem dX12_doubles_92 : decode cX12_doubles 92 = .ok (.iconst 1, 1) := by decide +kernel
theorem dX12_doubles_93 : decode cX12_doubles 93 = .ok (.if_icmp .ne 55, 3) := by decide +kernel
theorem dX12_doubles_96 : decode cX12_doubles 96 = .ok (.aload_n 0, 1) := by decide +kernel
theorem dX12_doubles_97 : decode cX12_doubles 97 = .ok (.getfield 100, 3) := by decide +kernel
theorem dX12_doubles_100 : decode cX12_doubles 100 = .ok (.iload 6, 2) := by decide +kernel
theorem dX12_doubles_102 : decode cX12_doubles 102 = .ok (.iconst 1, 1) := by decide +kernel
theorem dX12_doubles_103 : decode cX12_doubles 103 = .ok (.bastore, 1) := by decide +kernel
theorem dX12_doubles_104 : decode cX12_doubles 104 = .ok (.aload_n 0, 1) := by decide +kernel
theorem dX12_doubles_105 : decode cX12_doubles 105 = .ok (.iload_n 1, 1) := by decide +kernel
theorem dX12_doubles_106 : decode cX12_doubles 106 = .ok (.iload_n 2, 1) := by decide +kernel
theorem dX12_doubles_107 : decode cX12_doubles 107 = .ok (.iload_n 3, 1) := by decide +kernel
theorem dX12_doubles_108 : decode cX12_doubles 108 = .ok (.aload_n 0, 1) := by decide +kernel
theorem dX12_doubles_109 : decode cX12_doubles 109 = .ok (.getfield 69, 3) := by decide +kernel
theorem dX12_doubles_112 : decode cX12_doubles 112 = .ok (.iload_n 1, 1) := by decide +kernel
theorem dX12_doubles_113 : decode cX12_doubles 113 = .ok (.iaload, 1) := by decide +kernel
theorem dX12_doubles_114 : decode cX12_doubles 114 = .ok (.invokevirtual 339, 3) := by decide +kernel
theorem dX12_doubles_117 : decode cX12_doubles 117 = .ok (.aload_n 0, 1) := by decide +kernel
theorem dX12_doubles_118 : decode cX12_doubles 118 = .ok (.invokevirtual 346, 3) := by decide +kernel
theorem dX12_doubles_121 : decode cX12_doubles 121 = .ok (.iload 5, 2) := by decide +kernel
theorem dX12_doubles_123 : decode cX12_doubles 123 = .ok (.aload_n 0, 1) := by decide +kernel
theorem dX12_doubles_124 : decode cX12_doubles 124 = .ok (.getfield 324, 3) := by decide +kernel
theorem dX12_doubles_127 : decode cX12_doubles 127 = .ok (.iload 4, 2) := by decide +kernel
theorem dX12_doubles_129 : decode cX12_doubles 129 = .ok (.if_icmp .ne 7, 3) := by decide +kernel
theorem dX12_doubles_132 : decode cX12_doubles 132 = .ok (.iconst 1, 1) := by decide +kernel
theorem dX12_doubles_133 : decode cX12_doubles 133 = .ok (.goto 4, 3) := by decide +kernel
theorem dX12_doubles_136 : decode cX12_doubles 136 = .ok (.iconst 0, 1) := by decide +kernel
theorem dX12_doubles_137 : decode cX12_doubles 137 = .ok (.iadd, 1) := by decide +kernel
theorem dX12_doubles_138 : decode cX12_doubles 138 = .ok (.istore 5, 2) := by decide +kernel
theorem dX12_doubles_140 : decode cX12_doubles 140 = .ok (.aload_n 0, 1) := by decide +kernel
theorem dX12_doubles_141 : decode cX12_doubles 141 = .ok (.getfield 100, 3) := by decide +kernel
theorem dX12_doubles_144 : decode cX12_doubles 144 = .ok (.iload 6, 2) := by decide +kernel
theorem dX12_doubles_146 : decode cX12_doubles 146 = .ok (.iconst 0, 1) := by decide +kernel
theorem dX12_doubles_147 : decode cX12_doubles 147 = .ok (.bastore, 1) := by decide +kernel
theorem dX12_doubles_148 : decode cX12_doubles 148 = .ok (.iinc 6 1, 3) := by decide +kernel
theorem dX12_doubles_151 : decode cX12_doubles 151 = .ok (.goto (-101), 3) := by decide +kernel
theorem dX12_doubles_154 : decode cX12_doubles 154 = .ok (.iload 5, 2) := by decide +kernel
theorem dX12_doubles_156 : decode cX12_doubles 156 = .ok (.ireturn, 1) := by decide +kernel
set_option maxHeartbeats 4000000 in
set_option maxRecDepth 100000 in
theorem s_X12_doubles {P : PP} {a0 : Nat} {a1 : Int32} {a2 : Int32} {a3 : Int32} (I : IM P a0) (hW : MW P a0) : CtrI yX12_doubles cX12_doubles 8 (some Jvm.ClassFile.FieldType.int) ({ frames := 5, cells := 0, slots := 0, locals := 320 } : Room) 0 0 P [.ref a0, .int a1, .int a2, .int a3] (fun r P2 => IM P2 a0 ∧ EM [0, 28, 29, 30, 31, 32, 35, 36, 37, 38] a0 P P2 ∧ MW P2 a0 ∧ (True)) := by
  refine enI (lv := [(0, .ref a0), (1, .int a1), (2, .int a2), (3, .int a3)]) (by decide) (Nat.le_of_ble_eq_true rfl) rfl (fun E D cy C Ci0 ret => ?_)
  have ha0 := I.2.1
  have J50 : ∀ (n50 : Nat) (P50 : PP) (v50_4 : Int32) (v50_5 : Int32) (v50_6 : Int32), (40 - v50_6.toInt).toNat < n50 → (IM P50 a0) → (EM [0, 28, 29, 30, 31, 32, 35, 36, 37, 38] a0 P P50) → (MW P50 a0) → (0 ≤ a1.toInt ∧ a1.toInt ≤ 3) → (0 ≤ a2.toInt ∧ a2.toInt ≤ 1) → (0 ≤ a3.toInt ∧ a3.toInt ≤ 1) → (0 ≤ v50_6.toInt ∧ v50_6.toInt ≤ 40) → (0 ≤ (pI P50 a0 0).toInt ∧ (pI P50 a0 0).toInt ≤ 0) → (0 ≤ (pI P50 a0 28).toInt ∧ (pI P50 a0 28).toInt ≤ 44) → (∀ b, pR P50 a0 10 = some b → 1 ≤ (pI P50 b (a2.toInt.toNat)).toInt ∧ (pI P50 b (a2.toInt.toNat)).toInt ≤ 16) → G E ({ frames := 5, cells := 0, slots := 0, locals := 320 } : Room) D cy 8 P50 0 0 50 [(0, .ref a0), (1, .int a1), (2, .int a2), (3, .int a3), (4, .int v50_4), (5, .int v50_5), (6, .int v50_6)] [] := by
    intro n50
    induction n50 with
    | zero => intro P50 v50_4 v50_5 v50_6 hm50 I50 X50 W50 hv50_1 hv50_2 hv50_3 hv50_6 hq50_0 hq50_1 hq50_2; omega
    | succ n50 ih50 =>
      intro P50 v50_4 v50_5 v50_6 hm50 I50 X50 W50 hv50_1 hv50_2 hv50_3 hv50_6 hq50_0 hq50_1 hq50_2
      have h57167 := X50.at ha0
      obtain ⟨b57168, e57169, h57170⟩ := I50.fld (h57167) 10 13 2 rfl
      have hq50_2 := hq50_2 b57168 e57169
      have J148 : ∀ (P148 : PP) (v148_5 : Int32), (IM P148 a0) → (EM [0, 28, 29, 30, 31, 32, 35, 36, 37, 38] a0 P P148) → (MW P148 a0) → (0 ≤ a1.toInt ∧ a1.toInt ≤ 3) → (0 ≤ a2.toInt ∧ a2.toInt ≤ 1) → (0 ≤ a3.toInt ∧ a3.toInt ≤ 1) → (0 ≤ v50_6.toInt ∧ v50_6.toInt ≤ 39) → (0 ≤ (pI P148 a0 0).toInt ∧ (pI P148 a0 0).toInt ≤ 0) → (0 ≤ (pI P148 a0 28).toInt ∧ (pI P148 a0 28).toInt ≤ 44) → (∀ b, pR P148 a0 10 = some b → 1 ≤ (pI P148 b (a2.toInt.toNat)).toInt ∧ (pI P148 b (a2.toInt.toNat)).toInt ≤ 16) → (∀ b, pR P148 a0 20 = some b → 1 ≤ (pI P148 b (a1.toInt.toNat)).toInt ∧ (pI P148 b (a1.toInt.toNat)).toInt ≤ 40) → G E ({ frames := 5, cells := 0, slots := 0, locals := 320 } : Room) D cy 8 P148 0 0 148 [(0, .ref a0), (1, .int a1), (2, .int a2), (3, .int a3), (4, .int v50_4), (5, .int v148_5), (6, .int v50_6)] [] := by
        intro P148 v148_5 I148 X148 W148 hv148_1 hv148_2 hv148_3 hv148_6 hq148_0 hq148_1 hq148_2 hq148_3
        have h57171 := X148.at ha0
        obtain ⟨b57172, e57173, h57174⟩ := I148.fld (h57171) 10 13 2 rfl
        have hq148_2 := hq148_2 b57172 e57173
        obtain ⟨b57175, e57176, h57177⟩ := I148.fld (h57171) 20 13 20 rfl
        have hq148_3 := hq148_3 b57175 e57176
        refine s_iinc (lv0 := [(0, .ref a0), (1, .int a1), (2, .int a2), (3, .int a3), (4, .int v50_4), (5, .int v148_5)]) (m := 1) C dX12_doubles_148 6 rfl (by decide) rfl (by decide) (by omega) (fun z57178 h57179 => ?_)
        have h57179 : z57178.toInt = v50_6.toInt + 1 := h57179
        refine g_goto C 50 dX12_doubles_151 (by decide) ?_
        refine g_lv (lv' := [(0, .ref a0), (1, .int a1), (2, .int a2), (3, .int a3), (4, .int v50_4), (5, .int v148_5), (6, .int z57178)]) [1, 2, 3, 4, 5, 6, 0] rfl ?_
        exact ih50 P148 v50_4 v148_5 z57178 (by omega) I148 X148 W148 (by omega) (by omega) (by omega) (by omega) (by omega) (by omega) (fun b9 e9 => by rw [e57173] at e9; cases e9; omega)
      have J137 : ∀ (P137 : PP) (v137_s0 : Int32), (IM P137 a0) → (EM [0, 28, 29, 30, 31, 32, 35, 36, 37, 38] a0 P P137) → (MW P137 a0) → (0 ≤ a1.toInt ∧ a1.toInt ≤ 3) → (0 ≤ a2.toInt ∧ a2.toInt ≤ 1) → (0 ≤ a3.toInt ∧ a3.toInt ≤ 1) → (0 ≤ v50_6.toInt ∧ v50_6.toInt ≤ 39) → (0 ≤ v137_s0.toInt ∧ v137_s0.toInt ≤ 1) → (0 ≤ (pI P137 a0 0).toInt ∧ (pI P137 a0 0).toInt ≤ 0) → (0 ≤ (pI P137 a0 28).toInt ∧ (pI P137 a0 28).toInt ≤ 44) → (∀ b, pR P137 a0 10 = some b → 1 ≤ (pI P137 b (a2.toInt.toNat)).toInt ∧ (pI P137 b (a2.toInt.toNat)).toInt ≤ 16) → (∀ b, pR P137 a0 20 = some b → 1 ≤ (pI P137 b (a1.toInt.toNat)).toInt ∧ (pI P137 b (a1.toInt.toNat)).toInt ≤ 40) → (∀ b, pR P137 a0 32 = some b → 1 ≤ (pI P137 b (v50_6.toInt.toNat)).toInt ∧ (pI P137 b (v50_6.toInt.toNat)).toInt ≤ 1) → G E ({ frames := 5, cells := 0, slots := 0, locals := 320 } : Room) D cy 8 P137 0 0 137 [(0, .ref a0), (1, .int a1), (2, .int a2), (3, .int a3), (4, .int v50_4), (6, .int v50_6)] [.int v137_s0, .int v50_5] := by
        intro P137 v137_s0 I137 X137 W137 hv137_1 hv137_2 hv137_3 hv137_6 hv137_s0 hq137_0 hq137_1 hq137_2 hq137_3 hq137_4
        have h57180 := X137.at ha0
        obtain ⟨b57181, e57182, h57183⟩ := I137.fld (h57180) 10 13 2 rfl
        have hq137_2 := hq137_2 b57181 e57182
        obtain ⟨b57184, e57185, h57186⟩ := I137.fld (h57180) 20 13 20 rfl
        have hq137_3 := hq137_3 b57184 e57185
        obtain ⟨b57187, e57188, h57189⟩ := I137.fld (h57180) 32 15 40 rfl
        have hq137_4 := hq137_4 b57187 e57188
        refine a_iadd C dX12_doubles_137 (fun z57190 => ?_)
        refine g_istore (lv' := [(5, .int z57190), (0, .ref a0), (1, .int a1), (2, .int a2), (3, .int a3), (4, .int v50_4), (6, .int v50_6)]) C dX12_doubles_138 (by decide) rfl ?_
        refine g_aload_n C dX12_doubles_140 rfl 1 rfl ?_
        refine g_getR C fi_X12_100 rfl e57188 (h57180).1 (h57180).2 dX12_doubles_141 ?_
        refine g_iload C dX12_doubles_144 6 rfl ?_
        refine g_iconst (v := 0) C dX12_doubles_146 (by decide) ?_
        refine g_zast (j := (v50_6.toInt.toNat)) C h57189.1 h57189.2.1 (ix_in h57189.2.2 (by omega)) (Or.inl rfl) dX12_doubles_147 ?_
        refine gqW (ks := [32]) (I137.setA e57188 h57189 (by decide) (arOk.none rfl)) (EM.setA I137 e57188 rfl (by decide)) (fun Y57192 Iy57193 Xy57194 w57195 => ?_)
        have w57195 : (pI Y57192 b57187 (v50_6.toInt.toNat)).toInt = 0 := w57195
        have q57196 := Xy57194.keepF 0 (by decide)
        have q57197 := Xy57194.keepF 28 (by decide)
        have q57198 := Xy57194.keepA e57182 (by decide) rfl (a2.toInt.toNat)
        have q57199 := Xy57194.keepA e57185 (by decide) rfl (a1.toInt.toNat)
        have W57200 := W137.keep I137 Xy57194 (by decide) (by decide) (by decide)
        have Xz57201 : EM [0, 28, 29, 30, 31, 32, 35, 36, 37, 38] a0 P Y57192 := EM.tr ha0 X137 (Xy57194.mono (by decide))
        have e57202 := Xy57194.ref h57180 (by decide) e57182
        have e57203 := Xy57194.ref h57180 (by decide) e57185
        have e57204 := Xy57194.ref h57180 (by decide) e57188
        have h57205 := Xy57194.at h57180
        have h57206 := Xy57194.ar h57183
        have h57207 := Xy57194.ar h57186
        have h57208 := Xy57194.ar h57189
        refine g_lv (lv' := [(0, .ref a0), (1, .int a1), (2, .int a2), (3, .int a3), (4, .int v50_4), (5, .int z57190), (6, .int v50_6)]) [1, 2, 3, 4, 5, 0, 6] rfl ?_
        exact J148 Y57192 z57190 Iy57193 Xz57201 W57200 (by omega) (by omega) (by omega) (by omega) (by omega) (by omega) (fun b9 e9 => by rw [e57202] at e9; cases e9; omega) (fun b9 e9 => by rw [e57203] at e9; cases e9; omega)
      refine g_iload C dX12_doubles_50 6 rfl ?_
      refine g_aload_n C dX12_doubles_52 rfl 0 rfl ?_
      obtain ⟨b57209, e57210, h57211⟩ := I50.fld (h57167) 20 13 20 rfl
      refine g_getR C fi_X12_69 rfl e57210 (h57167).1 (h57167).2 dX12_doubles_53 ?_
      refine g_iload_n C dX12_doubles_56 rfl 1 rfl ?_
      refine g_iald (j := (a1.toInt.toNat)) C h57211.1 h57211.2.1 (ix_in h57211.2.2 (by omega)) dX12_doubles_57 ?_
      have h57212 := I50.arr e57210 rfl (a1.toInt.toNat)
      refine b_icmp_ge C 154 dX12_doubles_58 (by decide) (fun h57213 => ?_) (fun h57213 => ?_)
      · have h57213 : (pI P50 b57209 (a1.toInt.toNat)).toInt ≤ v50_6.toInt := h57213
        refine g_iload C dX12_doubles_154 5 rfl ?_
        exact ret _ _ _ _ _ _ dX12_doubles_156 rfl (by decide) (by decide) ⟨I50, X50, W50, trivial⟩
      · have h57213 : v50_6.toInt < (pI P50 b57209 (a1.toInt.toNat)).toInt := h57213
        refine g_bipush (v := 40) C dX12_doubles_61 (by decide) ?_
        refine g_iload_n C dX12_doubles_63 rfl 1 rfl ?_
        refine s_imul C dX12_doubles_64 (by show -2147483648 ≤ 40 * a1.toInt ∧ 40 * a1.toInt ≤ 2147483647; omega) (fun z57214 h57215 => ?_)
        have h57215 : z57214.toInt = 40 * a1.toInt := h57215
        refine g_iload C dX12_doubles_65 6 rfl ?_
        refine s_iadd C dX12_doubles_67 (by show -2147483648 ≤ z57214.toInt + v50_6.toInt ∧ z57214.toInt + v50_6.toInt ≤ 2147483647; omega) (fun z57216 h57217 => ?_)
        have h57217 : z57216.toInt = z57214.toInt + v50_6.toInt := h57217
        refine g_istore (lv' := [(7, .int z57216), (0, .ref a0), (1, .int a1), (2, .int a2), (3, .int a3), (4, .int v50_4), (5, .int v50_5), (6, .int v50_6)]) C dX12_doubles_68 (by decide) rfl ?_
        refine g_aload_n C dX12_doubles_70 rfl 1 rfl ?_
        obtain ⟨b57218, e57219, h57220⟩ := I50.fld (h57167) 22 13 800 rfl
        refine g_getR C fi_X12_75 rfl e57219 (h57167).1 (h57167).2 dX12_doubles_71 ?_
        refine g_iload C dX12_doubles_74 0 rfl ?_
        refine g_iald (j := (z57216.toInt.toNat)) C h57220.1 h57220.2.1 (ix_in h57220.2.2 (by omega)) dX12_doubles_76 ?_
        have h57221 := I50.arr e57219 rfl (z57216.toInt.toNat)
        refine g_iload_n C dX12_doubles_77 rfl 3 rfl ?_
        refine b_icmp_ne C 148 dX12_doubles_78 (by decide) (fun h57222 => ?_) (fun h57222 => ?_)
        · have h57222 : (pI P50 b57218 (z57216.toInt.toNat)).toInt ≠ a2.toInt := ti_ne h57222
          refine g_lv (lv' := [(0, .ref a0), (1, .int a1), (2, .int a2), (3, .int a3), (4, .int v50_4), (5, .int v50_5), (6, .int v50_6)]) [1, 2, 3, 4, 5, 6, 7] rfl ?_
          exact J148 P50 v50_5 I50 X50 W50 (by omega) (by omega) (by omega) (by omega) (by omega) (by omega) (fun b9 e9 => by rw [e57169] at e9; cases e9; omega) (fun b9 e9 => by rw [e57210] at e9; cases e9; omega)
        · have h57222 : (pI P50 b57218 (z57216.toInt.toNat)).toInt = a2.toInt := congrArg Int32.toInt h57222
          refine g_aload_n C dX12_doubles_81 rfl 1 rfl ?_
          obtain ⟨b57223, e57224, h57225⟩ := I50.fld (h57167) 24 13 800 rfl
          refine g_getR C fi_X12_81 rfl e57224 (h57167).1 (h57167).2 dX12_doubles_82 ?_
          refine g_iload C dX12_doubles_85 0 rfl ?_
          refine g_iald (j := (z57216.toInt.toNat)) C h57225.1 h57225.2.1 (ix_in h57225.2.2 (by omega)) dX12_doubles_87 ?_
          refine g_iload_n C dX12_doubles_88 rfl 4 rfl ?_
          refine a_ishr C dX12_doubles_89 (fun z57226 => ?_)
          refine g_iconst (v := 1) C dX12_doubles_90 (by decide) ?_
          refine s_iand C dX12_doubles_91 (by show 0 ≤ 1; omega) (fun z57228 h57229 => ?_)
          have h57229 : 0 ≤ z57228.toInt ∧ z57228.toInt ≤ 1 := h57229
          refine g_iconst (v := 1) C dX12_doubles_92 (by decide) ?_
          refine b_icmp_ne C 148 dX12_doubles_93 (by decide) (fun h57230 => ?_) (fun h57230 => ?_)
          · have h57230 : z57228.toInt ≠ 1 := ti_ne h57230
            refine g_lv (lv' := [(0, .ref a0), (1, .int a1), (2, .int a2), (3, .int a3), (4, .int v50_4), (5, .int v50_5), (6, .int v50_6)]) [1, 2, 3, 4, 5, 6, 7] rfl ?_
            exact J148 P50 v50_5 I50 X50 W50 (by omega) (by omega) (by omega) (by omega) (by omega) (by omega) (fun b9 e9 => by rw [e57169] at e9; cases e9; omega) (fun b9 e9 => by rw [e57210] at e9; cases e9; omega)
          · have h57230 : z57228.toInt = 1 := congrArg Int32.toInt h57230
            refine g_aload_n C dX12_doubles_96 rfl 1 rfl ?_
            obtain ⟨b57231, e57232, h57233⟩ := I50.fld (h57167) 32 15 40 rfl
            refine g_getR C fi_X12_100 rfl e57232 (h57167).1 (h57167).2 dX12_doubles_97 ?_
            refine g_iload C dX12_doubles_100 7 rfl ?_
            refine g_iconst (v := 1) C dX12_doubles_102 (by decide) ?_
            refine g_zast (j := (v50_6.toInt.toNat)) C h57233.1 h57233.2.1 (ix_in h57233.2.2 (by omega)) (Or.inr rfl) dX12_doubles_103 ?_
            refine gqW (ks := [32]) (I50.setA e57232 h57233 (by decide) (arOk.none rfl)) (EM.setA I50 e57232 rfl (by decide)) (fun Y57234 Iy57235 Xy57236 w57237 => ?_)
            have w57237 : (pI Y57234 b57231 (v50_6.toInt.toNat)).toInt = 1 := w57237
            have q57238 := Xy57236.keepF 0 (by decide)
            have q57239 := Xy57236.keepF 28 (by decide)
            have q57240 := Xy57236.keepA e57169 (by decide) rfl (a2.toInt.toNat)
            have q57241 := Xy57236.keepA e57210 (by decide) rfl (a1.toInt.toNat)
            have q57242 := Xy57236.keepA e57219 (by decide) rfl (z57216.toInt.toNat)
            have W57243 := W50.keep I50 Xy57236 (by decide) (by decide) (by decide)
            have Xz57244 : EM [0, 28, 29, 30, 31, 32, 35, 36, 37, 38] a0 P Y57234 := EM.tr ha0 X50 (Xy57236.mono (by decide))
            have e57245 := Xy57236.ref h57167 (by decide) e57169
            have e57246 := Xy57236.ref h57167 (by decide) e57210
            have e57247 := Xy57236.ref h57167 (by decide) e57219
            have e57248 := Xy57236.ref h57167 (by decide) e57232
            have h57249 := Xy57236.at h57167
            have h57250 := Xy57236.ar h57170
            have h57251 := Xy57236.ar h57211
            have h57252 := Xy57236.ar h57220
            have h57253 := Xy57236.ar h57233
            refine g_aload_n C dX12_doubles_104 rfl 1 rfl ?_
            refine g_iload_n C dX12_doubles_105 rfl 2 rfl ?_
            refine g_iload_n C dX12_doubles_106 rfl 3 rfl ?_
            refine g_iload_n C dX12_doubles_107 rfl 4 rfl ?_
            refine g_aload_n C dX12_doubles_108 rfl 1 rfl ?_
            refine g_getR C fi_X12_69 rfl e57246 (h57249).1 (h57249).2 dX12_doubles_109 ?_
            refine g_iload_n C dX12_doubles_112 rfl 2 rfl ?_
            refine g_iald (j := (a1.toInt.toNat)) C h57251.1 h57251.2.1 (ix_in h57251.2.2 (by omega)) dX12_doubles_113 ?_
            refine g_callVV (rest := []) C mv_X12_339 [.int a1, .int a2, .int a3, .int (pI Y57234 b57209 (a1.toInt.toNat))] (s_X12_gathers Iy57235 (by omega) (by omega) (by omega) (fun b9 e9 => by rw [e57245] at e9; cases e9; show 1 ≤ (pI Y57234 b57168 (a2.toInt.toNat)).toInt ∧ (pI Y57234 b57168 (a2.toInt.toNat)).toInt ≤ 16; omega) W57243) (h57249).1 (h57249).2 rfl rfl (by decide) (Nat.le_of_ble_eq_true rfl) (by decide) dX12_doubles_114 (fun Y57255 h57256 => ?_)
            obtain ⟨Iy57257, Xy57258, W57259, p57260⟩ := h57256
            have p57260 : (pI Y57255 a0 28).toInt ≤ 4 + (pI Y57234 b57209 (a1.toInt.toNat)).toInt := p57260
            have q57261 := Xy57258.keepF 0 (by decide)
            have q57262 := Xy57258.keepA e57245 (by decide) rfl (a2.toInt.toNat)
            have q57263 := Xy57258.keepA e57246 (by decide) rfl (a1.toInt.toNat)
            have q57264 := Xy57258.keepA e57247 (by decide) rfl (z57216.toInt.toNat)
            have q57265 := Xy57258.keepA e57248 (by decide) rfl (v50_6.toInt.toNat)
            have Xz57266 : EM [0, 28, 29, 30, 31, 32, 35, 36, 37, 38] a0 P Y57255 := EM.tr ha0 Xz57244 (Xy57258.mono (by decide))
            have e57267 := Xy57258.ref h57249 (by decide) e57245
            have e57268 := Xy57258.ref h57249 (by decide) e57246
            have e57269 := Xy57258.ref h57249 (by decide) e57247
            have e57270 := Xy57258.ref h57249 (by decide) e57248
            have h57271 := Xy57258.at h57249
            have h57272 := Xy57258.ar h57250
            have h57273 := Xy57258.ar h57251
            have h57274 := Xy57258.ar h57252
            have h57275 := Xy57258.ar h57253
            have h57276 := Iy57257.rg h57271 28 rfl
            refine g_aload_n C dX12_doubles_117 rfl 1 rfl ?_
            refine g_callVV (rest := []) C mv_X12_346 [] (s_X12_findSolved Iy57257 W57259) (h57271).1 (h57271).2 rfl rfl (by decide) (Nat.le_of_ble_eq_true rfl) (by decide) dX12_doubles_118 (fun Y57278 h57279 => ?_)
            obtain ⟨Iy57280, Xy57281, W57282⟩ := h57279
            have q57283 := Xy57281.keepF 0 (by decide)
            have q57284 := Xy57281.keepA e57267 (by decide) rfl (a2.toInt.toNat)
            have q57285 := Xy57281.keepA e57268 (by decide) rfl (a1.toInt.toNat)
            have q57286 := Xy57281.keepA e57269 (by decide) rfl (z57216.toInt.toNat)
            have q57287 := Xy57281.keepA e57270 (by decide) rfl (v50_6.toInt.toNat)
            have q57288 := Xy57281.keepF 28 (by decide)
            have Xz57289 : EM [0, 28, 29, 30, 31, 32, 35, 36, 37, 38] a0 P Y57278 := EM.tr ha0 Xz57266 (Xy57281.mono (by decide))
            have e57290 := Xy57281.ref h57271 (by decide) e57267
            have e57291 := Xy57281.ref h57271 (by decide) e57268
            have e57292 := Xy57281.ref h57271 (by decide) e57269
            have e57293 := Xy57281.ref h57271 (by decide) e57270
            have h57294 := Xy57281.at h57271
            have h57295 := Xy57281.ar h57272
            have h57296 := Xy57281.ar h57273
            have h57297 := Xy57281.ar h57274
            have h57298 := Xy57281.ar h57275
            refine g_iload C dX12_doubles_121 6 rfl ?_
            refine g_aload_n C dX12_doubles_123 rfl 1 rfl ?_
            refine g_getI C fi_X12_324 (by decide) (h57294).1 (h57294).2 dX12_doubles_124 ?_
            refine g_iload C dX12_doubles_127 5 rfl ?_
            have u57300 := ti_rng (pI Y57278 a0 35)
            have u57301 := ti_rng v50_4
            refine b_icmp_ne C 136 dX12_doubles_129 (by decide) (fun h57299 => ?_) (fun h57299 => ?_)
            · have h57299 : (pI Y57278 a0 35).toInt ≠ v50_4.toInt := ti_ne h57299
              refine g_iconst (v := 0) C dX12_doubles_136 (by decide) ?_
              refine g_lv (lv' := [(0, .ref a0), (1, .int a1), (2, .int a2), (3, .int a3), (4, .int v50_4), (6, .int v50_6)]) [1, 2, 3, 4, 5, 7] rfl ?_
              exact J137 Y57278 0 Iy57280 Xz57289 W57282 (by omega) (by omega) (by omega) (by omega) (by decide) (by omega) (by omega) (fun b9 e9 => by rw [e57290] at e9; cases e9; omega) (fun b9 e9 => by rw [e57291] at e9; cases e9; omega) (fun b9 e9 => by rw [e57293] at e9; cases e9; omega)
            · have h57299 : (pI Y57278 a0 35).toInt = v50_4.toInt := congrArg Int32.toInt h57299
              refine g_iconst (v := 1) C dX12_doubles_132 (by decide) ?_
              refine g_goto C 137 dX12_doubles_133 (by decide) ?_
              refine g_lv (lv' := [(0, .ref a0), (1, .int a1), (2, .int a2), (3, .int a3), (4, .int v50_4), (6, .int v50_6)]) [1, 2, 3, 4, 5, 7] rfl ?_
              exact J137 Y57278 1 Iy57280 Xz57289 W57282 (by omega) (by omega) (by omega) (by omega) (by decide) (by omega) (by omega) (fun b9 e9 => by rw [e57290] at e9; cases e9; omega) (fun b9 e9 => by rw [e57291] at e9; cases e9; omega) (fun b9 e9 => by rw [e57293] at e9; cases e9; omega)
  refine g_aload_n C dX12_doubles_0 rfl 0 rfl ?_
  refine g_iconst (v := 0) C dX12_doubles_1 (by decide) ?_
  refine g_putI C fi_X12_1 rfl (ha0).1 (ha0).2 dX12_doubles_2 ?_
  refine gqW (ks := [0]) (I.setI (rgOk.of rfl (by decide))) (EM.setI I (by decide)) (fun Y57302 Iy57303 Xy57304 w57305 => ?_)
  have w57305 : (pI Y57302 a0 0).toInt = 0 := w57305
  have W57306 := hW.keep I Xy57304 (by decide) (by decide) (by decide)
  have Xz57307 : EM [0, 28, 29, 30, 31, 32, 35, 36, 37, 38] a0 P Y57302 := Xy57304.mono (by decide)
  have h57308 := Xy57304.at ha0
  refine g_aload_n C dX12_doubles_5 rfl 0 rfl ?_
  refine g_iload_n C dX12_doubles_6 rfl 1 rfl ?_
  refine g_iload_n C dX12_doubles_7 rfl 2 rfl ?_
  refine g_iload_n C dX12_doubles_8 rfl 3 rfl ?_
  refine g_callVI (rest := []) C mv_X12_333 [.int a1, .int a2, .int a3] (s_X12_isAsked Iy57303 W57306) (h57308).1 (h57308).2 rfl rfl (by decide) (Nat.le_of_ble_eq_true rfl) (by decide) dX12_doubles_9 (fun r57309 Y57310 h57311 => ?_)
  obtain ⟨rfl, h57311⟩ := h57311
  obtain ⟨h57311, hi57312, hi57313⟩ := h57311
  have hi57312 : r57309.toInt = 0 ∨ (((0 : Int) ≤ a1.toInt ∧ a1.toInt ≤ (3 : Int)) ∧ ((0 : Int) ≤ a2.toInt ∧ a2.toInt ≤ (1 : Int)) ∧ ((0 : Int) ≤ a3.toInt ∧ a3.toInt ≤ (1 : Int))) := hi57312
  have h57311 : 0 ≤ r57309.toInt ∧ r57309.toInt ≤ 1 := h57311
  refine b_if_ne C 17 dX12_doubles_12 (by decide) (fun h57314 => ?_) (fun h57314 => ?_)
  · have h57314 : r57309.toInt ≠ 0 := ti_ne h57314
    replace hi57312 := hi57312.resolve_left (by omega)
    obtain ⟨b57315, e57316, h57317⟩ := Iy57303.fld (h57308) 10 13 2 rfl
    have hi57313 := (hi57313.resolve_left (by omega)) b57315 e57316
    have hi57313 : 0 < (pI Y57302 b57315 (a2.toInt.toNat)).toInt := hi57313
    have h57318 := Iy57303.arr e57316 rfl (a2.toInt.toNat)
    refine g_aload_n C dX12_doubles_17 rfl 0 rfl ?_
    refine g_callVV (rest := []) C mv_X12_336 [] (s_X12_leavesNone Iy57303 W57306) (h57308).1 (h57308).2 rfl rfl (by decide) (Nat.le_of_ble_eq_true rfl) (by decide) dX12_doubles_18 (fun Y57320 h57321 => ?_)
    obtain ⟨Iy57322, Xy57323, W57324⟩ := h57321
    have q57325 := Xy57323.keepF 0 (by decide)
    have q57326 := Xy57323.keepA e57316 (by decide) rfl (a2.toInt.toNat)
    have Xz57327 : EM [0, 28, 29, 30, 31, 32, 35, 36, 37, 38] a0 P Y57320 := EM.tr ha0 Xz57307 (Xy57323.mono (by decide))
    have e57328 := Xy57323.ref h57308 (by decide) e57316
    have h57329 := Xy57323.at h57308
    have h57330 := Xy57323.ar h57317
    refine g_aload_n C dX12_doubles_21 rfl 0 rfl ?_
    refine g_iload_n C dX12_doubles_22 rfl 1 rfl ?_
    refine g_iload_n C dX12_doubles_23 rfl 2 rfl ?_
    refine g_iload_n C dX12_doubles_24 rfl 3 rfl ?_
    refine g_aload_n C dX12_doubles_25 rfl 0 rfl ?_
    obtain ⟨b57331, e57332, h57333⟩ := Iy57322.fld (h57329) 20 13 20 rfl
    refine g_getR C fi_X12_69 rfl e57332 (h57329).1 (h57329).2 dX12_doubles_26 ?_
    refine g_iload_n C dX12_doubles_29 rfl 1 rfl ?_
    refine g_iald (j := (a1.toInt.toNat)) C h57333.1 h57333.2.1 (ix_in h57333.2.2 (by omega)) dX12_doubles_30 ?_
    have h57334 := Iy57322.arr e57332 rfl (a1.toInt.toNat)
    refine g_callVV (rest := []) C mv_X12_339 [.int a1, .int a2, .int a3, .int (pI Y57320 b57331 (a1.toInt.toNat))] (s_X12_gathers Iy57322 (by omega) (by omega) (by omega) (fun b9 e9 => by rw [e57328] at e9; cases e9; show 1 ≤ (pI Y57320 b57315 (a2.toInt.toNat)).toInt ∧ (pI Y57320 b57315 (a2.toInt.toNat)).toInt ≤ 16; omega) W57324) (h57329).1 (h57329).2 rfl rfl (by decide) (Nat.le_of_ble_eq_true rfl) (by decide) dX12_doubles_31 (fun Y57336 h57337 => ?_)
    obtain ⟨Iy57338, Xy57339, W57340, p57341⟩ := h57337
    have p57341 : (pI Y57336 a0 28).toInt ≤ 4 + (pI Y57320 b57331 (a1.toInt.toNat)).toInt := p57341
    have q57342 := Xy57339.keepF 0 (by decide)
    have q57343 := Xy57339.keepA e57328 (by decide) rfl (a2.toInt.toNat)
    have q57344 := Xy57339.keepA e57332 (by decide) rfl (a1.toInt.toNat)
    have Xz57345 : EM [0, 28, 29, 30, 31, 32, 35, 36, 37, 38] a0 P Y57336 := EM.tr ha0 Xz57327 (Xy57339.mono (by decide))
    have e57346 := Xy57339.ref h57329 (by decide) e57328
    have e57347 := Xy57339.ref h57329 (by decide) e57332
    have h57348 := Xy57339.at h57329
    have h57349 := Xy57339.ar h57330
    have h57350 := Xy57339.ar h57333
    have h57351 := Iy57338.rg h57348 28 rfl
    refine g_aload_n C dX12_doubles_34 rfl 0 rfl ?_
    refine g_callVV (rest := []) C mv_X12_346 [] (s_X12_findSolved Iy57338 W57340) (h57348).1 (h57348).2 rfl rfl (by decide) (Nat.le_of_ble_eq_true rfl) (by decide) dX12_doubles_35 (fun Y57353 h57354 => ?_)
    obtain ⟨Iy57355, Xy57356, W57357⟩ := h57354
    have q57358 := Xy57356.keepF 0 (by decide)
    have q57359 := Xy57356.keepA e57346 (by decide) rfl (a2.toInt.toNat)
    have q57360 := Xy57356.keepA e57347 (by decide) rfl (a1.toInt.toNat)
    have q57361 := Xy57356.keepF 28 (by decide)
    have Xz57362 : EM [0, 28, 29, 30, 31, 32, 35, 36, 37, 38] a0 P Y57353 := EM.tr ha0 Xz57345 (Xy57356.mono (by decide))
    have e57363 := Xy57356.ref h57348 (by decide) e57346
    have e57364 := Xy57356.ref h57348 (by decide) e57347
    have h57365 := Xy57356.at h57348
    have h57366 := Xy57356.ar h57349
    have h57367 := Xy57356.ar h57350
    refine g_aload_n C dX12_doubles_38 rfl 0 rfl ?_
    refine g_getI C fi_X12_324 (by decide) (h57365).1 (h57365).2 dX12_doubles_39 ?_
    refine g_topi (fun z57368 h57369 => ?_)
    have h57369 : z57368.toInt = (pI Y57353 a0 35).toInt := congrArg Int32.toInt h57369
    refine g_istore (lv' := [(4, .int z57368), (0, .ref a0), (1, .int a1), (2, .int a2), (3, .int a3)]) C dX12_doubles_42 (by decide) rfl ?_
    refine g_iconst (v := 0) C dX12_doubles_44 (by decide) ?_
    refine g_istore (lv' := [(5, .int 0), (4, .int z57368), (0, .ref a0), (1, .int a1), (2, .int a2), (3, .int a3)]) C dX12_doubles_45 (by decide) rfl ?_
    refine g_iconst (v := 0) C dX12_doubles_47 (by decide) ?_
    refine g_istore (lv' := [(6, .int 0), (5, .int 0), (4, .int z57368), (0, .ref a0), (1, .int a1), (2, .int a2), (3, .int a3)]) C dX12_doubles_48 (by decide) rfl ?_
    refine g_lv (lv' := [(0, .ref a0), (1, .int a1), (2, .int a2), (3, .int a3), (4, .int z57368), (5, .int 0), (6, .int 0)]) [3, 4, 5, 6, 2, 1, 0] rfl ?_
    exact J50 _ Y57353 z57368 0 0 (Nat.lt_succ_self _) Iy57355 Xz57362 W57357 (by omega) (by omega) (by omega) (by decide) (by omega) (by omega) (fun b9 e9 => by rw [e57363] at e9; cases e9; omega)
  · have h57314 : r57309.toInt = 0 := congrArg Int32.toInt h57314
    clear hi57312
    refine g_iconst (v := (-1)) C dX12_doubles_15 (by decide) ?_
    exact ret _ _ _ _ _ _ dX12_doubles_16 rfl (by decide) (by decide) ⟨Iy57303, Xz57307, W57306, trivial⟩
theorem s_X12_draw {P : PP} {a0 : Nat} {a1 : Int32} (I : IM P a0) (hW : MW P a0) : CtrI yX12_draw cX12_draw 3 (some .int) ({ frames := 7, cells := 0, slots := 0, locals := 448 } : Room) 0 0 P [.ref a0, .int a1] (fun r P2 => IM P2 a0 ∧ EM [0, 2, 3, 4, 5, 7, 8, 12, 13, 14, 15, 16, 17, 18, 26] a0 P P2 ∧ MW P2 a0 ∧ (True)) := by
  sorry
theorem dX12_enough_0 : decode cX12_enough 0 = .ok (.aload_n 0, 1) := by decide +kernel
theorem dX12_enough_1 : decode cX12_enough 1 = .ok (.iconst 0, 1) := by decide +kernel
theorem dX12_enough_2 : decode cX12_enough 2 = .ok (.putfield 1, 3) := by decide +kernel
theorem dX12_enough_5 : decode cX12_enough 5 = .ok (.aload_n 0, 1) := by decide +kernel
theorem dX12_enough_6 : decode cX12_enough 6 = .ok (.iload_n 1, 1) := by decide +kernel
theorem dX12_enough_7 : decode cX12_enough 7 = .ok (.iload_n 2, 1) := by decide +kernel
theorem dX12_enough_8 : decode cX12_enough 8 = .ok (.iload_n 3, 1) := by decide +kernel
theorem dX12_enough_9 : decode cX12_enough 9 = .ok (.invokevirtual 377, 3) := by decide +kernel
theorem dX12_enough_12 : decode cX12_enough 12 = .ok (.ifCond .ne 5, 3) := by decide +kernel
theorem dX12_enough_15 : decode cX12_enough 15 = .ok (.iconst (-1), 1) := by decide +kernel
theorem dX12_enough_16 : decode cX12_enough 16 = .ok (.ireturn, 1) := by decide +kernel
theorem dX12_enough_17 : decode cX12_enough 17 = .ok (.aload_n 0, 1) := by decide +kernel
theorem dX12_enough_18 : decode cX12_enough 18 = .ok (.iload_n 1, 1) := by decide +kernel
theorem dX12_enough_19 : decode cX12_enough 19 = .ok (.iload_n 2, 1) := by decide +kernel
theorem dX12_enough_20 : decode cX12_enough 20 = .ok (.invokevirtual 380, 3) := by decide +kernel
theorem dX12_enough_23 : decode cX12_enough 23 = .ok (.iconst 0, 1) := by decide +kernel
theorem dX12_enough_24 : decode cX12_enough 24 = .ok (.istore 5, 2) := by decide +kernel
theorem dX12_enough_26 : decode cX12_enough 26 = .ok (.iload 5, 2) := by decide +kernel
theorem dX12_enough_28 : decode cX12_enough 28 = .ok (.iload_n 2, 1) := by decide +kernel
theorem dX12_enough_29 : decode cX12_enough 29 = .ok (.if_icmp .gt 55, 3) := by decide +kernel
theorem dX12_enough_32 : decode cX12_enough 32 = .ok (.aload_n 0, 1) := by decide +kernel
theorem dX12_enough_33 : decode cX12_enough 33 = .ok (.iload_n 1, 1) := by decide +kernel
theorem dX12_enough_34 : decode cX12_enough 34 = .ok (.iload_n 2, 1) := by decide +kernel
theorem dX12_enough_35 : decode cX12_enough 35 = .ok (.iload 5, 2) := by decide +kernel
theorem dX12_enough_37 : decode cX12_enough 37 = .ok (.iload_n 3, 1) := by decide +kernel
theorem dX12_enough_38 : decode cX12_enough 38 = .ok (.invokevirtual 383, 3) := by decide +kernel
theorem dX12_enough_41 : decode cX12_enough 41 = .ok (.istore 6, 2) := by decide +kernel
theorem dX12_enough_43 : decode cX12_enough 43 = .ok (.iload 4, 2) := by decide +kernel
theorem dX12_enough_45 : decode cX12_enough 45 = .ok (.ifCond .eq 19, 3) := by decide +kernel
theorem dX12_enough_48 : decode cX12_enough 48 = .ok (.iconst 2, 1) := by decide +kernel
theorem dX12_enough_49 : decode cX12_enough 49 = .ok (.iload 6, 2) := by decide +kernel
theorem dX12_enough_51 : decode cX12_enough 51 = .ok (.imul, 1) := by decide +kernel
theorem dX12_enough_52 : decode cX12_enough 52 = .ok (.iload_n 2, 1) := by decide +kernel
theorem dX12_enough_53 : decode cX12_enough 53 = .ok (.iload 5, 2) := by decide +kernel
theorem dX12_enough_55 : decode cX12_enough 55 = .ok (.invokestatic 387, 3) := by decide +kernel
theorem dX12_enough_58 : decode cX12_enough 58 = .ok (.if_icmp .lt 20, 3) := by decide +kernel
theorem dX12_enough_61 : decode cX12_enough 61 = .ok (.goto 14, 3) := by decide +kernel
theorem dX12_enough_64 : decode cX12_enough 64 = .ok (.iload 6, 2) := by decide +kernel
theorem dX12_enough_66 : decode cX12_enough 66 = .ok (.iload_n 2, 1) := by decide +kernel
theorem dX12_enough_67 : decode cX12_enough 67 = .ok (.iload 5, 2) := by decide +kernel
theorem dX12_enough_69 : decode cX12_enough 69 = .ok (.invokestatic 387, 3) := by decide +kernel
theorem dX12_enough_72 : decode cX12_enough 72 = .ok (.if_icmp .ne 6, 3) := by decide +kernel
theorem dX12_enough_75 : decode cX12_enough 75 = .ok (.iload 5, 2) := by decide +kernel
theorem dX12_enough_77 : decode cX12_enough 77 = .ok (.ireturn, 1) := by decide +kernel
theorem dX12_enough_78 : decode cX12_enough 78 = .ok (.iinc 5 1, 3) := by decide +kernel
theorem dX12_enough_81 : decode cX12_enough 81 = .ok (.goto (-55), 3) := by decide +kernel
theorem dX12_enough_84 : decode cX12_enough 84 = .ok (.iconst (-1), 1) := by decide +kernel
theorem dX12_enough_85 : decode cX12_enough 85 = .ok (.ireturn, 1) := by decide +kernel
set_option maxHeartbeats 4000000 in
set_option maxRecDepth 100000 in
theorem s_X12_enough {P : PP} {a0 : Nat} {a1 : Int32} {a2 : Int32} {a3 : Int32} {a4 : Int32} (I : IM P a0) (ha4 : 0 ≤ a4.toInt ∧ a4.toInt ≤ 1) (hW : MW P a0) : CtrI yX12_enough cX12_enough 7 (some Jvm.ClassFile.FieldType.int) ({ frames := 5, cells := 0, slots := 0, locals := 320 } : Room) 0 0 P [.ref a0, .int a1, .int a2, .int a3, .int a4] (fun r P2 => IM P2 a0 ∧ EM [0, 28, 29, 30, 31, 33, 34, 35, 36, 37, 38, 43] a0 P P2 ∧ MW P2 a0 ∧ (-1 ≤ r.toInt ∧ r.toInt ≤ 11)) := by
  refine enI (lv := [(0, .ref a0), (1, .int a1), (2, .int a2), (3, .int a3), (4, .int a4)]) (by decide) (Nat.le_of_ble_eq_true rfl) rfl (fun E D cy C Ci0 ret => ?_)
  have ha0 := I.2.1
  have J75 : ∀ (P75 : PP) (v75_5 : Int32), (IM P75 a0) → (EM [0, 28, 29, 30, 31, 33, 34, 35, 36, 37, 38, 43] a0 P P75) → (MW P75 a0) → (0 ≤ v75_5.toInt ∧ v75_5.toInt ≤ 11) → (0 ≤ (pI P75 a0 0).toInt ∧ (pI P75 a0 0).toInt ≤ 0) → (∀ b, pR P75 a0 10 = some b → 1 ≤ (pI P75 b (a1.toInt.toNat)).toInt ∧ (pI P75 b (a1.toInt.toNat)).toInt ≤ 16) → G E ({ frames := 5, cells := 0, slots := 0, locals := 320 } : Room) D cy 7 P75 0 0 75 [(5, .int v75_5)] [] := by
    intro P75 v75_5 I75 X75 W75 hv75_5 hq75_0 hq75_1
    have h57809 := X75.at ha0
    obtain ⟨b57810, e57811, h57812⟩ := I75.fld (h57809) 10 13 2 rfl
    have hq75_1 := hq75_1 b57810 e57811
    refine g_iload C dX12_enough_75 0 rfl ?_
    exact ret _ _ _ _ _ _ dX12_enough_77 rfl (by decide) (by decide) ⟨I75, X75, W75, (by omega)⟩
  have J26 : ∀ (n26 : Nat) (P26 : PP) (v26_5 : Int32), (12 - v26_5.toInt).toNat < n26 → (IM P26 a0) → (EM [0, 28, 29, 30, 31, 33, 34, 35, 36, 37, 38, 43] a0 P P26) → (MW P26 a0) → (0 ≤ a1.toInt ∧ a1.toInt ≤ 1) → (1 ≤ a2.toInt ∧ a2.toInt ≤ 11) → (0 ≤ a3.toInt ∧ a3.toInt ≤ 1) → (0 ≤ v26_5.toInt ∧ v26_5.toInt ≤ 12) → (0 ≤ (pI P26 a0 0).toInt ∧ (pI P26 a0 0).toInt ≤ 0) → (∀ b, pR P26 a0 10 = some b → 1 ≤ (pI P26 b (a1.toInt.toNat)).toInt ∧ (pI P26 b (a1.toInt.toNat)).toInt ≤ 16) → G E ({ frames := 5, cells := 0, slots := 0, locals := 320 } : Room) D cy 7 P26 0 0 26 [(0, .ref a0), (1, .int a1), (2, .int a2), (3, .int a3), (4, .int a4), (5, .int v26_5)] [] := by
    intro n26
    induction n26 with
    | zero => intro P26 v26_5 hm26 I26 X26 W26 hv26_1 hv26_2 hv26_3 hv26_5 hq26_0 hq26_1; omega
    | succ n26 ih26 =>
      intro P26 v26_5 hm26 I26 X26 W26 hv26_1 hv26_2 hv26_3 hv26_5 hq26_0 hq26_1
      have h57813 := X26.at ha0
      obtain ⟨b57814, e57815, h57816⟩ := I26.fld (h57813) 10 13 2 rfl
      have hq26_1 := hq26_1 b57814 e57815
      have J78 : ∀ (P78 : PP), (IM P78 a0) → (EM [0, 28, 29, 30, 31, 33, 34, 35, 36, 37, 38, 43] a0 P P78) → (MW P78 a0) → (0 ≤ a1.toInt ∧ a1.toInt ≤ 1) → (1 ≤ a2.toInt ∧ a2.toInt ≤ 11) → (0 ≤ a3.toInt ∧ a3.toInt ≤ 1) → (0 ≤ v26_5.toInt ∧ v26_5.toInt ≤ 11) → (0 ≤ (pI P78 a0 0).toInt ∧ (pI P78 a0 0).toInt ≤ 0) → (∀ b, pR P78 a0 10 = some b → 1 ≤ (pI P78 b (a1.toInt.toNat)).toInt ∧ (pI P78 b (a1.toInt.toNat)).toInt ≤ 16) → G E ({ frames := 5, cells := 0, slots := 0, locals := 320 } : Room) D cy 7 P78 0 0 78 [(0, .ref a0), (1, .int a1), (2, .int a2), (3, .int a3), (4, .int a4), (5, .int v26_5)] [] := by
        intro P78 I78 X78 W78 hv78_1 hv78_2 hv78_3 hv78_5 hq78_0 hq78_1
        have h57817 := X78.at ha0
        obtain ⟨b57818, e57819, h57820⟩ := I78.fld (h57817) 10 13 2 rfl
        have hq78_1 := hq78_1 b57818 e57819
        refine s_iinc (lv0 := [(0, .ref a0), (1, .int a1), (2, .int a2), (3, .int a3), (4, .int a4)]) (m := 1) C dX12_enough_78 5 rfl (by decide) rfl (by decide) (by omega) (fun z57821 h57822 => ?_)
        have h57822 : z57821.toInt = v26_5.toInt + 1 := h57822
        refine g_goto C 26 dX12_enough_81 (by decide) ?_
        refine g_lv (lv' := [(0, .ref a0), (1, .int a1), (2, .int a2), (3, .int a3), (4, .int a4), (5, .int z57821)]) [1, 2, 3, 4, 5, 0] rfl ?_
        exact ih26 P78 z57821 (by omega) I78 X78 W78 (by omega) (by omega) (by omega) (by omega) (by omega) (fun b9 e9 => by rw [e57819] at e9; cases e9; omega)
      refine g_iload C dX12_enough_26 5 rfl ?_
      refine g_iload_n C dX12_enough_28 rfl 2 rfl ?_
      refine b_icmp_gt C 84 dX12_enough_29 (by decide) (fun h57823 => ?_) (fun h57823 => ?_)
      · have h57823 : a2.toInt < v26_5.toInt := h57823
        refine g_iconst (v := (-1)) C dX12_enough_84 (by decide) ?_
        exact ret _ _ _ _ _ _ dX12_enough_85 rfl (by decide) (by decide) ⟨I26, X26, W26, (by decide)⟩
      · have h57823 : v26_5.toInt ≤ a2.toInt := h57823
        refine g_aload_n C dX12_enough_32 rfl 0 rfl ?_
        refine g_iload_n C dX12_enough_33 rfl 1 rfl ?_
        refine g_iload_n C dX12_enough_34 rfl 2 rfl ?_
        refine g_iload C dX12_enough_35 5 rfl ?_
        refine g_iload_n C dX12_enough_37 rfl 3 rfl ?_
        refine g_callVI (rest := []) C mv_X12_383 [.int a1, .int a2, .int v26_5, .int a3] (s_X12_chancesOf I26 (by omega) (by omega) (fun b9 e9 => by rw [e57815] at e9; cases e9; show 1 ≤ (pI P26 b57814 (a1.toInt.toNat)).toInt ∧ (pI P26 b57814 (a1.toInt.toNat)).toInt ≤ 16; omega) W26) (h57813).1 (h57813).2 rfl rfl (by decide) (Nat.le_of_ble_eq_true rfl) (by decide) dX12_enough_38 (fun r57824 Y57825 h57826 => ?_)
        obtain ⟨Iy57827, Xy57828, W57829, h57826⟩ := h57826
        have q57830 := Xy57828.keepF 0 (by decide)
        have q57831 := Xy57828.keepA e57815 (by decide) rfl (a1.toInt.toNat)
        have Xz57832 : EM [0, 28, 29, 30, 31, 33, 34, 35, 36, 37, 38, 43] a0 P Y57825 := EM.tr ha0 X26 (Xy57828.mono (by decide))
        have e57833 := Xy57828.ref h57813 (by decide) e57815
        have h57834 := Xy57828.at h57813
        have h57835 := Xy57828.ar h57816
        have h57826 : True := h57826
        refine g_istore (lv' := [(6, .int r57824), (0, .ref a0), (1, .int a1), (2, .int a2), (3, .int a3), (4, .int a4), (5, .int v26_5)]) C dX12_enough_41 (by decide) rfl ?_
        refine g_iload C dX12_enough_43 5 rfl ?_
        refine b_if_eq C 64 dX12_enough_45 (by decide) (fun h57836 => ?_) (fun h57836 => ?_)
        · have h57836 : a4.toInt = 0 := congrArg Int32.toInt h57836
          refine g_iload C dX12_enough_64 0 rfl ?_
          refine g_iload_n C dX12_enough_66 rfl 3 rfl ?_
          refine g_iload C dX12_enough_67 6 rfl ?_
          refine g_callSI (b := 0) (ci := 0) (rest := [.int r57824]) C ms_X12_387 [.int a2, .int v26_5] (s_X12_choices Iy57827.1 (by omega) (by omega)) rfl rfl (by decide) (Nat.le_of_ble_eq_true rfl) (by decide) dX12_enough_69 (fun r57837 Y57838 h57839 => ?_)
          obtain ⟨rfl, h57839⟩ := h57839
          have h57839 : True := h57839
          have u57841 := ti_rng r57824
          have u57842 := ti_rng r57837
          refine b_icmp_ne C 78 dX12_enough_72 (by decide) (fun h57840 => ?_) (fun h57840 => ?_)
          · have h57840 : r57824.toInt ≠ r57837.toInt := ti_ne h57840
            refine g_lv (lv' := [(0, .ref a0), (1, .int a1), (2, .int a2), (3, .int a3), (4, .int a4), (5, .int v26_5)]) [1, 2, 3, 4, 5, 6] rfl ?_
            exact J78 Y57825 Iy57827 Xz57832 W57829 (by omega) (by omega) (by omega) (by omega) (by omega) (fun b9 e9 => by rw [e57833] at e9; cases e9; omega)
          · have h57840 : r57824.toInt = r57837.toInt := congrArg Int32.toInt h57840
            refine g_lv (lv' := [(5, .int v26_5)]) [6] rfl ?_
            exact J75 Y57825 v26_5 Iy57827 Xz57832 W57829 (by omega) (by omega) (fun b9 e9 => by rw [e57833] at e9; cases e9; omega)
        · have h57836 : a4.toInt ≠ 0 := ti_ne h57836
          refine g_iconst (v := 2) C dX12_enough_48 (by decide) ?_
          refine g_iload C dX12_enough_49 0 rfl ?_
          refine a_imul C dX12_enough_51 (fun z57843 => ?_)
          refine g_iload_n C dX12_enough_52 rfl 3 rfl ?_
          refine g_iload C dX12_enough_53 6 rfl ?_
          refine g_callSI (b := 0) (ci := 0) (rest := [.int z57843]) C ms_X12_387 [.int a2, .int v26_5] (s_X12_choices Iy57827.1 (by omega) (by omega)) rfl rfl (by decide) (Nat.le_of_ble_eq_true rfl) (by decide) dX12_enough_55 (fun r57845 Y57846 h57847 => ?_)
          obtain ⟨rfl, h57847⟩ := h57847
          have h57847 : True := h57847
          have u57849 := ti_rng z57843
          have u57850 := ti_rng r57845
          refine b_icmp_lt C 78 dX12_enough_58 (by decide) (fun h57848 => ?_) (fun h57848 => ?_)
          · have h57848 : z57843.toInt < r57845.toInt := h57848
            refine g_lv (lv' := [(0, .ref a0), (1, .int a1), (2, .int a2), (3, .int a3), (4, .int a4), (5, .int v26_5)]) [1, 2, 3, 4, 5, 6] rfl ?_
            exact J78 Y57825 Iy57827 Xz57832 W57829 (by omega) (by omega) (by omega) (by omega) (by omega) (fun b9 e9 => by rw [e57833] at e9; cases e9; omega)
          · have h57848 : r57845.toInt ≤ z57843.toInt := h57848
            refine g_goto C 75 dX12_enough_61 (by decide) ?_
            refine g_lv (lv' := [(5, .int v26_5)]) [6] rfl ?_
            exact J75 Y57825 v26_5 Iy57827 Xz57832 W57829 (by omega) (by omega) (fun b9 e9 => by rw [e57833] at e9; cases e9; omega)
  refine g_aload_n C dX12_enough_0 rfl 0 rfl ?_
  refine g_iconst (v := 0) C dX12_enough_1 (by decide) ?_
  refine g_putI C fi_X12_1 rfl (ha0).1 (ha0).2 dX12_enough_2 ?_
  refine gqW (ks := [0]) (I.setI (rgOk.of rfl (by decide))) (EM.setI I (by decide)) (fun Y57851 Iy57852 Xy57853 w57854 => ?_)
  have w57854 : (pI Y57851 a0 0).toInt = 0 := w57854
  have W57855 := hW.keep I Xy57853 (by decide) (by decide) (by decide)
  have Xz57856 : EM [0, 28, 29, 30, 31, 33, 34, 35, 36, 37, 38, 43] a0 P Y57851 := Xy57853.mono (by decide)
  have h57857 := Xy57853.at ha0
  refine g_aload_n C dX12_enough_5 rfl 0 rfl ?_
  refine g_iload_n C dX12_enough_6 rfl 1 rfl ?_
  refine g_iload_n C dX12_enough_7 rfl 2 rfl ?_
  refine g_iload_n C dX12_enough_8 rfl 3 rfl ?_
  refine g_callVI (rest := []) C mv_X12_377 [.int a1, .int a2, .int a3] (s_X12_areChances Iy57852 W57855) (h57857).1 (h57857).2 rfl rfl (by decide) (Nat.le_of_ble_eq_true rfl) (by decide) dX12_enough_9 (fun r57858 Y57859 h57860 => ?_)
  obtain ⟨rfl, h57860⟩ := h57860
  obtain ⟨h57860, hi57861, hi57862⟩ := h57860
  have hi57861 : r57858.toInt = 0 ∨ (((0 : Int) ≤ a1.toInt ∧ a1.toInt ≤ (1 : Int)) ∧ ((1 : Int) ≤ a2.toInt ∧ a2.toInt ≤ (11 : Int)) ∧ ((0 : Int) ≤ a3.toInt ∧ a3.toInt ≤ (1 : Int))) := hi57861
  have h57860 : 0 ≤ r57858.toInt ∧ r57858.toInt ≤ 1 := h57860
  refine b_if_ne C 17 dX12_enough_12 (by decide) (fun h57863 => ?_) (fun h57863 => ?_)
  · have h57863 : r57858.toInt ≠ 0 := ti_ne h57863
    replace hi57861 := hi57861.resolve_left (by omega)
    obtain ⟨b57864, e57865, h57866⟩ := Iy57852.fld (h57857) 10 13 2 rfl
    have hi57862 := (hi57862.resolve_left (by omega)) b57864 e57865
    have hi57862 : 0 < (pI Y57851 b57864 (a1.toInt.toNat)).toInt := hi57862
    have h57867 := Iy57852.arr e57865 rfl (a1.toInt.toNat)
    refine g_aload_n C dX12_enough_17 rfl 0 rfl ?_
    refine g_iload_n C dX12_enough_18 rfl 1 rfl ?_
    refine g_iload_n C dX12_enough_19 rfl 2 rfl ?_
    refine g_callVV (rest := []) C mv_X12_380 [.int a1, .int a2] (s_X12_keepsSets Iy57852 (by omega) (by omega) (fun b9 e9 => by rw [e57865] at e9; cases e9; show 1 ≤ (pI Y57851 b57864 (a1.toInt.toNat)).toInt ∧ (pI Y57851 b57864 (a1.toInt.toNat)).toInt ≤ 16; omega) W57855) (h57857).1 (h57857).2 rfl rfl (by decide) (Nat.le_of_ble_eq_true rfl) (by decide) dX12_enough_20 (fun Y57869 h57870 => ?_)
    obtain ⟨Iy57871, Xy57872, W57873⟩ := h57870
    have q57874 := Xy57872.keepF 0 (by decide)
    have q57875 := Xy57872.keepA e57865 (by decide) rfl (a1.toInt.toNat)
    have Xz57876 : EM [0, 28, 29, 30, 31, 33, 34, 35, 36, 37, 38, 43] a0 P Y57869 := EM.tr ha0 Xz57856 (Xy57872.mono (by decide))
    have e57877 := Xy57872.ref h57857 (by decide) e57865
    have h57878 := Xy57872.at h57857
    have h57879 := Xy57872.ar h57866
    refine g_iconst (v := 0) C dX12_enough_23 (by decide) ?_
    refine g_istore (lv' := [(5, .int 0), (0, .ref a0), (1, .int a1), (2, .int a2), (3, .int a3), (4, .int a4)]) C dX12_enough_24 (by decide) rfl ?_
    refine g_lv (lv' := [(0, .ref a0), (1, .int a1), (2, .int a2), (3, .int a3), (4, .int a4), (5, .int 0)]) [1, 2, 3, 4, 5, 0] rfl ?_
    exact J26 _ Y57869 0 (Nat.lt_succ_self _) Iy57871 Xz57876 W57873 (by omega) (by omega) (by omega) (by decide) (by omega) (fun b9 e9 => by rw [e57877] at e9; cases e9; omega)
  · have h57863 : r57858.toInt = 0 := congrArg Int32.toInt h57863
    clear hi57861
    refine g_iconst (v := (-1)) C dX12_enough_15 (by decide) ?_
    exact ret _ _ _ _ _ _ dX12_enough_16 rfl (by decide) (by decide) ⟨Iy57852, Xz57856, W57855, (by decide)⟩
theorem dX12_falls_0 : decode cX12_falls 0 = .ok (.iload_n 3, 1) := by decide +kernel
theorem dX12_falls_1 : decode cX12_falls 1 = .ok (.bipush 37, 2) := by decide +kernel
theorem dX12_falls_3 : decode cX12_falls 3 = .ok (.imul, 1) := by decide +kernel
theorem dX12_falls_4 : decode cX12_falls 4 = .ok (.bipush 11, 2) := by decide +kernel
theorem dX12_falls_6 : decode cX12_falls 6 = .ok (.iload_n 2, 1) := by decide +kernel
theorem dX12_falls_7 : decode cX12_falls 7 = .ok (.imul, 1) := by decide +kernel
theorem dX12_falls_8 : decode cX12_falls 8 = .ok (.iadd, 1) := by decide +kernel
theorem dX12_falls_9 : decode cX12_falls 9 = .ok (.bipush 101, 2) := by decide +kernel
theorem dX12_falls_11 : decode cX12_falls 11 = .ok (.iload_n 1, 1) := by decide +kernel
theorem dX12_falls_12 : decode cX12_falls 12 = .ok (.imul, 1) := by decide +kernel
theorem dX12_falls_13 : decode cX12_falls 13 = .ok (.iadd, 1) := by decide +kernel
theorem dX12_falls_14 : decode cX12_falls 14 = .ok (.bipush 13, 2) := by decide +kernel
theorem dX12_falls_16 : decode cX12_falls 16 = .ok (.iadd, 1) := by decide +kernel
theorem dX12_falls_17 : decode cX12_falls 17 = .ok (.bipush 7, 2) := by decide +kernel
theorem dX12_falls_19 : decode cX12_falls 19 = .ok (.imul, 1) := by decide +kernel
theorem dX12_falls_20 : decode cX12_falls 20 = .ok (.bipush 100, 2) := by decide +kernel
theorem dX12_falls_22 : decode cX12_falls 22 = .ok (.irem, 1) := by decide +kernel
theorem dX12_falls_23 : decode cX12_falls 23 = .ok (.aload_n 0, 1) := by decide +kernel
theorem dX12_falls_24 : decode cX12_falls 24 = .ok (.getfield 127, 3) := by decide +kernel
theorem dX12_falls_27 : decode cX12_falls 27 = .ok (.iload_n 1, 1) := by decide +kernel
theorem dX12_falls_28 : decode cX12_falls 28 = .ok (.iaload, 1) := by decide +kernel
theorem dX12_falls_29 : decode cX12_falls 29 = .ok (.if_icmp .lt 7, 3) := by decide +kernel
theorem dX12_falls_32 : decode cX12_falls 32 = .ok (.iconst 1, 1) := by decide +kernel
theorem dX12_falls_33 : decode cX12_falls 33 = .ok (.goto 4, 3) := by decide +kernel
theorem dX12_falls_36 : decode cX12_falls 36 = .ok (.iconst 0, 1) := by decide +kernel
theorem dX12_falls_37 : decode cX12_falls 37 = .ok (.ireturn, 1) := by decide +kernel
set_option maxHeartbeats 4000000 in
set_option maxRecDepth 100000 in
theorem s_X12_falls {P : PP} {a0 : Nat} {a1 : Int32} {a2 : Int32} {a3 : Int32} (I : IM P a0) (ha1 : 0 ≤ a1.toInt ∧ a1.toInt ≤ 3) (hW : MW P a0) : CtrI yX12_falls cX12_falls 4 (some Jvm.ClassFile.FieldType.boolean) ({ frames := 1, cells := 0, slots := 0, locals := 64 } : Room) 0 0 P [.ref a0, .int a1, .int a2, .int a3] (fun r P2 => P = P2 ∧ (0 ≤ r.toInt ∧ r.toInt ≤ 1)) := by
  refine enI (lv := [(0, .ref a0), (1, .int a1), (2, .int a2), (3, .int a3)]) (by decide) (Nat.le_of_ble_eq_true rfl) rfl (fun E D cy C Ci0 ret => ?_)
  have ha0 := I.2.1
  refine g_iload_n C dX12_falls_0 rfl 3 rfl ?_
  refine g_bipush (v := 37) C dX12_falls_1 (by decide) ?_
  refine a_imul C dX12_falls_3 (fun z57901 => ?_)
  refine g_bipush (v := 11) C dX12_falls_4 (by decide) ?_
  refine g_iload_n C dX12_falls_6 rfl 2 rfl ?_
  refine a_imul C dX12_falls_7 (fun z57903 => ?_)
  refine a_iadd C dX12_falls_8 (fun z57905 => ?_)
  refine g_bipush (v := 101) C dX12_falls_9 (by decide) ?_
  refine g_iload_n C dX12_falls_11 rfl 1 rfl ?_
  refine s_imul C dX12_falls_12 (by show -2147483648 ≤ 101 * a1.toInt ∧ 101 * a1.toInt ≤ 2147483647; omega) (fun z57907 h57908 => ?_)
  have h57908 : z57907.toInt = 101 * a1.toInt := h57908
  refine a_iadd C dX12_falls_13 (fun z57909 => ?_)
  refine g_bipush (v := 13) C dX12_falls_14 (by decide) ?_
  refine a_iadd C dX12_falls_16 (fun z57911 => ?_)
  refine g_bipush (v := 7) C dX12_falls_17 (by decide) ?_
  refine a_imul C dX12_falls_19 (fun z57913 => ?_)
  refine g_bipush (v := 100) C dX12_falls_20 (by decide) ?_
  refine s_irem C dX12_falls_22 (by show 0 < 100; omega) (fun z57915 h57916 => ?_)
  have h57916 : -100 < z57915.toInt ∧ z57915.toInt < 100 := h57916
  refine g_aload_n C dX12_falls_23 rfl 0 rfl ?_
  obtain ⟨b57917, e57918, h57919⟩ := I.fld (ha0) 45 13 4 rfl
  refine g_getR C fi_X12_127 rfl e57918 (ha0).1 (ha0).2 dX12_falls_24 ?_
  refine g_iload_n C dX12_falls_27 rfl 1 rfl ?_
  refine g_iald (j := (a1.toInt.toNat)) C h57919.1 h57919.2.1 (ix_in h57919.2.2 (by omega)) dX12_falls_28 ?_
  have u57921 := ti_rng (pI P b57917 (a1.toInt.toNat))
  refine b_icmp_lt C 36 dX12_falls_29 (by decide) (fun h57920 => ?_) (fun h57920 => ?_)
  · have h57920 : z57915.toInt < (pI P b57917 (a1.toInt.toNat)).toInt := h57920
    refine g_iconst (v := 0) C dX12_falls_36 (by decide) ?_
    exact ret _ _ _ _ _ _ dX12_falls_37 rfl (by decide) (by decide) ⟨rfl, (by decide)⟩
  · have h57920 : (pI P b57917 (a1.toInt.toNat)).toInt ≤ z57915.toInt := h57920
    refine g_iconst (v := 1) C dX12_falls_32 (by decide) ?_
    refine g_goto C 37 dX12_falls_33 (by decide) ?_
    exact ret _ _ _ _ _ _ dX12_falls_37 rfl (by decide) (by decide) ⟨rfl, (by decide)⟩
theorem dX12_feed_0 : decode cX12_feed 0 = .ok (.aload_n 0, 1) := by decide +kernel
theorem dX12_feed_1 : decode cX12_feed 1 = .ok (.iconst 0, 1) := by decide +kernel
theorem dX12_feed_2 : decode cX12_feed 2 = .ok (.putfield 1, 3) := by decide +kernel
theorem dX12_feed_5 : decode cX12_feed 5 = .ok (.aload_n 0, 1) := by decide +kernel
theorem dX12_feed_6 : decode cX12_feed 6 = .ok (.lload_n 1, 1) := by decide +kernel
theorem dX12_feed_7 : decode cX12_feed 7 = .ok (.invokevirtual 7, 3) := by decide +kernel
theorem dX12_lay_0 : decode cX12_lay 0 = .ok (.bipush 56, 2) := by decide +kernel
theorem dX12_lay_2 : decode cX12_lay 2 = .ok (.istore_n 3, 1) := by decide +kernel
theorem dX12_lay_3 : decode cX12_lay 3 = .ok (.iload_n 3, 1) := by decide +kernel
theorem dX12_lay_4 : decode cX12_lay 4 = .ok (.ifCond .lt 71, 3) := by decide +kernel
theorem dX12_lay_7 : decode cX12_lay 7 = .ok (.lload_n 1, 1) := by decide +kernel
theorem dX12_lay_8 : decode cX12_lay 8 = .ok (.iload_n 3, 1) := by decide +kernel
theorem dX12_lay_9 : decode cX12_lay 9 = .ok (.lshr, 1) := by decide +kernel
theorem dX12_lay_10 : decode cX12_lay 10 = .ok (.l2i, 1) := by decide +kernel
theorem dX12_lay_11 : decode cX12_lay 11 = .ok (.sipush 255, 3) := by decide +kernel
theorem dX12_lay_14 : decode cX12_lay 14 = .ok (.iand, 1) := by decide +kernel
theorem dX12_lay_15 : decode cX12_lay 15 = .ok (.istore 4, 2) := by decide +kernel
theorem dX12_lay_17 : decode cX12_lay 17 = .ok (.iload 4, 2) := by decide +kernel
theorem dX12_lay_19 : decode cX12_lay 19 = .ok (.bipush 10, 2) := by decide +kernel
theorem dX12_lay_21 : decode cX12_lay 21 = .ok (.if_icmp .eq 17, 3) := by decide +kernel
theorem dX12_lay_24 : decode cX12_lay 24 = .ok (.iload 4, 2) := by decide +kernel
theorem dX12_lay_26 : decode cX12_lay 26 = .ok (.bipush 32, 2) := by decide +kernel
theorem dX12_lay_28 : decode cX12_lay 28 = .ok (.if_icmp .lt 41, 3) := by decide +kernel
theorem dX12_lay_31 : decode cX12_lay 31 = .ok (.iload 4, 2) := by decide +kernel
theorem dX12_lay_33 : decode cX12_lay 33 = .ok (.bipush 126, 2) := by decide +kernel
theorem dX12_lay_35 : decode cX12_lay 35 = .ok (.if_icmp .gt 34, 3) := by decide +kernel
theorem dX12_lay_38 : decode cX12_lay 38 = .ok (.aload_n 0, 1) := by decide +kernel
theorem dX12_lay_39 : decode cX12_lay 39 = .ok (.getfield 11, 3) := by decide +kernel
theorem dX12_lay_42 : decode cX12_lay 42 = .ok (.sipush 1000, 3) := by decide +kernel
theorem dX12_lay_45 : decode cX12_lay 45 = .ok (.if_icmp .ge 24, 3) := by decide +kernel
theorem dX12_lay_48 : decode cX12_lay 48 = .ok (.aload_n 0, 1) := by decide +kernel
theorem dX12_lay_49 : decode cX12_lay 49 = .ok (.getfield 14, 3) := by decide +kernel
theorem dX12_lay_52 : decode cX12_lay 52 = .ok (.aload_n 0, 1) := by decide +kernel
theorem dX12_lay_53 : decode cX12_lay 53 = .ok (.getfield 11, 3) := by decide +kernel
theorem dX12_lay_56 : decode cX12_lay 56 = .ok (.iload 4, 2) := by decide +kernel
theorem dX12_lay_58 : decode cX12_lay 58 = .ok (.iastore, 1) := by decide +kernel
theorem dX12_lay_59 : decode cX12_lay 59 = .ok (.aload_n 0, 1) := by decide +kernel
theorem dX12_lay_60 : decode cX12_lay 60 = .ok (.dup, 1) := by decide +kernel
theorem dX12_lay_61 : decode cX12_lay 61 = .ok (.getfield 11, 3) := by decide +kernel
theorem dX12_lay_64 : decode cX12_lay 64 = .ok (.iconst 1, 1) := by decide +kernel
theorem dX12_lay_65 : decode cX12_lay 65 = .ok (.iadd, 1) := by decide +kernel
theorem dX12_lay_66 : decode cX12_lay 66 = .ok (.putfield 11, 3) := by decide +kernel
theorem dX12_lay_69 : decode cX12_lay 69 = .ok (.iinc 3 (-8), 3) := by decide +kernel
theorem dX12_lay_72 : decode cX12_lay 72 = .ok (.goto (-69), 3) := by decide +kernel
theorem dX12_lay_75 : decode cX12_lay 75 = .ok (.return_, 1) := by decide +kernel
set_option maxHeartbeats 4000000 in
set_option maxRecDepth 100000 in
theorem s_X12_lay {P : PP} {a0 : Nat} {a1 : Int64} (I : IM P a0) (hW : MW P a0) : CtrV yX12_lay cX12_lay 5 none ({ frames := 1, cells := 0, slots := 0, locals := 64 } : Room) 0 0 P [.ref a0, .long a1] (fun P2 => IM P2 a0 ∧ EM [1, 2] a0 P P2 ∧ MW P2 a0) := by
  refine enV (lv := [(0, .ref a0), (1, .long a1)]) (by decide) (Nat.le_of_ble_eq_true rfl) rfl (fun E D cy C Ci0 ret => ?_)
  have ha0 := I.2.1
  have J3 : ∀ (n3 : Nat) (P3 : PP) (v3_3 : Int32), (v3_3.toInt - (-8)).toNat < n3 → (IM P3 a0) → (EM [1, 2] a0 P P3) → (MW P3 a0) → (-8 ≤ v3_3.toInt ∧ v3_3.toInt ≤ 56) → G E ({ frames := 1, cells := 0, slots := 0, locals := 64 } : Room) D cy 5 P3 0 0 3 [(0, .ref a0), (1, .long a1), (3, .int v3_3)] [] := by
    intro n3
    induction n3 with
    | zero => intro P3 v3_3 hm3 I3 X3 W3 hv3_3; omega
    | succ n3 ih3 =>
      intro P3 v3_3 hm3 I3 X3 W3 hv3_3
      have h58172 := X3.at ha0
      have J69 : ∀ (P69 : PP), (IM P69 a0) → (EM [1, 2] a0 P P69) → (MW P69 a0) → (0 ≤ v3_3.toInt ∧ v3_3.toInt ≤ 56) → G E ({ frames := 1, cells := 0, slots := 0, locals := 64 } : Room) D cy 5 P69 0 0 69 [(0, .ref a0), (1, .long a1), (3, .int v3_3)] [] := by
        intro P69 I69 X69 W69 hv69_3
        have h58173 := X69.at ha0
        refine s_iinc (lv0 := [(0, .ref a0), (1, .long a1)]) (m := -8) C dX12_lay_69 2 rfl (by decide) rfl (by decide) (by omega) (fun z58174 h58175 => ?_)
        have h58175 : z58174.toInt = v3_3.toInt + (-8) := h58175
        refine g_goto C 3 dX12_lay_72 (by decide) ?_
        refine g_lv (lv' := [(0, .ref a0), (1, .long a1), (3, .int z58174)]) [1, 2, 0] rfl ?_
        exact ih3 P69 z58174 (by omega) I69 X69 W69 (by omega)
      have J38 : ∀ (v38_4 : Int32), (0 ≤ v3_3.toInt ∧ v3_3.toInt ≤ 56) → (10 ≤ v38_4.toInt ∧ v38_4.toInt ≤ 126) → G E ({ frames := 1, cells := 0, slots := 0, locals := 64 } : Room) D cy 5 P3 0 0 38 [(0, .ref a0), (1, .long a1), (3, .int v3_3), (4, .int v38_4)] [] := by
        intro v38_4 hv38_3 hv38_4
        have h58176 := X3.at ha0
        refine g_aload_n C dX12_lay_38 rfl 0 rfl ?_
        refine g_getI C fi_X12_11 (by decide) (h58176).1 (h58176).2 dX12_lay_39 ?_
        have h58177 := I3.rg (h58176) 2 rfl
        refine g_sipush (v := 1000) C dX12_lay_42 (by decide) ?_
        refine b_icmp_ge C 69 dX12_lay_45 (by decide) (fun h58178 => ?_) (fun h58178 => ?_)
        · have h58178 : 1000 ≤ (pI P3 a0 2).toInt := h58178
          refine g_lv (lv' := [(0, .ref a0), (1, .long a1), (3, .int v3_3)]) [0, 1, 2] rfl ?_
          exact J69 P3 I3 X3 W3 (by omega)
        · have h58178 : (pI P3 a0 2).toInt < 1000 := h58178
          refine g_aload_n C dX12_lay_48 rfl 0 rfl ?_
          obtain ⟨b58179, e58180, h58181⟩ := I3.fld (h58176) 1 13 1000 rfl
          refine g_getR C fi_X12_14 rfl e58180 (h58176).1 (h58176).2 dX12_lay_49 ?_
          refine g_aload_n C dX12_lay_52 rfl 0 rfl ?_
          refine g_getI C fi_X12_11 (by decide) (h58176).1 (h58176).2 dX12_lay_53 ?_
          refine g_iload C dX12_lay_56 3 rfl ?_
          refine g_iast (j := ((pI P3 a0 2).toInt.toNat)) C h58181.1 h58181.2.1 (ix_in h58181.2.2 (by omega)) dX12_lay_58 ?_
          refine gqW (ks := [1]) (I3.setA e58180 h58181 (by decide) (arOk.none rfl)) (EM.setA I3 e58180 rfl (by decide)) (fun Y58182 Iy58183 Xy58184 w58185 => ?_)
          have w58185 : (pI Y58182 b58179 ((pI P3 a0 2).toInt.toNat)).toInt = v38_4.toInt := w58185
          have q58186 := Xy58184.keepF 2 (by decide)
          have W58187 := W3.keep I3 Xy58184 (by decide) (by decide) (by decide)
          have Xz58188 : EM [1, 2] a0 P Y58182 := EM.tr ha0 X3 (Xy58184.mono (by decide))
          have h58189 := Xy58184.at h58176
          refine g_aload_n C dX12_lay_59 rfl 0 rfl ?_
          refine g_dup C dX12_lay_60 rfl ?_
          refine g_getI C fi_X12_11 (by decide) (h58189).1 (h58189).2 dX12_lay_61 ?_
          refine g_iconst (v := 1) C dX12_lay_64 (by decide) ?_
          refine s_iadd C dX12_lay_65 (by show -2147483648 ≤ (pI Y58182 a0 2).toInt + 1 ∧ (pI Y58182 a0 2).toInt + 1 ≤ 2147483647; omega) (fun z58190 h58191 => ?_)
          have h58191 : z58190.toInt = (pI Y58182 a0 2).toInt + 1 := h58191
          refine g_putI C fi_X12_11 rfl (h58189).1 (h58189).2 dX12_lay_66 ?_
          refine gqW (ks := [2]) (Iy58183.setI (rgOk.of rfl (by omega))) (EM.setI Iy58183 (by decide)) (fun Y58192 Iy58193 Xy58194 w58195 => ?_)
          have w58195 : (pI Y58192 a0 2).toInt = z58190.toInt := w58195
          have W58196 := W58187.keep Iy58183 Xy58194 (by decide) (by decide) (by decide)
          have Xz58197 : EM [1, 2] a0 P Y58192 := EM.tr ha0 Xz58188 (Xy58194.mono (by decide))
          have h58198 := Xy58194.at h58189
          refine g_lv (lv' := [(0, .ref a0), (1, .long a1), (3, .int v3_3)]) [0, 1, 2] rfl ?_
          exact J69 Y58192 Iy58193 Xz58197 W58196 (by omega)
      refine g_iload_n C dX12_lay_3 rfl 2 rfl ?_
      refine b_if_lt C 75 dX12_lay_4 (by decide) (fun h58199 => ?_) (fun h58199 => ?_)
      · have h58199 : v3_3.toInt < 0 := h58199
        exact ret _ _ _ _ _ dX12_lay_75 (by decide) (by decide) ⟨I3, X3, W3⟩
      · have h58199 : 0 ≤ v3_3.toInt := h58199
        refine g_lload_n C dX12_lay_7 rfl 1 rfl ?_
        refine g_iload_n C dX12_lay_8 rfl 2 rfl ?_
        refine a_lshr C dX12_lay_9 (fun l58200 => ?_)
        refine a_l2i C dX12_lay_10 (fun z58201 => ?_)
        refine g_sipush (v := 255) C dX12_lay_11 (by decide) ?_
        refine s_iand C dX12_lay_14 (by show 0 ≤ 255; omega) (fun z58202 h58203 => ?_)
        have h58203 : 0 ≤ z58202.toInt ∧ z58202.toInt ≤ 255 := h58203
        refine g_istore (lv' := [(4, .int z58202), (0, .ref a0), (1, .long a1), (3, .int v3_3)]) C dX12_lay_15 (by decide) rfl ?_
        refine g_iload C dX12_lay_17 0 rfl ?_
        refine g_bipush (v := 10) C dX12_lay_19 (by decide) ?_
        refine b_icmp_eq C 38 dX12_lay_21 (by decide) (fun h58204 => ?_) (fun h58204 => ?_)
        · have h58204 : z58202.toInt = 10 := congrArg Int32.toInt h58204
          refine g_lv (lv' := [(0, .ref a0), (1, .long a1), (3, .int v3_3), (4, .int z58202)]) [1, 2, 3, 0] rfl ?_
          exact J38 z58202 (by omega) (by omega)
        · have h58204 : z58202.toInt ≠ 10 := ti_ne h58204
          refine g_iload C dX12_lay_24 0 rfl ?_
          refine g_bipush (v := 32) C dX12_lay_26 (by decide) ?_
          refine b_icmp_lt C 69 dX12_lay_28 (by decide) (fun h58205 => ?_) (fun h58205 => ?_)
          · have h58205 : z58202.toInt < 32 := h58205
            refine g_lv (lv' := [(0, .ref a0), (1, .long a1), (3, .int v3_3)]) [1, 2, 3] rfl ?_
            exact J69 P3 I3 X3 W3 (by omega)
          · have h58205 : 32 ≤ z58202.toInt := h58205
            refine g_iload C dX12_lay_31 0 rfl ?_
            refine g_bipush (v := 126) C dX12_lay_33 (by decide) ?_
            refine b_icmp_gt C 69 dX12_lay_35 (by decide) (fun h58206 => ?_) (fun h58206 => ?_)
            · have h58206 : 126 < z58202.toInt := h58206
              refine g_lv (lv' := [(0, .ref a0), (1, .long a1), (3, .int v3_3)]) [1, 2, 3] rfl ?_
              exact J69 P3 I3 X3 W3 (by omega)
            · have h58206 : z58202.toInt ≤ 126 := h58206
              refine g_lv (lv' := [(0, .ref a0), (1, .long a1), (3, .int v3_3), (4, .int z58202)]) [1, 2, 3, 0] rfl ?_
              exact J38 z58202 (by omega) (by omega)
  refine g_bipush (v := 56) C dX12_lay_0 (by decide) ?_
  refine g_istore_n (lv' := [(3, .int 56), (0, .ref a0), (1, .long a1)]) C dX12_lay_2 rfl (by decide) rfl ?_
  refine g_lv (lv' := [(0, .ref a0), (1, .long a1), (3, .int 56)]) [1, 2, 0] rfl ?_
  exact J3 _ P 56 (Nat.lt_succ_self _) I EM.rf hW (by decide)
theorem dX12_feed_10 : decode cX12_feed 10 = .ok (.aload_n 0, 1) := by decide +kernel
theorem dX12_feed_11 : decode cX12_feed 11 = .ok (.lload_n 3, 1) := by decide +kernel
theorem dX12_feed_12 : decode cX12_feed 12 = .ok (.invokevirtual 7, 3) := by decide +kernel
theorem dX12_feed_15 : decode cX12_feed 15 = .ok (.aload_n 0, 1) := by decide +kernel
theorem dX12_feed_16 : decode cX12_feed 16 = .ok (.lload 5, 2) := by decide +kernel
theorem dX12_feed_18 : decode cX12_feed 18 = .ok (.invokevirtual 7, 3) := by decide +kernel
theorem dX12_feed_21 : decode cX12_feed 21 = .ok (.aload_n 0, 1) := by decide +kernel
theorem dX12_feed_22 : decode cX12_feed 22 = .ok (.getfield 11, 3) := by decide +kernel
theorem dX12_feed_25 : decode cX12_feed 25 = .ok (.ireturn, 1) := by decide +kernel
set_option maxHeartbeats 4000000 in
set_option maxRecDepth 100000 in
theorem s_X12_feed {P : PP} {a0 : Nat} {a1 : Int64} {a2 : Int64} {a3 : Int64} (I : IM P a0) (hW : MW P a0) : CtrI yX12_feed cX12_feed 7 (some Jvm.ClassFile.FieldType.int) ({ frames := 2, cells := 0, slots := 0, locals := 128 } : Room) 0 0 P [.ref a0, .long a1, .long a2, .long a3] (fun r P2 => IM P2 a0 ∧ EM [0, 1, 2] a0 P P2 ∧ MW P2 a0 ∧ (0 ≤ r.toInt ∧ r.toInt ≤ 1000)) := by
  refine enI (lv := [(0, .ref a0), (1, .long a1), (3, .long a2), (5, .long a3)]) (by decide) (Nat.le_of_ble_eq_true rfl) rfl (fun E D cy C Ci0 ret => ?_)
  have ha0 := I.2.1
  refine g_aload_n C dX12_feed_0 rfl 0 rfl ?_
  refine g_iconst (v := 0) C dX12_feed_1 (by decide) ?_
  refine g_putI C fi_X12_1 rfl (ha0).1 (ha0).2 dX12_feed_2 ?_
  refine gqW (ks := [0]) (I.setI (rgOk.of rfl (by decide))) (EM.setI I (by decide)) (fun Y58242 Iy58243 Xy58244 w58245 => ?_)
  have w58245 : (pI Y58242 a0 0).toInt = 0 := w58245
  have W58246 := hW.keep I Xy58244 (by decide) (by decide) (by decide)
  have Xz58247 : EM [0, 1, 2] a0 P Y58242 := Xy58244.mono (by decide)
  have h58248 := Xy58244.at ha0
  refine g_aload_n C dX12_feed_5 rfl 0 rfl ?_
  refine g_lload_n C dX12_feed_6 rfl 1 rfl ?_
  refine g_callVV (rest := []) C mv_X12_7 [.long a1] (s_X12_lay Iy58243 W58246) (h58248).1 (h58248).2 rfl rfl (by decide) (Nat.le_of_ble_eq_true rfl) (by decide) dX12_feed_7 (fun Y58250 h58251 => ?_)
  obtain ⟨Iy58252, Xy58253, W58254⟩ := h58251
  have q58255 := Xy58253.keepF 0 (by decide)
  have Xz58256 : EM [0, 1, 2] a0 P Y58250 := EM.tr ha0 Xz58247 (Xy58253.mono (by decide))
  have h58257 := Xy58253.at h58248
  refine g_aload_n C dX12_feed_10 rfl 0 rfl ?_
  refine g_lload_n C dX12_feed_11 rfl 2 rfl ?_
  refine g_callVV (rest := []) C mv_X12_7 [.long a2] (s_X12_lay Iy58252 W58254) (h58257).1 (h58257).2 rfl rfl (by decide) (Nat.le_of_ble_eq_true rfl) (by decide) dX12_feed_12 (fun Y58259 h58260 => ?_)
  obtain ⟨Iy58261, Xy58262, W58263⟩ := h58260
  have q58264 := Xy58262.keepF 0 (by decide)
  have Xz58265 : EM [0, 1, 2] a0 P Y58259 := EM.tr ha0 Xz58256 (Xy58262.mono (by decide))
  have h58266 := Xy58262.at h58257
  refine g_aload_n C dX12_feed_15 rfl 0 rfl ?_
  refine g_lload C dX12_feed_16 3 rfl ?_
  refine g_callVV (rest := []) C mv_X12_7 [.long a3] (s_X12_lay Iy58261 W58263) (h58266).1 (h58266).2 rfl rfl (by decide) (Nat.le_of_ble_eq_true rfl) (by decide) dX12_feed_18 (fun Y58268 h58269 => ?_)
  obtain ⟨Iy58270, Xy58271, W58272⟩ := h58269
  have q58273 := Xy58271.keepF 0 (by decide)
  have Xz58274 : EM [0, 1, 2] a0 P Y58268 := EM.tr ha0 Xz58265 (Xy58271.mono (by decide))
  have h58275 := Xy58271.at h58266
  refine g_aload_n C dX12_feed_21 rfl 0 rfl ?_
  refine g_getI C fi_X12_11 (by decide) (h58275).1 (h58275).2 dX12_feed_22 ?_
  have h58276 := Iy58270.rg (h58275) 2 rfl
  exact ret _ _ _ _ _ _ dX12_feed_25 rfl (by decide) (by decide) ⟨Iy58270, Xz58274, W58272, (by omega)⟩
theorem dX12_findSlipped_0 : decode cX12_findSlipped 0 = .ok (.aload_n 0, 1) := by decide +kernel
theorem dX12_findSlipped_1 : decode cX12_findSlipped 1 = .ok (.invokevirtual 336, 3) := by decide +kernel
theorem dX12_findSlipped_4 : decode cX12_findSlipped 4 = .ok (.aload_n 0, 1) := by decide +kernel
theorem dX12_findSlipped_5 : decode cX12_findSlipped 5 = .ok (.iload_n 1, 1) := by decide +kernel
theorem dX12_findSlipped_6 : decode cX12_findSlipped 6 = .ok (.iload_n 2, 1) := by decide +kernel
theorem dX12_findSlipped_7 : decode cX12_findSlipped 7 = .ok (.iload_n 3, 1) := by decide +kernel
theorem dX12_findSlipped_8 : decode cX12_findSlipped 8 = .ok (.aload_n 0, 1) := by decide +kernel
theorem dX12_findSlipped_9 : decode cX12_findSlipped 9 = .ok (.getfield 69, 3) := by decide +kernel
theorem dX12_findSlipped_12 : decode cX12_findSlipped 12 = .ok (.iload_n 1, 1) := by decide +kernel
theorem dX12_findSlipped_13 : decode cX12_findSlipped 13 = .ok (.iaload, 1) := by decide +kernel
theorem dX12_findSlipped_14 : decode cX12_findSlipped 14 = .ok (.invokevirtual 339, 3) := by decide +kernel
theorem dX12_findSlipped_17 : decode cX12_findSlipped 17 = .ok (.aload_n 0, 1) := by decide +kernel
theorem dX12_findSlipped_18 : decode cX12_findSlipped 18 = .ok (.invokevirtual 346, 3) := by decide +kernel
theorem dX12_findSlipped_21 : decode cX12_findSlipped 21 = .ok (.aload_n 0, 1) := by decide +kernel
theorem dX12_findSlipped_22 : decode cX12_findSlipped 22 = .ok (.iconst 0, 1) := by decide +kernel
theorem dX12_findSlipped_23 : decode cX12_findSlipped 23 = .ok (.putfield 361, 3) := by decide +kernel
theorem dX12_findSlipped_26 : decode cX12_findSlipped 26 = .ok (.aload_n 0, 1) := by decide +kernel
theorem dX12_findSlipped_27 : decode cX12_findSlipped 27 = .ok (.getfield 326, 3) := by decide +kernel
theorem dX12_findSlipped_30 : decode cX12_findSlipped 30 = .ok (.ifCond .eq 5, 3) := by decide +kernel
theorem dX12_findSlipped_33 : decode cX12_findSlipped 33 = .ok (.iconst 0, 1) := by decide +kernel
theorem dX12_findSlipped_34 : decode cX12_findSlipped 34 = .ok (.ireturn, 1) := by decide +kernel
theorem dX12_findSlipped_35 : decode cX12_findSlipped 35 = .ok (.iconst 0, 1) := by decide +kernel
theorem dX12_findSlipped_36 : decode cX12_findSlipped 36 = .ok (.istore 4, 2) := by decide +kernel
theorem dX12_findSlipped_38 : decode cX12_findSlipped 38 = .ok (.iload 4, 2) := by decide +kernel
theorem dX12_findSlipped_40 : decode cX12_findSlipped 40 = .ok (.aload_n 0, 1) := by decide +kernel
theorem dX12_findSlipped_41 : decode cX12_findSlipped 41 = .ok (.getfield 69, 3) := by decide +kernel
theorem dX12_findSlipped_44 : decode cX12_findSlipped 44 = .ok (.iload_n 1, 1) := by decide +kernel
theorem dX12_findSlipped_45 : decode cX12_findSlipped 45 = .ok (.iaload, 1) := by decide +kernel
theorem dX12_findSlipped_46 : decode cX12_findSlipped 46 = .ok (.if_icmp .ge 105, 3) := by decide +kernel
theorem dX12_findSlipped_49 : decode cX12_findSlipped 49 = .ok (.bipush 40, 2) := by decide +kernel
theorem dX12_findSlipped_51 : decode cX12_findSlipped 51 = .ok (.iload_n 1, 1) := by decide +kernel
theorem dX12_findSlipped_52 : decode cX12_findSlipped 52 = .ok (.imul, 1) := by decide +kernel
theorem dX12_findSlipped_53 : decode cX12_findSlipped 53 = .ok (.iload 4, 2) := by decide +kernel
theorem dX12_findSlipped_55 : decode cX12_findSlipped 55 = .ok (.iadd, 1) := by decide +kernel
theorem dX12_findSlipped_56 : decode cX12_findSlipped 56 = .ok (.istore 5, 2) := by decide +kernel
theorem dX12_findSlipped_58 : decode cX12_findSlipped 58 = .ok (.aload_n 0, 1) := by decide +kernel
theorem dX12_findSlipped_59 : decode cX12_findSlipped 59 = .ok (.getfield 75, 3) := by decide +kernel
theorem dX12_findSlipped_62 : decode cX12_findSlipped 62 = .ok (.iload 5, 2) := by decide +kernel
theorem dX12_findSlipped_64 : decode cX12_findSlipped 64 = .ok (.iaload, 1) := by decide +kernel
theorem dX12_findSlipped_65 : decode cX12_findSlipped 65 = .ok (.iload_n 2, 1) := by decide +kernel
theorem dX12_findSlipped_66 : decode cX12_findSlipped 66 = .ok (.if_icmp .ne 79, 3) := by decide +kernel
theorem dX12_findSlipped_69 : decode cX12_findSlipped 69 = .ok (.aload_n 0, 1) := by decide +kernel
theorem dX12_findSlipped_70 : decode cX12_findSlipped 70 = .ok (.getfield 81, 3) := by decide +kernel
theorem dX12_findSlipped_73 : decode cX12_findSlipped 73 = .ok (.iload 5, 2) := by decide +kernel
theorem dX12_findSlipped_75 : decode cX12_findSlipped 75 = .ok (.iaload, 1) := by decide +kernel
theorem dX12_findSlipped_76 : decode cX12_findSlipped 76 = .ok (.iload_n 3, 1) := by decide +kernel
theorem dX12_findSlipped_77 : decode cX12_findSlipped 77 = .ok (.ishr, 1) := by decide +kernel
theorem dX12_findSlipped_78 : decode cX12_findSlipped 78 = .ok (.iconst 1, 1) := by decide +kernel
theorem dX12_findSlipped_79 : decode cX12_findSlipped 79 = .ok (.iand, 1) := by decide +kernel
theorem dX12_findSlipped_80 : decode cX12_findSlipped 80 = .ok (.iconst 1, 1) := by decide +kernel
theorem dX12_findSlipped_81 : decode cX12_findSlipped 81 = .ok (.if_icmp .ne 64, 3) := by decide +kernel
theorem dX12_findSlipped_84 : decode cX12_findSlipped 84 = .ok (.aload_n 0, 1) := by decide +kernel
theorem dX12_findSlipped_85 : decode cX12_findSlipped 85 = .ok (.getfield 100, 3) := by decide +kernel
theorem dX12_findSlipped_88 : decode cX12_findSlipped 88 = .ok (.iload 4, 2) := by decide +kernel
theorem dX12_findSlipped_90 : decode cX12_findSlipped 90 = .ok (.iconst 1, 1) := by decide +kernel
theorem dX12_findSlipped_91 : decode cX12_findSlipped 91 = .ok (.bastore, 1) := by decide +kernel
theorem dX12_findSlipped_92 : decode cX12_findSlipped 92 = .ok (.aload_n 0, 1) := by decide +kernel
theorem dX12_findSlipped_93 : decode cX12_findSlipped 93 = .ok (.iload_n 1, 1) := by decide +kernel
theorem dX12_findSlipped_94 : decode cX12_findSlipped 94 = .ok (.iload_n 2, 1) := by decide +kernel
theorem dX12_findSlipped_95 : decode cX12_findSlipped 95 = .ok (.iload_n 3, 1) := by decide +kernel
theorem dX12_findSlipped_96 : decode cX12_findSlipped 96 = .ok (.aload_n 0, 1) := by decide +kernel
theorem dX12_findSlipped_97 : decode cX12_findSlipped 97 = .ok (.getfield 69, 3) := by decide +kernel
theorem dX12_findSlipped_100 : decode cX12_findSlipped 100 = .ok (.iload_n 1, 1) := by decide +kernel
theorem dX12_findSlipped_101 : decode cX12_findSlipped 101 = .ok (.iaload, 1) := by decide +kernel
theorem dX12_findSlipped_102 : decode cX12_findSlipped 102 = .ok (.invokevirtual 339, 3) := by decide +kernel
theorem dX12_findSlipped_105 : decode cX12_findSlipped 105 = .ok (.aload_n 0, 1) := by decide +kernel
theorem dX12_findSlipped_106 : decode cX12_findSlipped 106 = .ok (.invokevirtual 346, 3) := by decide +kernel
theorem dX12_findSlipped_109 : decode cX12_findSlipped 109 = .ok (.aload_n 0, 1) := by decide +kernel
theorem dX12_findSlipped_110 : decode cX12_findSlipped 110 = .ok (.getfield 100, 3) := by decide +kernel
theorem dX12_findSlipped_113 : decode cX12_findSlipped 113 = .ok (.iload 4, 2) := by decide +kernel
theorem dX12_findSlipped_115 : decode cX12_findSlipped 115 = .ok (.iconst 0, 1) := by decide +kernel
theorem dX12_findSlipped_116 : decode cX12_findSlipped 116 = .ok (.bastore, 1) := by decide +kernel
theorem dX12_findSlipped_117 : decode cX12_findSlipped 117 = .ok (.aload_n 0, 1) := by decide +kernel
theorem dX12_findSlipped_118 : decode cX12_findSlipped 118 = .ok (.getfield 326, 3) := by decide +kernel
theorem dX12_findSlipped_121 : decode cX12_findSlipped 121 = .ok (.ifCond .eq 24, 3) := by decide +kernel
theorem dX12_findSlipped_124 : decode cX12_findSlipped 124 = .ok (.aload_n 0, 1) := by decide +kernel
theorem dX12_findSlipped_125 : decode cX12_findSlipped 125 = .ok (.getfield 112, 3) := by decide +kernel
theorem dX12_findSlipped_128 : decode cX12_findSlipped 128 = .ok (.aload_n 0, 1) := by decide +kernel
theorem dX12_findSlipped_129 : decode cX12_findSlipped 129 = .ok (.getfield 361, 3) := by decide +kernel
theorem dX12_findSlipped_132 : decode cX12_findSlipped 132 = .ok (.iload 4, 2) := by decide +kernel
theorem dX12_findSlipped_134 : decode cX12_findSlipped 134 = .ok (.iastore, 1) := by decide +kernel
theorem dX12_findSlipped_135 : decode cX12_findSlipped 135 = .ok (.aload_n 0, 1) := by decide +kernel
theorem dX12_findSlipped_136 : decode cX12_findSlipped 136 = .ok (.dup, 1) := by decide +kernel
theorem dX12_findSlipped_137 : decode cX12_findSlipped 137 = .ok (.getfield 361, 3) := by decide +kernel
theorem dX12_findSlipped_140 : decode cX12_findSlipped 140 = .ok (.iconst 1, 1) := by decide +kernel
theorem dX12_findSlipped_141 : decode cX12_findSlipped 141 = .ok (.iadd, 1) := by decide +kernel
theorem dX12_findSlipped_142 : decode cX12_findSlipped 142 = .ok (.putfield 361, 3) := by decide +kernel
theorem dX12_findSlipped_145 : decode cX12_findSlipped 145 = .ok (.iinc 4 1, 3) := by decide +kernel
theorem dX12_findSlipped_148 : decode cX12_findSlipped 148 = .ok (.goto (-110), 3) := by decide +kernel
theorem dX12_findSlipped_151 : decode cX12_findSlipped 151 = .ok (.iconst 1, 1) := by decide +kernel
theorem dX12_findSlipped_152 : decode cX12_findSlipped 152 = .ok (.ireturn, 1) := by decide +kernel
set_option maxHeartbeats 4000000 in
set_option maxRecDepth 100000 in
theorem s_X12_findSlipped {P : PP} {a0 : Nat} {a1 : Int32} {a2 : Int32} {a3 : Int32} (I : IM P a0) (ha1 : 0 ≤ a1.toInt ∧ a1.toInt ≤ 3) (ha2 : 0 ≤ a2.toInt ∧ a2.toInt ≤ 1) (ha3 : 0 ≤ a3.toInt ∧ a3.toInt ≤ 1) (hf0 : ∀ b, pR P a0 10 = some b → 1 ≤ (pI P b (a2.toInt.toNat)).toInt ∧ (pI P b (a2.toInt.toNat)).toInt ≤ 16) (hW : MW P a0) : CtrI yX12_findSlipped cX12_findSlipped 6 (some Jvm.ClassFile.FieldType.boolean) ({ frames := 5, cells := 0, slots := 0, locals := 320 } : Room) 0 0 P [.ref a0, .int a1, .int a2, .int a3] (fun r P2 => IM P2 a0 ∧ EM [28, 29, 30, 31, 32, 35, 36, 37, 38, 39, 40] a0 P P2 ∧ MW P2 a0 ∧ (0 ≤ r.toInt ∧ r.toInt ≤ 1)) := by
  refine enI (lv := [(0, .ref a0), (1, .int a1), (2, .int a2), (3, .int a3)]) (by decide) (Nat.le_of_ble_eq_true rfl) rfl (fun E D cy C Ci0 ret => ?_)
  have ha0 := I.2.1
  have J38 : ∀ (n38 : Nat) (P38 : PP) (v38_4 : Int32), (40 - v38_4.toInt).toNat < n38 → (IM P38 a0) → (EM [28, 29, 30, 31, 32, 35, 36, 37, 38, 39, 40] a0 P P38) → (MW P38 a0) → (0 ≤ v38_4.toInt ∧ v38_4.toInt ≤ 40) → (0 ≤ (pI P38 a0 28).toInt ∧ (pI P38 a0 28).toInt ≤ 44) → (∀ b, pR P38 a0 10 = some b → 1 ≤ (pI P38 b (a2.toInt.toNat)).toInt ∧ (pI P38 b (a2.toInt.toNat)).toInt ≤ 16) → ((pI P38 a0 39).toInt ≤ v38_4.toInt) → G E ({ frames := 5, cells := 0, slots := 0, locals := 320 } : Room) D cy 6 P38 0 0 38 [(0, .ref a0), (1, .int a1), (2, .int a2), (3, .int a3), (4, .int v38_4)] [] := by
    intro n38
    induction n38 with
    | zero => intro P38 v38_4 hm38 I38 X38 W38 hv38_4 hq38_0 hq38_1 rel38_0; omega
    | succ n38 ih38 =>
      intro P38 v38_4 hm38 I38 X38 W38 hv38_4 hq38_0 hq38_1 rel38_0
      have h61105 := X38.at ha0
      obtain ⟨b61106, e61107, h61108⟩ := I38.fld (h61105) 10 13 2 rfl
      have hq38_1 := hq38_1 b61106 e61107
      have h61109 := I38.rg h61105 39 rfl
      have J145 : ∀ (P145 : PP), (IM P145 a0) → (EM [28, 29, 30, 31, 32, 35, 36, 37, 38, 39, 40] a0 P P145) → (MW P145 a0) → (0 ≤ v38_4.toInt ∧ v38_4.toInt ≤ 39) → (0 ≤ (pI P145 a0 28).toInt ∧ (pI P145 a0 28).toInt ≤ 44) → (∀ b, pR P145 a0 10 = some b → 1 ≤ (pI P145 b (a2.toInt.toNat)).toInt ∧ (pI P145 b (a2.toInt.toNat)).toInt ≤ 16) → (∀ b, pR P145 a0 20 = some b → 1 ≤ (pI P145 b (a1.toInt.toNat)).toInt ∧ (pI P145 b (a1.toInt.toNat)).toInt ≤ 40) → ((pI P145 a0 39).toInt ≤ v38_4.toInt + 1) → G E ({ frames := 5, cells := 0, slots := 0, locals := 320 } : Room) D cy 6 P145 0 0 145 [(0, .ref a0), (1, .int a1), (2, .int a2), (3, .int a3), (4, .int v38_4)] [] := by
        intro P145 I145 X145 W145 hv145_4 hq145_0 hq145_1 hq145_2 rel145_0
        have h61110 := X145.at ha0
        obtain ⟨b61111, e61112, h61113⟩ := I145.fld (h61110) 10 13 2 rfl
        have hq145_1 := hq145_1 b61111 e61112
        obtain ⟨b61114, e61115, h61116⟩ := I145.fld (h61110) 20 13 20 rfl
        have hq145_2 := hq145_2 b61114 e61115
        have h61117 := I145.rg h61110 39 rfl
        refine s_iinc (lv0 := [(0, .ref a0), (1, .int a1), (2, .int a2), (3, .int a3)]) (m := 1) C dX12_findSlipped_145 4 rfl (by decide) rfl (by decide) (by omega) (fun z61118 h61119 => ?_)
        have h61119 : z61118.toInt = v38_4.toInt + 1 := h61119
        refine g_goto C 38 dX12_findSlipped_148 (by decide) ?_
        refine g_lv (lv' := [(0, .ref a0), (1, .int a1), (2, .int a2), (3, .int a3), (4, .int z61118)]) [1, 2, 3, 4, 0] rfl ?_
        exact ih38 P145 z61118 (by omega) I145 X145 W145 (by omega) (by omega) (fun b9 e9 => by rw [e61112] at e9; cases e9; omega) (by show (pI P145 a0 39).toInt ≤ z61118.toInt; omega)
      refine g_iload C dX12_findSlipped_38 4 rfl ?_
      refine g_aload_n C dX12_findSlipped_40 rfl 0 rfl ?_
      obtain ⟨b61120, e61121, h61122⟩ := I38.fld (h61105) 20 13 20 rfl
      refine g_getR C fi_X12_69 rfl e61121 (h61105).1 (h61105).2 dX12_findSlipped_41 ?_
      refine g_iload_n C dX12_findSlipped_44 rfl 1 rfl ?_
      refine g_iald (j := (a1.toInt.toNat)) C h61122.1 h61122.2.1 (ix_in h61122.2.2 (by omega)) dX12_findSlipped_45 ?_
      have h61123 := I38.arr e61121 rfl (a1.toInt.toNat)
      refine b_icmp_ge C 151 dX12_findSlipped_46 (by decide) (fun h61124 => ?_) (fun h61124 => ?_)
      · have h61124 : (pI P38 b61120 (a1.toInt.toNat)).toInt ≤ v38_4.toInt := h61124
        refine g_iconst (v := 1) C dX12_findSlipped_151 (by decide) ?_
        exact ret _ _ _ _ _ _ dX12_findSlipped_152 rfl (by decide) (by decide) ⟨I38, X38, W38, (by decide)⟩
      · have h61124 : v38_4.toInt < (pI P38 b61120 (a1.toInt.toNat)).toInt := h61124
        refine g_bipush (v := 40) C dX12_findSlipped_49 (by decide) ?_
        refine g_iload_n C dX12_findSlipped_51 rfl 1 rfl ?_
        refine s_imul C dX12_findSlipped_52 (by show -2147483648 ≤ 40 * a1.toInt ∧ 40 * a1.toInt ≤ 2147483647; omega) (fun z61125 h61126 => ?_)
        have h61126 : z61125.toInt = 40 * a1.toInt := h61126
        refine g_iload C dX12_findSlipped_53 4 rfl ?_
        refine s_iadd C dX12_findSlipped_55 (by show -2147483648 ≤ z61125.toInt + v38_4.toInt ∧ z61125.toInt + v38_4.toInt ≤ 2147483647; omega) (fun z61127 h61128 => ?_)
        have h61128 : z61127.toInt = z61125.toInt + v38_4.toInt := h61128
        refine g_istore (lv' := [(5, .int z61127), (0, .ref a0), (1, .int a1), (2, .int a2), (3, .int a3), (4, .int v38_4)]) C dX12_findSlipped_56 (by decide) rfl ?_
        refine g_aload_n C dX12_findSlipped_58 rfl 1 rfl ?_
        obtain ⟨b61129, e61130, h61131⟩ := I38.fld (h61105) 22 13 800 rfl
        refine g_getR C fi_X12_75 rfl e61130 (h61105).1 (h61105).2 dX12_findSlipped_59 ?_
        refine g_iload C dX12_findSlipped_62 0 rfl ?_
        refine g_iald (j := (z61127.toInt.toNat)) C h61131.1 h61131.2.1 (ix_in h61131.2.2 (by omega)) dX12_findSlipped_64 ?_
        have h61132 := I38.arr e61130 rfl (z61127.toInt.toNat)
        refine g_iload_n C dX12_findSlipped_65 rfl 3 rfl ?_
        refine b_icmp_ne C 145 dX12_findSlipped_66 (by decide) (fun h61133 => ?_) (fun h61133 => ?_)
        · have h61133 : (pI P38 b61129 (z61127.toInt.toNat)).toInt ≠ a2.toInt := ti_ne h61133
          refine g_lv (lv' := [(0, .ref a0), (1, .int a1), (2, .int a2), (3, .int a3), (4, .int v38_4)]) [1, 2, 3, 4, 5] rfl ?_
          exact J145 P38 I38 X38 W38 (by omega) (by omega) (fun b9 e9 => by rw [e61107] at e9; cases e9; omega) (fun b9 e9 => by rw [e61121] at e9; cases e9; omega) (by show (pI P38 a0 39).toInt ≤ v38_4.toInt + 1; omega)
        · have h61133 : (pI P38 b61129 (z61127.toInt.toNat)).toInt = a2.toInt := congrArg Int32.toInt h61133
          refine g_aload_n C dX12_findSlipped_69 rfl 1 rfl ?_
          obtain ⟨b61134, e61135, h61136⟩ := I38.fld (h61105) 24 13 800 rfl
          refine g_getR C fi_X12_81 rfl e61135 (h61105).1 (h61105).2 dX12_findSlipped_70 ?_
          refine g_iload C dX12_findSlipped_73 0 rfl ?_
          refine g_iald (j := (z61127.toInt.toNat)) C h61136.1 h61136.2.1 (ix_in h61136.2.2 (by omega)) dX12_findSlipped_75 ?_
          refine g_iload_n C dX12_findSlipped_76 rfl 4 rfl ?_
          refine a_ishr C dX12_findSlipped_77 (fun z61137 => ?_)
          refine g_iconst (v := 1) C dX12_findSlipped_78 (by decide) ?_
          refine s_iand C dX12_findSlipped_79 (by show 0 ≤ 1; omega) (fun z61139 h61140 => ?_)
          have h61140 : 0 ≤ z61139.toInt ∧ z61139.toInt ≤ 1 := h61140
          refine g_iconst (v := 1) C dX12_findSlipped_80 (by decide) ?_
          refine b_icmp_ne C 145 dX12_findSlipped_81 (by decide) (fun h61141 => ?_) (fun h61141 => ?_)
          · have h61141 : z61139.toInt ≠ 1 := ti_ne h61141
            refine g_lv (lv' := [(0, .ref a0), (1, .int a1), (2, .int a2), (3, .int a3), (4, .int v38_4)]) [1, 2, 3, 4, 5] rfl ?_
            exact J145 P38 I38 X38 W38 (by omega) (by omega) (fun b9 e9 => by rw [e61107] at e9; cases e9; omega) (fun b9 e9 => by rw [e61121] at e9; cases e9; omega) (by show (pI P38 a0 39).toInt ≤ v38_4.toInt + 1; omega)
          · have h61141 : z61139.toInt = 1 := congrArg Int32.toInt h61141
            refine g_aload_n C dX12_findSlipped_84 rfl 1 rfl ?_
            obtain ⟨b61142, e61143, h61144⟩ := I38.fld (h61105) 32 15 40 rfl
            refine g_getR C fi_X12_100 rfl e61143 (h61105).1 (h61105).2 dX12_findSlipped_85 ?_
            refine g_iload C dX12_findSlipped_88 5 rfl ?_
            refine g_iconst (v := 1) C dX12_findSlipped_90 (by decide) ?_
            refine g_zast (j := (v38_4.toInt.toNat)) C h61144.1 h61144.2.1 (ix_in h61144.2.2 (by omega)) (Or.inr rfl) dX12_findSlipped_91 ?_
            refine gqW (ks := [32]) (I38.setA e61143 h61144 (by decide) (arOk.none rfl)) (EM.setA I38 e61143 rfl (by decide)) (fun Y61145 Iy61146 Xy61147 w61148 => ?_)
            have w61148 : (pI Y61145 b61142 (v38_4.toInt.toNat)).toInt = 1 := w61148
            have q61149 := Xy61147.keepF 28 (by decide)
            have q61150 := Xy61147.keepA e61107 (by decide) rfl (a2.toInt.toNat)
            have q61151 := Xy61147.keepF 39 (by decide)
            have q61152 := Xy61147.keepA e61121 (by decide) rfl (a1.toInt.toNat)
            have q61153 := Xy61147.keepA e61130 (by decide) rfl (z61127.toInt.toNat)
            have W61154 := W38.keep I38 Xy61147 (by decide) (by decide) (by decide)
            have Xz61155 : EM [28, 29, 30, 31, 32, 35, 36, 37, 38, 39, 40] a0 P Y61145 := EM.tr ha0 X38 (Xy61147.mono (by decide))
            have e61156 := Xy61147.ref h61105 (by decide) e61107
            have e61157 := Xy61147.ref h61105 (by decide) e61121
            have e61158 := Xy61147.ref h61105 (by decide) e61130
            have e61159 := Xy61147.ref h61105 (by decide) e61143
            have h61160 := Xy61147.at h61105
            have h61161 := Xy61147.ar h61108
            have h61162 := Xy61147.ar h61122
            have h61163 := Xy61147.ar h61131
            have h61164 := Xy61147.ar h61144
            refine g_aload_n C dX12_findSlipped_92 rfl 1 rfl ?_
            refine g_iload_n C dX12_findSlipped_93 rfl 2 rfl ?_
            refine g_iload_n C dX12_findSlipped_94 rfl 3 rfl ?_
            refine g_iload_n C dX12_findSlipped_95 rfl 4 rfl ?_
            refine g_aload_n C dX12_findSlipped_96 rfl 1 rfl ?_
            refine g_getR C fi_X12_69 rfl e61157 (h61160).1 (h61160).2 dX12_findSlipped_97 ?_
            refine g_iload_n C dX12_findSlipped_100 rfl 2 rfl ?_
            refine g_iald (j := (a1.toInt.toNat)) C h61162.1 h61162.2.1 (ix_in h61162.2.2 (by omega)) dX12_findSlipped_101 ?_
            refine g_callVV (rest := []) C mv_X12_339 [.int a1, .int a2, .int a3, .int (pI Y61145 b61120 (a1.toInt.toNat))] (s_X12_gathers Iy61146 (by omega) (by omega) (by omega) (fun b9 e9 => by rw [e61156] at e9; cases e9; show 1 ≤ (pI Y61145 b61106 (a2.toInt.toNat)).toInt ∧ (pI Y61145 b61106 (a2.toInt.toNat)).toInt ≤ 16; omega) W61154) (h61160).1 (h61160).2 rfl rfl (by decide) (Nat.le_of_ble_eq_true rfl) (by decide) dX12_findSlipped_102 (fun Y61166 h61167 => ?_)
            obtain ⟨Iy61168, Xy61169, W61170, p61171⟩ := h61167
            have p61171 : (pI Y61166 a0 28).toInt ≤ 4 + (pI Y61145 b61120 (a1.toInt.toNat)).toInt := p61171
            have q61172 := Xy61169.keepA e61156 (by decide) rfl (a2.toInt.toNat)
            have q61173 := Xy61169.keepF 39 (by decide)
            have q61174 := Xy61169.keepA e61157 (by decide) rfl (a1.toInt.toNat)
            have q61175 := Xy61169.keepA e61158 (by decide) rfl (z61127.toInt.toNat)
            have q61176 := Xy61169.keepA e61159 (by decide) rfl (v38_4.toInt.toNat)
            have Xz61177 : EM [28, 29, 30, 31, 32, 35, 36, 37, 38, 39, 40] a0 P Y61166 := EM.tr ha0 Xz61155 (Xy61169.mono (by decide))
            have e61178 := Xy61169.ref h61160 (by decide) e61156
            have e61179 := Xy61169.ref h61160 (by decide) e61157
            have e61180 := Xy61169.ref h61160 (by decide) e61158
            have e61181 := Xy61169.ref h61160 (by decide) e61159
            have h61182 := Xy61169.at h61160
            have h61183 := Xy61169.ar h61161
            have h61184 := Xy61169.ar h61162
            have h61185 := Xy61169.ar h61163
            have h61186 := Xy61169.ar h61164
            have h61187 := Iy61168.rg h61182 28 rfl
            refine g_aload_n C dX12_findSlipped_105 rfl 1 rfl ?_
            refine g_callVV (rest := []) C mv_X12_346 [] (s_X12_findSolved Iy61168 W61170) (h61182).1 (h61182).2 rfl rfl (by decide) (Nat.le_of_ble_eq_true rfl) (by decide) dX12_findSlipped_106 (fun Y61189 h61190 => ?_)
            obtain ⟨Iy61191, Xy61192, W61193⟩ := h61190
            have q61194 := Xy61192.keepA e61178 (by decide) rfl (a2.toInt.toNat)
            have q61195 := Xy61192.keepF 39 (by decide)
            have q61196 := Xy61192.keepA e61179 (by decide) rfl (a1.toInt.toNat)
            have q61197 := Xy61192.keepA e61180 (by decide) rfl (z61127.toInt.toNat)
            have q61198 := Xy61192.keepA e61181 (by decide) rfl (v38_4.toInt.toNat)
            have q61199 := Xy61192.keepF 28 (by decide)
            have Xz61200 : EM [28, 29, 30, 31, 32, 35, 36, 37, 38, 39, 40] a0 P Y61189 := EM.tr ha0 Xz61177 (Xy61192.mono (by decide))
            have e61201 := Xy61192.ref h61182 (by decide) e61178
            have e61202 := Xy61192.ref h61182 (by decide) e61179
            have e61203 := Xy61192.ref h61182 (by decide) e61180
            have e61204 := Xy61192.ref h61182 (by decide) e61181
            have h61205 := Xy61192.at h61182
            have h61206 := Xy61192.ar h61183
            have h61207 := Xy61192.ar h61184
            have h61208 := Xy61192.ar h61185
            have h61209 := Xy61192.ar h61186
            refine g_aload_n C dX12_findSlipped_109 rfl 1 rfl ?_
            refine g_getR C fi_X12_100 rfl e61204 (h61205).1 (h61205).2 dX12_findSlipped_110 ?_
            refine g_iload C dX12_findSlipped_113 5 rfl ?_
            refine g_iconst (v := 0) C dX12_findSlipped_115 (by decide) ?_
            refine g_zast (j := (v38_4.toInt.toNat)) C h61209.1 h61209.2.1 (ix_in h61209.2.2 (by omega)) (Or.inl rfl) dX12_findSlipped_116 ?_
            refine gqW (ks := [32]) (Iy61191.setA e61204 h61209 (by decide) (arOk.none rfl)) (EM.setA Iy61191 e61204 rfl (by decide)) (fun Y61210 Iy61211 Xy61212 w61213 => ?_)
            have w61213 : (pI Y61210 b61142 (v38_4.toInt.toNat)).toInt = 0 := w61213
            have q61214 := Xy61212.keepA e61201 (by decide) rfl (a2.toInt.toNat)
            have q61215 := Xy61212.keepF 39 (by decide)
            have q61216 := Xy61212.keepA e61202 (by decide) rfl (a1.toInt.toNat)
            have q61217 := Xy61212.keepA e61203 (by decide) rfl (z61127.toInt.toNat)
            have q61218 := Xy61212.keepF 28 (by decide)
            have W61219 := W61193.keep Iy61191 Xy61212 (by decide) (by decide) (by decide)
            have Xz61220 : EM [28, 29, 30, 31, 32, 35, 36, 37, 38, 39, 40] a0 P Y61210 := EM.tr ha0 Xz61200 (Xy61212.mono (by decide))
            have e61221 := Xy61212.ref h61205 (by decide) e61201
            have e61222 := Xy61212.ref h61205 (by decide) e61202
            have e61223 := Xy61212.ref h61205 (by decide) e61203
            have e61224 := Xy61212.ref h61205 (by decide) e61204
            have h61225 := Xy61212.at h61205
            have h61226 := Xy61212.ar h61206
            have h61227 := Xy61212.ar h61207
            have h61228 := Xy61212.ar h61208
            have h61229 := Xy61212.ar h61209
            refine g_aload_n C dX12_findSlipped_117 rfl 1 rfl ?_
            refine g_getI C fi_X12_326 (by decide) (h61225).1 (h61225).2 dX12_findSlipped_118 ?_
            have h61230 := Iy61211.rg (h61225) 36 rfl
            refine b_if_eq C 145 dX12_findSlipped_121 (by decide) (fun h61231 => ?_) (fun h61231 => ?_)
            · have h61231 : (pI Y61210 a0 36).toInt = 0 := congrArg Int32.toInt h61231
              refine g_lv (lv' := [(0, .ref a0), (1, .int a1), (2, .int a2), (3, .int a3), (4, .int v38_4)]) [1, 2, 3, 4, 5] rfl ?_
              exact J145 Y61210 Iy61211 Xz61220 W61219 (by omega) (by omega) (fun b9 e9 => by rw [e61221] at e9; cases e9; omega) (fun b9 e9 => by rw [e61222] at e9; cases e9; omega) (by show (pI Y61210 a0 39).toInt ≤ v38_4.toInt + 1; omega)
            · have h61231 : (pI Y61210 a0 36).toInt ≠ 0 := ti_ne h61231
              refine g_aload_n C dX12_findSlipped_124 rfl 1 rfl ?_
              obtain ⟨b61232, e61233, h61234⟩ := Iy61211.fld (h61225) 40 13 40 rfl
              refine g_getR C fi_X12_112 rfl e61233 (h61225).1 (h61225).2 dX12_findSlipped_125 ?_
              refine g_aload_n C dX12_findSlipped_128 rfl 1 rfl ?_
              refine g_getI C fi_X12_361 (by decide) (h61225).1 (h61225).2 dX12_findSlipped_129 ?_
              refine g_iload C dX12_findSlipped_132 5 rfl ?_
              refine g_iast (j := ((pI Y61210 a0 39).toInt.toNat)) C h61234.1 h61234.2.1 (ix_in h61234.2.2 (by omega)) dX12_findSlipped_134 ?_
              refine gqW (ks := [40]) (Iy61211.setA e61233 h61234 (by decide) (arOk.of rfl (by omega))) (EM.setA Iy61211 e61233 rfl (by decide)) (fun Y61235 Iy61236 Xy61237 w61238 => ?_)
              have w61238 : (pI Y61235 b61232 ((pI Y61210 a0 39).toInt.toNat)).toInt = v38_4.toInt := w61238
              have q61239 := Xy61237.keepA e61221 (by decide) rfl (a2.toInt.toNat)
              have q61240 := Xy61237.keepF 39 (by decide)
              have q61241 := Xy61237.keepA e61222 (by decide) rfl (a1.toInt.toNat)
              have q61242 := Xy61237.keepA e61223 (by decide) rfl (z61127.toInt.toNat)
              have q61243 := Xy61237.keepF 28 (by decide)
              have q61244 := Xy61237.keepA e61224 (by decide) rfl (v38_4.toInt.toNat)
              have q61245 := Xy61237.keepF 36 (by decide)
              have W61246 := W61219.keep Iy61211 Xy61237 (by decide) (by decide) (by decide)
              have Xz61247 : EM [28, 29, 30, 31, 32, 35, 36, 37, 38, 39, 40] a0 P Y61235 := EM.tr ha0 Xz61220 (Xy61237.mono (by decide))
              have e61248 := Xy61237.ref h61225 (by decide) e61221
              have e61249 := Xy61237.ref h61225 (by decide) e61222
              have e61250 := Xy61237.ref h61225 (by decide) e61223
              have e61251 := Xy61237.ref h61225 (by decide) e61224
              have h61252 := Xy61237.at h61225
              have h61253 := Xy61237.ar h61226
              have h61254 := Xy61237.ar h61227
              have h61255 := Xy61237.ar h61228
              have h61256 := Xy61237.ar h61229
              refine g_aload_n C dX12_findSlipped_135 rfl 1 rfl ?_
              refine g_dup C dX12_findSlipped_136 rfl ?_
              refine g_getI C fi_X12_361 (by decide) (h61252).1 (h61252).2 dX12_findSlipped_137 ?_
              refine g_iconst (v := 1) C dX12_findSlipped_140 (by decide) ?_
              refine s_iadd C dX12_findSlipped_141 (by show -2147483648 ≤ (pI Y61235 a0 39).toInt + 1 ∧ (pI Y61235 a0 39).toInt + 1 ≤ 2147483647; omega) (fun z61257 h61258 => ?_)
              have h61258 : z61257.toInt = (pI Y61235 a0 39).toInt + 1 := h61258
              refine g_putI C fi_X12_361 rfl (h61252).1 (h61252).2 dX12_findSlipped_142 ?_
              refine gqW (ks := [39]) (Iy61236.setI (rgOk.of rfl (by omega))) (EM.setI Iy61236 (by decide)) (fun Y61259 Iy61260 Xy61261 w61262 => ?_)
              have w61262 : (pI Y61259 a0 39).toInt = z61257.toInt := w61262
              have q61263 := Xy61261.keepA e61248 (by decide) rfl (a2.toInt.toNat)
              have q61264 := Xy61261.keepA e61249 (by decide) rfl (a1.toInt.toNat)
              have q61265 := Xy61261.keepA e61250 (by decide) rfl (z61127.toInt.toNat)
              have q61266 := Xy61261.keepF 28 (by decide)
              have q61267 := Xy61261.keepA e61251 (by decide) rfl (v38_4.toInt.toNat)
              have q61268 := Xy61261.keepF 36 (by decide)
              have W61269 := W61246.keep Iy61236 Xy61261 (by decide) (by decide) (by decide)
              have Xz61270 : EM [28, 29, 30, 31, 32, 35, 36, 37, 38, 39, 40] a0 P Y61259 := EM.tr ha0 Xz61247 (Xy61261.mono (by decide))
              have e61271 := Xy61261.ref h61252 (by decide) e61248
              have e61272 := Xy61261.ref h61252 (by decide) e61249
              have e61273 := Xy61261.ref h61252 (by decide) e61250
              have e61274 := Xy61261.ref h61252 (by decide) e61251
              have h61275 := Xy61261.at h61252
              have h61276 := Xy61261.ar h61253
              have h61277 := Xy61261.ar h61254
              have h61278 := Xy61261.ar h61255
              have h61279 := Xy61261.ar h61256
              refine g_lv (lv' := [(0, .ref a0), (1, .int a1), (2, .int a2), (3, .int a3), (4, .int v38_4)]) [1, 2, 3, 4, 5] rfl ?_
              exact J145 Y61259 Iy61260 Xz61270 W61269 (by omega) (by omega) (fun b9 e9 => by rw [e61271] at e9; cases e9; omega) (fun b9 e9 => by rw [e61272] at e9; cases e9; omega) (by show (pI Y61259 a0 39).toInt ≤ v38_4.toInt + 1; omega)
  obtain ⟨b61280, e61281, h61282⟩ := I.fld (ha0) 10 13 2 rfl
  have hf0 := hf0 b61280 e61281
  refine g_aload_n C dX12_findSlipped_0 rfl 0 rfl ?_
  refine g_callVV (rest := []) C mv_X12_336 [] (s_X12_leavesNone I hW) (ha0).1 (ha0).2 rfl rfl (by decide) (Nat.le_of_ble_eq_true rfl) (by decide) dX12_findSlipped_1 (fun Y61284 h61285 => ?_)
  obtain ⟨Iy61286, Xy61287, W61288⟩ := h61285
  have q61289 := Xy61287.keepA e61281 (by decide) rfl (a2.toInt.toNat)
  have Xz61290 : EM [28, 29, 30, 31, 32, 35, 36, 37, 38, 39, 40] a0 P Y61284 := Xy61287.mono (by decide)
  have e61291 := Xy61287.ref ha0 (by decide) e61281
  have h61292 := Xy61287.at ha0
  have h61293 := Xy61287.ar h61282
  refine g_aload_n C dX12_findSlipped_4 rfl 0 rfl ?_
  refine g_iload_n C dX12_findSlipped_5 rfl 1 rfl ?_
  refine g_iload_n C dX12_findSlipped_6 rfl 2 rfl ?_
  refine g_iload_n C dX12_findSlipped_7 rfl 3 rfl ?_
  refine g_aload_n C dX12_findSlipped_8 rfl 0 rfl ?_
  obtain ⟨b61294, e61295, h61296⟩ := Iy61286.fld (h61292) 20 13 20 rfl
  refine g_getR C fi_X12_69 rfl e61295 (h61292).1 (h61292).2 dX12_findSlipped_9 ?_
  refine g_iload_n C dX12_findSlipped_12 rfl 1 rfl ?_
  refine g_iald (j := (a1.toInt.toNat)) C h61296.1 h61296.2.1 (ix_in h61296.2.2 (by omega)) dX12_findSlipped_13 ?_
  have h61297 := Iy61286.arr e61295 rfl (a1.toInt.toNat)
  refine g_callVV (rest := []) C mv_X12_339 [.int a1, .int a2, .int a3, .int (pI Y61284 b61294 (a1.toInt.toNat))] (s_X12_gathers Iy61286 (by omega) (by omega) (by omega) (fun b9 e9 => by rw [e61291] at e9; cases e9; show 1 ≤ (pI Y61284 b61280 (a2.toInt.toNat)).toInt ∧ (pI Y61284 b61280 (a2.toInt.toNat)).toInt ≤ 16; omega) W61288) (h61292).1 (h61292).2 rfl rfl (by decide) (Nat.le_of_ble_eq_true rfl) (by decide) dX12_findSlipped_14 (fun Y61299 h61300 => ?_)
  obtain ⟨Iy61301, Xy61302, W61303, p61304⟩ := h61300
  have p61304 : (pI Y61299 a0 28).toInt ≤ 4 + (pI Y61284 b61294 (a1.toInt.toNat)).toInt := p61304
  have q61305 := Xy61302.keepA e61291 (by decide) rfl (a2.toInt.toNat)
  have q61306 := Xy61302.keepA e61295 (by decide) rfl (a1.toInt.toNat)
  have Xz61307 : EM [28, 29, 30, 31, 32, 35, 36, 37, 38, 39, 40] a0 P Y61299 := EM.tr ha0 Xz61290 (Xy61302.mono (by decide))
  have e61308 := Xy61302.ref h61292 (by decide) e61291
  have e61309 := Xy61302.ref h61292 (by decide) e61295
  have h61310 := Xy61302.at h61292
  have h61311 := Xy61302.ar h61293
  have h61312 := Xy61302.ar h61296
  have h61313 := Iy61301.rg h61310 28 rfl
  refine g_aload_n C dX12_findSlipped_17 rfl 0 rfl ?_
  refine g_callVV (rest := []) C mv_X12_346 [] (s_X12_findSolved Iy61301 W61303) (h61310).1 (h61310).2 rfl rfl (by decide) (Nat.le_of_ble_eq_true rfl) (by decide) dX12_findSlipped_18 (fun Y61315 h61316 => ?_)
  obtain ⟨Iy61317, Xy61318, W61319⟩ := h61316
  have q61320 := Xy61318.keepA e61308 (by decide) rfl (a2.toInt.toNat)
  have q61321 := Xy61318.keepA e61309 (by decide) rfl (a1.toInt.toNat)
  have q61322 := Xy61318.keepF 28 (by decide)
  have Xz61323 : EM [28, 29, 30, 31, 32, 35, 36, 37, 38, 39, 40] a0 P Y61315 := EM.tr ha0 Xz61307 (Xy61318.mono (by decide))
  have e61324 := Xy61318.ref h61310 (by decide) e61308
  have e61325 := Xy61318.ref h61310 (by decide) e61309
  have h61326 := Xy61318.at h61310
  have h61327 := Xy61318.ar h61311
  have h61328 := Xy61318.ar h61312
  refine g_aload_n C dX12_findSlipped_21 rfl 0 rfl ?_
  refine g_iconst (v := 0) C dX12_findSlipped_22 (by decide) ?_
  refine g_putI C fi_X12_361 rfl (h61326).1 (h61326).2 dX12_findSlipped_23 ?_
  refine gqW (ks := [39]) (Iy61317.setI (rgOk.of rfl (by decide))) (EM.setI Iy61317 (by decide)) (fun Y61329 Iy61330 Xy61331 w61332 => ?_)
  have w61332 : (pI Y61329 a0 39).toInt = 0 := w61332
  have q61333 := Xy61331.keepA e61324 (by decide) rfl (a2.toInt.toNat)
  have q61334 := Xy61331.keepA e61325 (by decide) rfl (a1.toInt.toNat)
  have q61335 := Xy61331.keepF 28 (by decide)
  have W61336 := W61319.keep Iy61317 Xy61331 (by decide) (by decide) (by decide)
  have Xz61337 : EM [28, 29, 30, 31, 32, 35, 36, 37, 38, 39, 40] a0 P Y61329 := EM.tr ha0 Xz61323 (Xy61331.mono (by decide))
  have e61338 := Xy61331.ref h61326 (by decide) e61324
  have e61339 := Xy61331.ref h61326 (by decide) e61325
  have h61340 := Xy61331.at h61326
  have h61341 := Xy61331.ar h61327
  have h61342 := Xy61331.ar h61328
  refine g_aload_n C dX12_findSlipped_26 rfl 0 rfl ?_
  refine g_getI C fi_X12_326 (by decide) (h61340).1 (h61340).2 dX12_findSlipped_27 ?_
  have h61343 := Iy61330.rg (h61340) 36 rfl
  refine b_if_eq C 35 dX12_findSlipped_30 (by decide) (fun h61344 => ?_) (fun h61344 => ?_)
  · have h61344 : (pI Y61329 a0 36).toInt = 0 := congrArg Int32.toInt h61344
    refine g_iconst (v := 0) C dX12_findSlipped_35 (by decide) ?_
    refine g_istore (lv' := [(4, .int 0), (0, .ref a0), (1, .int a1), (2, .int a2), (3, .int a3)]) C dX12_findSlipped_36 (by decide) rfl ?_
    refine g_lv (lv' := [(0, .ref a0), (1, .int a1), (2, .int a2), (3, .int a3), (4, .int 0)]) [1, 2, 3, 4, 0] rfl ?_
    exact J38 _ Y61329 0 (Nat.lt_succ_self _) Iy61330 Xz61337 W61336 (by decide) (by omega) (fun b9 e9 => by rw [e61338] at e9; cases e9; omega) (by show (pI Y61329 a0 39).toInt ≤ 0; omega)
  · have h61344 : (pI Y61329 a0 36).toInt ≠ 0 := ti_ne h61344
    refine g_iconst (v := 0) C dX12_findSlipped_33 (by decide) ?_
    exact ret _ _ _ _ _ _ dX12_findSlipped_34 rfl (by decide) (by decide) ⟨Iy61330, Xz61337, W61336, (by decide)⟩
theorem dX12_forged_0 : decode cX12_forged 0 = .ok (.aload_n 0, 1) := by decide +kernel
theorem dX12_forged_1 : decode cX12_forged 1 = .ok (.iconst 0, 1) := by decide +kernel
theorem dX12_forged_2 : decode cX12_forged 2 = .ok (.putfield 1, 3) := by decide +kernel
theorem dX12_forged_5 : decode cX12_forged 5 = .ok (.iload_n 1, 1) := by decide +kernel
theorem dX12_forged_6 : decode cX12_forged 6 = .ok (.invokestatic 278, 3) := by decide +kernel
theorem dX12_forged_9 : decode cX12_forged 9 = .ok (.ifCond .eq 45, 3) := by decide +kernel
theorem dX12_forged_12 : decode cX12_forged 12 = .ok (.aload_n 0, 1) := by decide +kernel
theorem dX12_forged_13 : decode cX12_forged 13 = .ok (.iload_n 2, 1) := by decide +kernel
theorem dX12_forged_14 : decode cX12_forged 14 = .ok (.invokevirtual 192, 3) := by decide +kernel
theorem dX12_forged_17 : decode cX12_forged 17 = .ok (.ifCond .eq 37, 3) := by decide +kernel
theorem dX12_forged_20 : decode cX12_forged 20 = .ok (.iload_n 3, 1) := by decide +kernel
theorem dX12_forged_21 : decode cX12_forged 21 = .ok (.invokestatic 258, 3) := by decide +kernel
theorem dX12_forged_24 : decode cX12_forged 24 = .ok (.ifCond .eq 30, 3) := by decide +kernel
theorem dX12_forged_27 : decode cX12_forged 27 = .ok (.iload 4, 2) := by decide +kernel
theorem dX12_forged_29 : decode cX12_forged 29 = .ok (.iconst 0, 1) := by decide +kernel
theorem dX12_forged_30 : decode cX12_forged 30 = .ok (.ldc 195, 2) := by decide +kernel
theorem dX12_forged_32 : decode cX12_forged 32 = .ok (.invokestatic 178, 3) := by decide +kernel
theorem dX12_forged_35 : decode cX12_forged 35 = .ok (.ifCond .eq 19, 3) := by decide +kernel
theorem dX12_forged_38 : decode cX12_forged 38 = .ok (.iload 5, 2) := by decide +kernel
theorem dX12_forged_40 : decode cX12_forged 40 = .ok (.iconst 0, 1) := by decide +kernel
theorem dX12_forged_41 : decode cX12_forged 41 = .ok (.sipush 996, 3) := by decide +kernel
theorem dX12_forged_44 : decode cX12_forged 44 = .ok (.invokestatic 178, 3) := by decide +kernel
theorem dX12_forged_47 : decode cX12_forged 47 = .ok (.ifCond .eq 7, 3) := by decide +kernel
theorem dX12_forged_50 : decode cX12_forged 50 = .ok (.iconst 1, 1) := by decide +kernel
theorem dX12_forged_51 : decode cX12_forged 51 = .ok (.goto 4, 3) := by decide +kernel
theorem dX12_forged_54 : decode cX12_forged 54 = .ok (.iconst 0, 1) := by decide +kernel
theorem dX12_forged_55 : decode cX12_forged 55 = .ok (.istore 6, 2) := by decide +kernel
theorem dX12_forged_57 : decode cX12_forged 57 = .ok (.iload 6, 2) := by decide +kernel
theorem dX12_forged_59 : decode cX12_forged 59 = .ok (.ifCond .eq 28, 3) := by decide +kernel
theorem dX12_forged_62 : decode cX12_forged 62 = .ok (.aload_n 0, 1) := by decide +kernel
theorem dX12_forged_63 : decode cX12_forged 63 = .ok (.getfield 69, 3) := by decide +kernel
theorem dX12_forged_66 : decode cX12_forged 66 = .ok (.iload_n 1, 1) := by decide +kernel
theorem dX12_forged_67 : decode cX12_forged 67 = .ok (.iaload, 1) := by decide +kernel
theorem dX12_forged_68 : decode cX12_forged 68 = .ok (.bipush 40, 2) := by decide +kernel
theorem dX12_forged_70 : decode cX12_forged 70 = .ok (.if_icmp .ge 17, 3) := by decide +kernel
theorem dX12_forged_73 : decode cX12_forged 73 = .ok (.aload_n 0, 1) := by decide +kernel
theorem dX12_forged_74 : decode cX12_forged 74 = .ok (.iload_n 1, 1) := by decide +kernel
theorem dX12_forged_75 : decode cX12_forged 75 = .ok (.iload_n 2, 1) := by decide +kernel
theorem dX12_forged_76 : decode cX12_forged 76 = .ok (.iload_n 3, 1) := by decide +kernel
theorem dX12_forged_77 : decode cX12_forged 77 = .ok (.iload 4, 2) := by decide +kernel
theorem dX12_forged_79 : decode cX12_forged 79 = .ok (.iload 5, 2) := by decide +kernel
theorem dX12_forged_81 : decode cX12_forged 81 = .ok (.invokevirtual 291, 3) := by decide +kernel
theorem dX12_laysIf_0 : decode cX12_laysIf 0 = .ok (.aload_n 0, 1) := by decide +kernel
theorem dX12_laysIf_1 : decode cX12_laysIf 1 = .ok (.getfield 66, 3) := by decide +kernel
theorem dX12_laysIf_4 : decode cX12_laysIf 4 = .ok (.iload_n 2, 1) := by decide +kernel
theorem dX12_laysIf_5 : decode cX12_laysIf 5 = .ok (.iaload, 1) := by decide +kernel
theorem dX12_laysIf_6 : decode cX12_laysIf 6 = .ok (.ifCond .le 28, 3) := by decide +kernel
theorem dX12_laysIf_9 : decode cX12_laysIf 9 = .ok (.iload 5, 2) := by decide +kernel
theorem dX12_laysIf_11 : decode cX12_laysIf 11 = .ok (.aload_n 0, 1) := by decide +kernel
theorem dX12_laysIf_12 : decode cX12_laysIf 12 = .ok (.iload_n 2, 1) := by decide +kernel
theorem dX12_laysIf_13 : decode cX12_laysIf 13 = .ok (.iload_n 3, 1) := by decide +kernel
theorem dX12_laysIf_14 : decode cX12_laysIf 14 = .ok (.iload 4, 2) := by decide +kernel
theorem dX12_laysIf_16 : decode cX12_laysIf 16 = .ok (.invokevirtual 267, 3) := by decide +kernel
theorem dX12_laysIf_19 : decode cX12_laysIf 19 = .ok (.if_icmp .eq 15, 3) := by decide +kernel
theorem dX12_laysIf_22 : decode cX12_laysIf 22 = .ok (.aload_n 0, 1) := by decide +kernel
theorem dX12_laysIf_23 : decode cX12_laysIf 23 = .ok (.dup, 1) := by decide +kernel
theorem dX12_laysIf_24 : decode cX12_laysIf 24 = .ok (.getfield 288, 3) := by decide +kernel
theorem dX12_laysIf_27 : decode cX12_laysIf 27 = .ok (.iconst 1, 1) := by decide +kernel
theorem dX12_laysIf_28 : decode cX12_laysIf 28 = .ok (.iadd, 1) := by decide +kernel
theorem dX12_laysIf_29 : decode cX12_laysIf 29 = .ok (.putfield 288, 3) := by decide +kernel
theorem dX12_laysIf_32 : decode cX12_laysIf 32 = .ok (.iconst (-1), 1) := by decide +kernel
theorem dX12_laysIf_33 : decode cX12_laysIf 33 = .ok (.ireturn, 1) := by decide +kernel
theorem dX12_laysIf_34 : decode cX12_laysIf 34 = .ok (.aload_n 0, 1) := by decide +kernel
theorem dX12_laysIf_35 : decode cX12_laysIf 35 = .ok (.iload_n 1, 1) := by decide +kernel
theorem dX12_laysIf_36 : decode cX12_laysIf 36 = .ok (.iload_n 2, 1) := by decide +kernel
theorem dX12_laysIf_37 : decode cX12_laysIf 37 = .ok (.iload_n 3, 1) := by decide +kernel
theorem dX12_laysIf_38 : decode cX12_laysIf 38 = .ok (.iload 4, 2) := by decide +kernel
theorem dX12_laysIf_40 : decode cX12_laysIf 40 = .ok (.iconst 3, 1) := by decide +kernel
theorem dX12_laysIf_41 : decode cX12_laysIf 41 = .ok (.iload 5, 2) := by decide +kernel
theorem dX12_laysIf_43 : decode cX12_laysIf 43 = .ok (.invokevirtual 284, 3) := by decide +kernel
theorem dX12_laysIf_46 : decode cX12_laysIf 46 = .ok (.ireturn, 1) := by decide +kernel
set_option maxHeartbeats 4000000 in
set_option maxRecDepth 100000 in
theorem s_X12_laysIf {P : PP} {a0 : Nat} {a1 : Int32} {a2 : Int32} {a3 : Int32} {a4 : Int32} {a5 : Int32} (I : IM P a0) (ha1 : 0 ≤ a1.toInt ∧ a1.toInt ≤ 3) (ha2 : 0 ≤ a2.toInt ∧ a2.toInt ≤ 1) (hf0 : ∀ b, pR P a0 10 = some b → 1 ≤ (pI P b (a2.toInt.toNat)).toInt ∧ (pI P b (a2.toInt.toNat)).toInt ≤ 16) (hf1 : ∀ b, pR P a0 20 = some b → 0 ≤ (pI P b (a1.toInt.toNat)).toInt ∧ (pI P b (a1.toInt.toNat)).toInt ≤ 39) (hW : MW P a0) : CtrI yX12_laysIf cX12_laysIf 6 (some Jvm.ClassFile.FieldType.int) ({ frames := 2, cells := 0, slots := 0, locals := 128 } : Room) 0 0 P [.ref a0, .int a1, .int a2, .int a3, .int a4, .int a5] (fun r P2 => IM P2 a0 ∧ EM [20, 21, 22, 23, 24, 25, 27] a0 P P2 ∧ MW P2 a0 ∧ (-1 ≤ r.toInt ∧ r.toInt ≤ 39)) := by
  refine enI (lv := [(0, .ref a0), (1, .int a1), (2, .int a2), (3, .int a3), (4, .int a4), (5, .int a5)]) (by decide) (Nat.le_of_ble_eq_true rfl) rfl (fun E D cy C Ci0 ret => ?_)
  have ha0 := I.2.1
  have J34 : (∀ b, pR P a0 10 = some b → 1 ≤ (pI P b (a2.toInt.toNat)).toInt ∧ (pI P b (a2.toInt.toNat)).toInt ≤ 16) → (∀ b, pR P a0 17 = some b → (pI P b (a2.toInt.toNat)).toInt ≤ 2147483647) → (∀ b, pR P a0 20 = some b → 0 ≤ (pI P b (a1.toInt.toNat)).toInt ∧ (pI P b (a1.toInt.toNat)).toInt ≤ 39) → G E ({ frames := 2, cells := 0, slots := 0, locals := 128 } : Room) D cy 6 P 0 0 34 [(0, .ref a0), (1, .int a1), (2, .int a2), (3, .int a3), (4, .int a4), (5, .int a5)] [] := by
    intro hq34_0 hq34_1 hq34_2
    obtain ⟨b61454, e61455, h61456⟩ := I.fld (ha0) 10 13 2 rfl
    have hq34_0 := hq34_0 b61454 e61455
    obtain ⟨b61457, e61458, h61459⟩ := I.fld (ha0) 17 13 3 rfl
    have hq34_1 := hq34_1 b61457 e61458
    obtain ⟨b61460, e61461, h61462⟩ := I.fld (ha0) 20 13 20 rfl
    have hq34_2 := hq34_2 b61460 e61461
    refine g_aload_n C dX12_laysIf_34 rfl 0 rfl ?_
    refine g_iload_n C dX12_laysIf_35 rfl 1 rfl ?_
    refine g_iload_n C dX12_laysIf_36 rfl 2 rfl ?_
    refine g_iload_n C dX12_laysIf_37 rfl 3 rfl ?_
    refine g_iload C dX12_laysIf_38 4 rfl ?_
    refine g_iconst (v := 3) C dX12_laysIf_40 (by decide) ?_
    refine g_iload C dX12_laysIf_41 5 rfl ?_
    refine g_callVI (rest := []) C mv_X12_284 [.int a1, .int a2, .int a3, .int a4, .int 3, .int a5] (s_X12_lays I (by omega) (by omega) (fun b9 e9 => by rw [e61461] at e9; cases e9; show 0 ≤ (pI P b61460 (a1.toInt.toNat)).toInt ∧ (pI P b61460 (a1.toInt.toNat)).toInt ≤ 39; omega) hW (fun c9 f9 _ => by rw [e61455] at f9; cases f9; show 0 < (pI P b61454 (a2.toInt.toNat)).toInt; omega)) (ha0).1 (ha0).2 rfl rfl (by decide) (Nat.le_of_ble_eq_true rfl) (by decide) dX12_laysIf_43 (fun r61463 Y61464 h61465 => ?_)
    obtain ⟨Iy61466, Xy61467, W61468, p61469, h61465⟩ := h61465
    have p61469 := p61469 b61460 e61461
    have p61469 : (pI Y61464 b61460 (a1.toInt.toNat)).toInt = (pI P b61460 (a1.toInt.toNat)).toInt + 1 := p61469
    have q61470 := Xy61467.keepA e61455 (by decide) rfl (a2.toInt.toNat)
    have q61471 := Xy61467.keepA e61458 (by decide) rfl (a2.toInt.toNat)
    have Xz61472 : EM [20, 21, 22, 23, 24, 25, 27] a0 P Y61464 := Xy61467.mono (by decide)
    have e61473 := Xy61467.ref ha0 (by decide) e61455
    have e61474 := Xy61467.ref ha0 (by decide) e61458
    have e61475 := Xy61467.ref ha0 (by decide) e61461
    have h61476 := Xy61467.at ha0
    have h61477 := Xy61467.ar h61456
    have h61478 := Xy61467.ar h61459
    have h61479 := Xy61467.ar h61462
    have h61465 : 0 ≤ r61463.toInt ∧ r61463.toInt ≤ 39 := h61465
    exact ret _ _ _ _ _ _ dX12_laysIf_46 rfl (by decide) (by decide) ⟨Iy61466, Xz61472, W61468, (by omega)⟩
  obtain ⟨b61480, e61481, h61482⟩ := I.fld (ha0) 10 13 2 rfl
  have hf0 := hf0 b61480 e61481
  obtain ⟨b61483, e61484, h61485⟩ := I.fld (ha0) 20 13 20 rfl
  have hf1 := hf1 b61483 e61484
  refine g_aload_n C dX12_laysIf_0 rfl 0 rfl ?_
  obtain ⟨b61486, e61487, h61488⟩ := I.fld (ha0) 17 13 3 rfl
  refine g_getR C fi_X12_66 rfl e61487 (ha0).1 (ha0).2 dX12_laysIf_1 ?_
  refine g_iload_n C dX12_laysIf_4 rfl 2 rfl ?_
  refine g_iald (j := (a2.toInt.toNat)) C h61488.1 h61488.2.1 (ix_in h61488.2.2 (by omega)) dX12_laysIf_5 ?_
  have u61490 := ti_rng (pI P b61486 (a2.toInt.toNat))
  refine b_if_le C 34 dX12_laysIf_6 (by decide) (fun h61489 => ?_) (fun h61489 => ?_)
  · have h61489 : (pI P b61486 (a2.toInt.toNat)).toInt ≤ 0 := h61489
    exact J34 (fun b9 e9 => by rw [e61481] at e9; cases e9; omega) (fun b9 e9 => by rw [e61487] at e9; cases e9; omega) (fun b9 e9 => by rw [e61484] at e9; cases e9; omega)
  · have h61489 : 0 < (pI P b61486 (a2.toInt.toNat)).toInt := h61489
    refine g_iload C dX12_laysIf_9 5 rfl ?_
    refine g_aload_n C dX12_laysIf_11 rfl 0 rfl ?_
    refine g_iload_n C dX12_laysIf_12 rfl 2 rfl ?_
    refine g_iload_n C dX12_laysIf_13 rfl 3 rfl ?_
    refine g_iload C dX12_laysIf_14 4 rfl ?_
    refine g_callVI (rest := [.int a5]) C mv_X12_267 [.int a2, .int a3, .int a4] (s_X12_sealOf I (by omega) hW) (ha0).1 (ha0).2 rfl rfl (by decide) (Nat.le_of_ble_eq_true rfl) (by decide) dX12_laysIf_16 (fun r61491 Y61492 h61493 => ?_)
    obtain ⟨rfl, h61493⟩ := h61493
    have h61493 : -996 ≤ r61491.toInt ∧ r61491.toInt ≤ 996 := h61493
    have u61495 := ti_rng a5
    refine b_icmp_eq C 34 dX12_laysIf_19 (by decide) (fun h61494 => ?_) (fun h61494 => ?_)
    · have h61494 : a5.toInt = r61491.toInt := congrArg Int32.toInt h61494
      exact J34 (fun b9 e9 => by rw [e61481] at e9; cases e9; omega) (fun b9 e9 => by rw [e61487] at e9; cases e9; omega) (fun b9 e9 => by rw [e61484] at e9; cases e9; omega)
    · have h61494 : a5.toInt ≠ r61491.toInt := ti_ne h61494
      refine g_aload_n C dX12_laysIf_22 rfl 0 rfl ?_
      refine g_dup C dX12_laysIf_23 rfl ?_
      refine g_getI C fi_X12_288 (by decide) (ha0).1 (ha0).2 dX12_laysIf_24 ?_
      refine g_iconst (v := 1) C dX12_laysIf_27 (by decide) ?_
      refine a_iadd C dX12_laysIf_28 (fun z61496 => ?_)
      refine g_putI C fi_X12_288 rfl (ha0).1 (ha0).2 dX12_laysIf_29 ?_
      refine gqW (ks := [27]) (I.setI (rgOk.none rfl)) (EM.setI I (by decide)) (fun Y61498 Iy61499 Xy61500 w61501 => ?_)
      have w61501 : (pI Y61498 a0 27).toInt = z61496.toInt := w61501
      have q61502 := Xy61500.keepA e61481 (by decide) rfl (a2.toInt.toNat)
      have q61503 := Xy61500.keepA e61484 (by decide) rfl (a1.toInt.toNat)
      have q61504 := Xy61500.keepA e61487 (by decide) rfl (a2.toInt.toNat)
      have W61505 := hW.keep I Xy61500 (by decide) (by decide) (by decide)
      have Xz61506 : EM [20, 21, 22, 23, 24, 25, 27] a0 P Y61498 := Xy61500.mono (by decide)
      have e61507 := Xy61500.ref ha0 (by decide) e61481
      have e61508 := Xy61500.ref ha0 (by decide) e61484
      have e61509 := Xy61500.ref ha0 (by decide) e61487
      have h61510 := Xy61500.at ha0
      have h61511 := Xy61500.ar h61482
      have h61512 := Xy61500.ar h61485
      have h61513 := Xy61500.ar h61488
      refine g_iconst (v := (-1)) C dX12_laysIf_32 (by decide) ?_
      exact ret _ _ _ _ _ _ dX12_laysIf_33 rfl (by decide) (by decide) ⟨Iy61499, Xz61506, W61505, (by decide)⟩
theorem dX12_forged_84 : decode cX12_forged 84 = .ok (.goto 4, 3) := by decide +kernel
theorem dX12_forged_87 : decode cX12_forged 87 = .ok (.iconst (-1), 1) := by decide +kernel
theorem dX12_forged_88 : decode cX12_forged 88 = .ok (.ireturn, 1) := by decide +kernel
set_option maxHeartbeats 4000000 in
set_option maxRecDepth 100000 in
theorem s_X12_forged {P : PP} {a0 : Nat} {a1 : Int32} {a2 : Int32} {a3 : Int32} {a4 : Int32} {a5 : Int32} (I : IM P a0) (hW : MW P a0) : CtrI yX12_forged cX12_forged 7 (some Jvm.ClassFile.FieldType.int) ({ frames := 3, cells := 0, slots := 0, locals := 192 } : Room) 0 0 P [.ref a0, .int a1, .int a2, .int a3, .int a4, .int a5] (fun r P2 => IM P2 a0 ∧ EM [0, 20, 21, 22, 23, 24, 25, 27] a0 P P2 ∧ MW P2 a0 ∧ (-1 ≤ r.toInt ∧ r.toInt ≤ 39)) := by
  refine enI (lv := [(0, .ref a0), (1, .int a1), (2, .int a2), (3, .int a3), (4, .int a4), (5, .int a5)]) (by decide) (Nat.le_of_ble_eq_true rfl) rfl (fun E D cy C Ci0 ret => ?_)
  have ha0 := I.2.1
  have J87 : ∀ (P87 : PP), (IM P87 a0) → (EM [0, 20, 21, 22, 23, 24, 25, 27] a0 P P87) → (MW P87 a0) → (0 ≤ (pI P87 a0 0).toInt ∧ (pI P87 a0 0).toInt ≤ 0) → G E ({ frames := 3, cells := 0, slots := 0, locals := 192 } : Room) D cy 7 P87 0 0 87 [] [] := by
    intro P87 I87 X87 W87 hq87_0
    have h61576 := X87.at ha0
    refine g_iconst (v := (-1)) C dX12_forged_87 (by decide) ?_
    exact ret _ _ _ _ _ _ dX12_forged_88 rfl (by decide) (by decide) ⟨I87, X87, W87, (by decide)⟩
  have J55 : ∀ (P55 : PP) (v55_s0 : Int32), (IM P55 a0) → (EM [0, 20, 21, 22, 23, 24, 25, 27] a0 P P55) → (MW P55 a0) → (0 ≤ v55_s0.toInt ∧ v55_s0.toInt ≤ 1) → (0 ≤ (pI P55 a0 0).toInt ∧ (pI P55 a0 0).toInt ≤ 0) → (∀ b910, pR P55 a0 10 = some b910 → v55_s0.toInt = 0 ∨ 0 < (pI P55 b910 (a2.toInt.toNat)).toInt) → (v55_s0.toInt = 0 ∨ (0 ≤ a1.toInt ∧ a1.toInt ≤ 3 ∧ 0 ≤ a2.toInt ∧ a2.toInt ≤ 1)) → G E ({ frames := 3, cells := 0, slots := 0, locals := 192 } : Room) D cy 7 P55 0 0 55 [(0, .ref a0), (1, .int a1), (2, .int a2), (3, .int a3), (4, .int a4), (5, .int a5)] [.int v55_s0] := by
    intro P55 v55_s0 I55 X55 W55 hv55_s0 hq55_0 rel55_0 rel55_1
    have h61577 := X55.at ha0
    obtain ⟨b61578, e61579, h61580⟩ := I55.fld (h61577) 10 13 2 rfl
    have rel55_0 := rel55_0 b61578 e61579
    have h61581 := I55.arr e61579 rfl (a2.toInt.toNat)
    refine g_istore (lv' := [(6, .int v55_s0), (0, .ref a0), (1, .int a1), (2, .int a2), (3, .int a3), (4, .int a4), (5, .int a5)]) C dX12_forged_55 (by decide) rfl ?_
    refine g_iload C dX12_forged_57 0 rfl ?_
    refine b_if_eq C 87 dX12_forged_59 (by decide) (fun h61582 => ?_) (fun h61582 => ?_)
    · have h61582 : v55_s0.toInt = 0 := congrArg Int32.toInt h61582
      clear rel55_1
      refine g_lv (lv' := []) [] rfl ?_
      exact J87 P55 I55 X55 W55 (by omega)
    · have h61582 : v55_s0.toInt ≠ 0 := ti_ne h61582
      replace rel55_1 := rel55_1.resolve_left (by omega)
      refine g_aload_n C dX12_forged_62 rfl 1 rfl ?_
      obtain ⟨b61583, e61584, h61585⟩ := I55.fld (h61577) 20 13 20 rfl
      refine g_getR C fi_X12_69 rfl e61584 (h61577).1 (h61577).2 dX12_forged_63 ?_
      refine g_iload_n C dX12_forged_66 rfl 2 rfl ?_
      refine g_iald (j := (a1.toInt.toNat)) C h61585.1 h61585.2.1 (ix_in h61585.2.2 (by omega)) dX12_forged_67 ?_
      have h61586 := I55.arr e61584 rfl (a1.toInt.toNat)
      refine g_bipush (v := 40) C dX12_forged_68 (by decide) ?_
      refine b_icmp_ge C 87 dX12_forged_70 (by decide) (fun h61587 => ?_) (fun h61587 => ?_)
      · have h61587 : 40 ≤ (pI P55 b61583 (a1.toInt.toNat)).toInt := h61587
        refine g_lv (lv' := []) [] rfl ?_
        exact J87 P55 I55 X55 W55 (by omega)
      · have h61587 : (pI P55 b61583 (a1.toInt.toNat)).toInt < 40 := h61587
        refine g_aload_n C dX12_forged_73 rfl 1 rfl ?_
        refine g_iload_n C dX12_forged_74 rfl 2 rfl ?_
        refine g_iload_n C dX12_forged_75 rfl 3 rfl ?_
        refine g_iload_n C dX12_forged_76 rfl 4 rfl ?_
        refine g_iload C dX12_forged_77 5 rfl ?_
        refine g_iload C dX12_forged_79 6 rfl ?_
        refine g_callVI (rest := []) C mv_X12_291 [.int a1, .int a2, .int a3, .int a4, .int a5] (s_X12_laysIf I55 (by omega) (by omega) (fun b9 e9 => by rw [e61579] at e9; cases e9; show 1 ≤ (pI P55 b61578 (a2.toInt.toNat)).toInt ∧ (pI P55 b61578 (a2.toInt.toNat)).toInt ≤ 16; omega) (fun b9 e9 => by rw [e61584] at e9; cases e9; show 0 ≤ (pI P55 b61583 (a1.toInt.toNat)).toInt ∧ (pI P55 b61583 (a1.toInt.toNat)).toInt ≤ 39; omega) W55) (h61577).1 (h61577).2 rfl rfl (by decide) (Nat.le_of_ble_eq_true rfl) (by decide) dX12_forged_81 (fun r61588 Y61589 h61590 => ?_)
        obtain ⟨Iy61591, Xy61592, W61593, h61590⟩ := h61590
        have q61594 := Xy61592.keepF 0 (by decide)
        have q61595 := Xy61592.keepA e61579 (by decide) rfl (a2.toInt.toNat)
        have Xz61596 : EM [0, 20, 21, 22, 23, 24, 25, 27] a0 P Y61589 := EM.tr ha0 X55 (Xy61592.mono (by decide))
        have e61597 := Xy61592.ref h61577 (by decide) e61579
        have h61598 := Xy61592.at h61577
        have h61599 := Xy61592.ar h61580
        have h61590 : -1 ≤ r61588.toInt ∧ r61588.toInt ≤ 39 := h61590
        refine g_goto C 88 dX12_forged_84 (by decide) ?_
        exact ret _ _ _ _ _ _ dX12_forged_88 rfl (by decide) (by decide) ⟨Iy61591, Xz61596, W61593, (by omega)⟩
  have J54 : ∀ (P54 : PP), (IM P54 a0) → (EM [0, 20, 21, 22, 23, 24, 25, 27] a0 P P54) → (MW P54 a0) → (0 ≤ (pI P54 a0 0).toInt ∧ (pI P54 a0 0).toInt ≤ 0) → G E ({ frames := 3, cells := 0, slots := 0, locals := 192 } : Room) D cy 7 P54 0 0 54 [(0, .ref a0), (1, .int a1), (2, .int a2), (3, .int a3), (4, .int a4), (5, .int a5)] [] := by
    intro P54 I54 X54 W54 hq54_0
    have h61600 := X54.at ha0
    refine g_iconst (v := 0) C dX12_forged_54 (by decide) ?_
    obtain ⟨b61601, e61602, h61603⟩ := I54.fld (h61600) 10 13 2 rfl
    exact J55 P54 0 I54 X54 W54 (by decide) (by omega) (by intro b910 e910; rw [e61602] at e910; cases e910; show 0 = 0 ∨ 0 < (pI P54 b61601 (a2.toInt.toNat)).toInt; omega) (by show 0 = 0 ∨ (0 ≤ a1.toInt ∧ a1.toInt ≤ 3 ∧ 0 ≤ a2.toInt ∧ a2.toInt ≤ 1); omega)
  refine g_aload_n C dX12_forged_0 rfl 0 rfl ?_
  refine g_iconst (v := 0) C dX12_forged_1 (by decide) ?_
  refine g_putI C fi_X12_1 rfl (ha0).1 (ha0).2 dX12_forged_2 ?_
  refine gqW (ks := [0]) (I.setI (rgOk.of rfl (by decide))) (EM.setI I (by decide)) (fun Y61604 Iy61605 Xy61606 w61607 => ?_)
  have w61607 : (pI Y61604 a0 0).toInt = 0 := w61607
  have W61608 := hW.keep I Xy61606 (by decide) (by decide) (by decide)
  have Xz61609 : EM [0, 20, 21, 22, 23, 24, 25, 27] a0 P Y61604 := Xy61606.mono (by decide)
  have h61610 := Xy61606.at ha0
  refine g_iload_n C dX12_forged_5 rfl 1 rfl ?_
  refine g_callSI (b := 0) (ci := 0) (rest := []) C ms_X12_278 [.int a1] (s_X12_isQuarter Iy61605.1) rfl rfl (by decide) (Nat.le_of_ble_eq_true rfl) (by decide) dX12_forged_6 (fun r61611 Y61612 h61613 => ?_)
  obtain ⟨rfl, h61613⟩ := h61613
  obtain ⟨h61613, hi61614⟩ := h61613
  have hi61614 : r61611.toInt = 0 ∨ (((0 : Int) ≤ a1.toInt ∧ a1.toInt ≤ (3 : Int))) := hi61614
  have h61613 : 0 ≤ r61611.toInt ∧ r61611.toInt ≤ 1 := h61613
  refine b_if_eq C 54 dX12_forged_9 (by decide) (fun h61615 => ?_) (fun h61615 => ?_)
  · have h61615 : r61611.toInt = 0 := congrArg Int32.toInt h61615
    clear hi61614
    exact J54 Y61604 Iy61605 Xz61609 W61608 (by omega)
  · have h61615 : r61611.toInt ≠ 0 := ti_ne h61615
    replace hi61614 := hi61614.resolve_left (by omega)
    refine g_aload_n C dX12_forged_12 rfl 0 rfl ?_
    refine g_iload_n C dX12_forged_13 rfl 2 rfl ?_
    refine g_callVI (rest := []) C mv_X12_192 [.int a2] (s_X12_isBook Iy61605 W61608) (h61610).1 (h61610).2 rfl rfl (by decide) (Nat.le_of_ble_eq_true rfl) (by decide) dX12_forged_14 (fun r61616 Y61617 h61618 => ?_)
    obtain ⟨rfl, h61618⟩ := h61618
    obtain ⟨h61618, hi61619, hi61620⟩ := h61618
    have hi61619 : r61616.toInt = 0 ∨ (((0 : Int) ≤ a2.toInt ∧ a2.toInt ≤ (1 : Int))) := hi61619
    have h61618 : 0 ≤ r61616.toInt ∧ r61616.toInt ≤ 1 := h61618
    refine b_if_eq C 54 dX12_forged_17 (by decide) (fun h61621 => ?_) (fun h61621 => ?_)
    · have h61621 : r61616.toInt = 0 := congrArg Int32.toInt h61621
      clear hi61619
      exact J54 Y61604 Iy61605 Xz61609 W61608 (by omega)
    · have h61621 : r61616.toInt ≠ 0 := ti_ne h61621
      replace hi61619 := hi61619.resolve_left (by omega)
      obtain ⟨b61622, e61623, h61624⟩ := Iy61605.fld (h61610) 10 13 2 rfl
      have hi61620 := (hi61620.resolve_left (by omega)) b61622 e61623
      have hi61620 : 0 < (pI Y61604 b61622 (a2.toInt.toNat)).toInt := hi61620
      have h61625 := Iy61605.arr e61623 rfl (a2.toInt.toNat)
      refine g_iload_n C dX12_forged_20 rfl 3 rfl ?_
      refine g_callSI (b := 0) (ci := 0) (rest := []) C ms_X12_258 [.int a3] (s_X12_isNumber Iy61605.1) rfl rfl (by decide) (Nat.le_of_ble_eq_true rfl) (by decide) dX12_forged_21 (fun r61626 Y61627 h61628 => ?_)
      obtain ⟨rfl, h61628⟩ := h61628
      obtain ⟨h61628, hi61629⟩ := h61628
      have hi61629 : r61626.toInt = 0 ∨ (((0 : Int) ≤ a3.toInt ∧ a3.toInt ≤ (9999 : Int))) := hi61629
      have h61628 : 0 ≤ r61626.toInt ∧ r61626.toInt ≤ 1 := h61628
      refine b_if_eq C 54 dX12_forged_24 (by decide) (fun h61630 => ?_) (fun h61630 => ?_)
      · have h61630 : r61626.toInt = 0 := congrArg Int32.toInt h61630
        clear hi61629
        exact J54 Y61604 Iy61605 Xz61609 W61608 (by omega)
      · have h61630 : r61626.toInt ≠ 0 := ti_ne h61630
        replace hi61629 := hi61629.resolve_left (by omega)
        refine g_iload C dX12_forged_27 4 rfl ?_
        refine g_iconst (v := 0) C dX12_forged_29 (by decide) ?_
        refine g_ldc (v := 65535) C kc_X12_195 dX12_forged_30 ?_
        refine g_callSI (b := 0) (ci := 0) (rest := []) C ms_X12_178 [.int a4, .int 0, .int 65535] (s_X12_within Iy61605.1) rfl rfl (by decide) (Nat.le_of_ble_eq_true rfl) (by decide) dX12_forged_32 (fun r61631 Y61632 h61633 => ?_)
        obtain ⟨rfl, h61633⟩ := h61633
        obtain ⟨h61633, hi61634⟩ := h61633
        have hi61634 : r61631.toInt = 0 ∨ (0 ≤ a4.toInt ∧ a4.toInt ≤ 65535) := hi61634
        have h61633 : 0 ≤ r61631.toInt ∧ r61631.toInt ≤ 1 := h61633
        refine b_if_eq C 54 dX12_forged_35 (by decide) (fun h61635 => ?_) (fun h61635 => ?_)
        · have h61635 : r61631.toInt = 0 := congrArg Int32.toInt h61635
          clear hi61634
          exact J54 Y61604 Iy61605 Xz61609 W61608 (by omega)
        · have h61635 : r61631.toInt ≠ 0 := ti_ne h61635
          replace hi61634 := hi61634.resolve_left (by omega)
          refine g_iload C dX12_forged_38 5 rfl ?_
          refine g_iconst (v := 0) C dX12_forged_40 (by decide) ?_
          refine g_sipush (v := 996) C dX12_forged_41 (by decide) ?_
          refine g_callSI (b := 0) (ci := 0) (rest := []) C ms_X12_178 [.int a5, .int 0, .int 996] (s_X12_within Iy61605.1) rfl rfl (by decide) (Nat.le_of_ble_eq_true rfl) (by decide) dX12_forged_44 (fun r61636 Y61637 h61638 => ?_)
          obtain ⟨rfl, h61638⟩ := h61638
          obtain ⟨h61638, hi61639⟩ := h61638
          have hi61639 : r61636.toInt = 0 ∨ (0 ≤ a5.toInt ∧ a5.toInt ≤ 996) := hi61639
          have h61638 : 0 ≤ r61636.toInt ∧ r61636.toInt ≤ 1 := h61638
          refine b_if_eq C 54 dX12_forged_47 (by decide) (fun h61640 => ?_) (fun h61640 => ?_)
          · have h61640 : r61636.toInt = 0 := congrArg Int32.toInt h61640
            clear hi61639
            exact J54 Y61604 Iy61605 Xz61609 W61608 (by omega)
          · have h61640 : r61636.toInt ≠ 0 := ti_ne h61640
            replace hi61639 := hi61639.resolve_left (by omega)
            refine g_iconst (v := 1) C dX12_forged_50 (by decide) ?_
            refine g_goto C 55 dX12_forged_51 (by decide) ?_
            exact J55 Y61604 1 Iy61605 Xz61609 W61608 (by decide) (by omega) (by intro b910 e910; rw [e61623] at e910; cases e910; show 1 = 0 ∨ 0 < (pI Y61604 b61622 (a2.toInt.toNat)).toInt; omega) (by show 1 = 0 ∨ (0 ≤ a1.toInt ∧ a1.toInt ≤ 3 ∧ 0 ≤ a2.toInt ∧ a2.toInt ≤ 1); omega)
set_option maxHeartbeats 4000000 in
set_option maxRecDepth 100000 in
theorem s_X12_forgetsDraw {P : PP} {a0 : Nat} {a1 : Int32} (I : IM P a0) (ha1 : 0 ≤ a1.toInt ∧ a1.toInt ≤ 2) (hW : MW P a0) : CtrV yX12_forgetsDraw cX12_forgetsDraw 3 none ({ frames := 1, cells := 0, slots := 0, locals := 64 } : Room) 0 0 P [.ref a0, .int a1] (fun P2 => IM P2 a0 ∧ EM [12, 13, 14, 15, 17] a0 P P2 ∧ MW P2 a0) := by
  refine enV (lv := [(0, .ref a0), (1, .int a1)]) (by decide) (Nat.le_of_ble_eq_true rfl) rfl (fun E D cy C Ci0 ret => ?_)
  have ha0 := I.2.1
  have J2 : ∀ (n2 : Nat) (P2 : PP) (v2_2 : Int32), (21 - v2_2.toInt).toNat < n2 → (IM P2 a0) → (EM [12, 13, 14, 15, 17] a0 P P2) → (MW P2 a0) → (0 ≤ v2_2.toInt ∧ v2_2.toInt ≤ 21) → G E ({ frames := 1, cells := 0, slots := 0, locals := 64 } : Room) D cy 3 P2 0 0 2 [(0, .ref a0), (1, .int a1), (2, .int v2_2)] [] := by
    intro n2
    induction n2 with
    | zero => intro P2 v2_2 hm2 I2 X2 W2 hv2_2; omega
    | succ n2 ih2 =>
      intro P2 v2_2 hm2 I2 X2 W2 hv2_2
      have h61986 := X2.at ha0
      refine g_iload_n C dX12_forgetsDraw_2 rfl 2 rfl ?_
      refine g_bipush (v := 21) C dX12_forgetsDraw_3 (by decide) ?_
      refine b_icmp_ge C 26 dX12_forgetsDraw_5 (by decide) (fun h61987 => ?_) (fun h61987 => ?_)
      · have h61987 : 21 ≤ v2_2.toInt := h61987
        refine g_aload_n C dX12_forgetsDraw_26 rfl 0 rfl ?_
        obtain ⟨b61988, e61989, h61990⟩ := I2.fld (h61986) 13 13 3 rfl
        refine g_getR C fi_X12_54 rfl e61989 (h61986).1 (h61986).2 dX12_forgetsDraw_27 ?_
        refine g_iload_n C dX12_forgetsDraw_30 rfl 1 rfl ?_
        refine g_iconst (v := 0) C dX12_forgetsDraw_31 (by decide) ?_
        refine g_iast (j := (a1.toInt.toNat)) C h61990.1 h61990.2.1 (ix_in h61990.2.2 (by omega)) dX12_forgetsDraw_32 ?_
        refine gqW (ks := [13]) (I2.setA e61989 h61990 (by decide) (arOk.none rfl)) (EM.setA I2 e61989 rfl (by decide)) (fun Y61991 Iy61992 Xy61993 w61994 => ?_)
        have w61994 : (pI Y61991 b61988 (a1.toInt.toNat)).toInt = 0 := w61994
        have W61995 := W2.keep I2 Xy61993 (by decide) (by decide) (by decide)
        have Xz61996 : EM [12, 13, 14, 15, 17] a0 P Y61991 := EM.tr ha0 X2 (Xy61993.mono (by decide))
        have e61997 := Xy61993.ref h61986 (by decide) e61989
        have h61998 := Xy61993.at h61986
        have h61999 := Xy61993.ar h61990
        refine g_aload_n C dX12_forgetsDraw_33 rfl 0 rfl ?_
        obtain ⟨b62000, e62001, h62002⟩ := Iy61992.fld (h61998) 14 13 3 rfl
        refine g_getR C fi_X12_57 rfl e62001 (h61998).1 (h61998).2 dX12_forgetsDraw_34 ?_
        refine g_iload_n C dX12_forgetsDraw_37 rfl 1 rfl ?_
        refine g_iconst (v := 1) C dX12_forgetsDraw_38 (by decide) ?_
        refine g_iast (j := (a1.toInt.toNat)) C h62002.1 h62002.2.1 (ix_in h62002.2.2 (by omega)) dX12_forgetsDraw_39 ?_
        refine gqX (ks := [14]) (W := (fun P => MW P a0)) (Iy61992.setA e62001 h62002 (by decide) (arOk.of rfl (by decide))) (EM.setA Iy61992 e62001 rfl (by decide)) (W61995.set14 Iy61992 e62001 (by first | exact Or.inl (by omega) | exact Or.inr (by decide))) (fun Y62003 Iy62004 Xy62005 w62006 W62007 => ?_)
        have w62006 : (pI Y62003 b62000 (a1.toInt.toNat)).toInt = 1 := w62006
        have q62008 := Xy62005.keepA e61997 (by decide) rfl (a1.toInt.toNat)
        have Xz62009 : EM [12, 13, 14, 15, 17] a0 P Y62003 := EM.tr ha0 Xz61996 (Xy62005.mono (by decide))
        have e62010 := Xy62005.ref h61998 (by decide) e61997
        have e62011 := Xy62005.ref h61998 (by decide) e62001
        have h62012 := Xy62005.at h61998
        have h62013 := Xy62005.ar h61999
        have h62014 := Xy62005.ar h62002
        refine g_aload_n C dX12_forgetsDraw_40 rfl 0 rfl ?_
        obtain ⟨b62015, e62016, h62017⟩ := Iy62004.fld (h62012) 15 13 3 rfl
        refine g_getR C fi_X12_60 rfl e62016 (h62012).1 (h62012).2 dX12_forgetsDraw_41 ?_
        refine g_iload_n C dX12_forgetsDraw_44 rfl 1 rfl ?_
        refine g_iconst (v := 0) C dX12_forgetsDraw_45 (by decide) ?_
        refine g_iast (j := (a1.toInt.toNat)) C h62017.1 h62017.2.1 (ix_in h62017.2.2 (by omega)) dX12_forgetsDraw_46 ?_
        refine gqW (ks := [15]) (Iy62004.setA e62016 h62017 (by decide) (arOk.of rfl (by decide))) (EM.setA Iy62004 e62016 rfl (by decide)) (fun Y62018 Iy62019 Xy62020 w62021 => ?_)
        have w62021 : (pI Y62018 b62015 (a1.toInt.toNat)).toInt = 0 := w62021
        have q62022 := Xy62020.keepA e62010 (by decide) rfl (a1.toInt.toNat)
        have q62023 := Xy62020.keepA e62011 (by decide) rfl (a1.toInt.toNat)
        have W62024 := W62007.keep Iy62004 Xy62020 (by decide) (by decide) (by decide)
        have Xz62025 : EM [12, 13, 14, 15, 17] a0 P Y62018 := EM.tr ha0 Xz62009 (Xy62020.mono (by decide))
        have e62026 := Xy62020.ref h62012 (by decide) e62010
        have e62027 := Xy62020.ref h62012 (by decide) e62011
        have e62028 := Xy62020.ref h62012 (by decide) e62016
        have h62029 := Xy62020.at h62012
        have h62030 := Xy62020.ar h62013
        have h62031 := Xy62020.ar h62014
        have h62032 := Xy62020.ar h62017
        refine g_aload_n C dX12_forgetsDraw_47 rfl 0 rfl ?_
        obtain ⟨b62033, e62034, h62035⟩ := Iy62019.fld (h62029) 17 13 3 rfl
        refine g_getR C fi_X12_66 rfl e62034 (h62029).1 (h62029).2 dX12_forgetsDraw_48 ?_
        refine g_iload_n C dX12_forgetsDraw_51 rfl 1 rfl ?_
        refine g_iconst (v := 0) C dX12_forgetsDraw_52 (by decide) ?_
        refine g_iast (j := (a1.toInt.toNat)) C h62035.1 h62035.2.1 (ix_in h62035.2.2 (by omega)) dX12_forgetsDraw_53 ?_
        refine gqW (ks := [17]) (Iy62019.setA e62034 h62035 (by decide) (arOk.none rfl)) (EM.setA Iy62019 e62034 rfl (by decide)) (fun Y62036 Iy62037 Xy62038 w62039 => ?_)
        have w62039 : (pI Y62036 b62033 (a1.toInt.toNat)).toInt = 0 := w62039
        have q62040 := Xy62038.keepA e62026 (by decide) rfl (a1.toInt.toNat)
        have q62041 := Xy62038.keepA e62027 (by decide) rfl (a1.toInt.toNat)
        have q62042 := Xy62038.keepA e62028 (by decide) rfl (a1.toInt.toNat)
        have W62043 := W62024.keep Iy62019 Xy62038 (by decide) (by decide) (by decide)
        have Xz62044 : EM [12, 13, 14, 15, 17] a0 P Y62036 := EM.tr ha0 Xz62025 (Xy62038.mono (by decide))
        have e62045 := Xy62038.ref h62029 (by decide) e62026
        have e62046 := Xy62038.ref h62029 (by decide) e62027
        have e62047 := Xy62038.ref h62029 (by decide) e62028
        have e62048 := Xy62038.ref h62029 (by decide) e62034
        have h62049 := Xy62038.at h62029
        have h62050 := Xy62038.ar h62030
        have h62051 := Xy62038.ar h62031
        have h62052 := Xy62038.ar h62032
        have h62053 := Xy62038.ar h62035
        exact ret _ _ _ _ _ dX12_forgetsDraw_54 (by decide) (by decide) ⟨Iy62037, Xz62044, W62043⟩
      · have h61987 : v2_2.toInt < 21 := h61987
        refine g_aload_n C dX12_forgetsDraw_8 rfl 0 rfl ?_
        obtain ⟨b62054, e62055, h62056⟩ := I2.fld (h61986) 12 13 63 rfl
        refine g_getR C fi_X12_51 rfl e62055 (h61986).1 (h61986).2 dX12_forgetsDraw_9 ?_
        refine g_bipush (v := 21) C dX12_forgetsDraw_12 (by decide) ?_
        refine g_iload_n C dX12_forgetsDraw_14 rfl 1 rfl ?_
        refine s_imul C dX12_forgetsDraw_15 (by show -2147483648 ≤ 21 * a1.toInt ∧ 21 * a1.toInt ≤ 2147483647; omega) (fun z62057 h62058 => ?_)
        have h62058 : z62057.toInt = 21 * a1.toInt := h62058
        refine g_iload_n C dX12_forgetsDraw_16 rfl 2 rfl ?_
        refine s_iadd C dX12_forgetsDraw_17 (by show -2147483648 ≤ z62057.toInt + v2_2.toInt ∧ z62057.toInt + v2_2.toInt ≤ 2147483647; omega) (fun z62059 h62060 => ?_)
        have h62060 : z62059.toInt = z62057.toInt + v2_2.toInt := h62060
        refine g_iconst (v := (-1)) C dX12_forgetsDraw_18 (by decide) ?_
        refine g_iast (j := (z62059.toInt.toNat)) C h62056.1 h62056.2.1 (ix_in h62056.2.2 (by omega)) dX12_forgetsDraw_19 ?_
        refine gqW (ks := [12]) (I2.setA e62055 h62056 (by decide) (arOk.of rfl (by decide))) (EM.setA I2 e62055 rfl (by decide)) (fun Y62061 Iy62062 Xy62063 w62064 => ?_)
        have w62064 : (pI Y62061 b62054 (z62059.toInt.toNat)).toInt = (-1) := w62064
        have W62065 := W2.keep I2 Xy62063 (by decide) (by decide) (by decide)
        have Xz62066 : EM [12, 13, 14, 15, 17] a0 P Y62061 := EM.tr ha0 X2 (Xy62063.mono (by decide))
        have e62067 := Xy62063.ref h61986 (by decide) e62055
        have h62068 := Xy62063.at h61986
        have h62069 := Xy62063.ar h62056
        refine s_iinc (lv0 := [(0, .ref a0), (1, .int a1)]) (m := 1) C dX12_forgetsDraw_20 2 rfl (by decide) rfl (by decide) (by omega) (fun z62070 h62071 => ?_)
        have h62071 : z62070.toInt = v2_2.toInt + 1 := h62071
        refine g_goto C 2 dX12_forgetsDraw_23 (by decide) ?_
        refine g_lv (lv' := [(0, .ref a0), (1, .int a1), (2, .int z62070)]) [1, 2, 0] rfl ?_
        exact ih2 Y62061 z62070 (by omega) Iy62062 Xz62066 W62065 (by omega)
  refine g_iconst (v := 0) C dX12_forgetsDraw_0 (by decide) ?_
  refine g_istore_n (lv' := [(2, .int 0), (0, .ref a0), (1, .int a1)]) C dX12_forgetsDraw_1 rfl (by decide) rfl ?_
  refine g_lv (lv' := [(0, .ref a0), (1, .int a1), (2, .int 0)]) [1, 2, 0] rfl ?_
  exact J2 _ P 0 (Nat.lt_succ_self _) I EM.rf hW (by decide)
theorem dX12_guard_0 : decode cX12_guard 0 = .ok (.aload_n 0, 1) := by decide +kernel
theorem dX12_guard_1 : decode cX12_guard 1 = .ok (.iconst 0, 1) := by decide +kernel
theorem dX12_guard_2 : decode cX12_guard 2 = .ok (.putfield 1, 3) := by decide +kernel
theorem dX12_guard_5 : decode cX12_guard 5 = .ok (.aload_n 0, 1) := by decide +kernel
theorem dX12_guard_6 : decode cX12_guard 6 = .ok (.iload_n 1, 1) := by decide +kernel
theorem dX12_guard_7 : decode cX12_guard 7 = .ok (.iload_n 2, 1) := by decide +kernel
theorem dX12_guard_8 : decode cX12_guard 8 = .ok (.iload_n 3, 1) := by decide +kernel
theorem dX12_guard_9 : decode cX12_guard 9 = .ok (.invokevirtual 333, 3) := by decide +kernel
theorem dX12_guard_12 : decode cX12_guard 12 = .ok (.ifCond .eq 13, 3) := by decide +kernel
theorem dX12_guard_15 : decode cX12_guard 15 = .ok (.aload_n 0, 1) := by decide +kernel
theorem dX12_guard_16 : decode cX12_guard 16 = .ok (.iload_n 2, 1) := by decide +kernel
theorem dX12_guard_17 : decode cX12_guard 17 = .ok (.iload 4, 2) := by decide +kernel
theorem dX12_guard_19 : decode cX12_guard 19 = .ok (.invokevirtual 352, 3) := by decide +kernel
theorem dX12_isPage_0 : decode cX12_isPage 0 = .ok (.iload_n 2, 1) := by decide +kernel
theorem dX12_isPage_1 : decode cX12_isPage 1 = .ok (.iconst 0, 1) := by decide +kernel
theorem dX12_isPage_2 : decode cX12_isPage 2 = .ok (.aload_n 0, 1) := by decide +kernel
theorem dX12_isPage_3 : decode cX12_isPage 3 = .ok (.iload_n 1, 1) := by decide +kernel
theorem dX12_isPage_4 : decode cX12_isPage 4 = .ok (.invokevirtual 238, 3) := by decide +kernel
theorem dX12_isPage_7 : decode cX12_isPage 7 = .ok (.iconst 1, 1) := by decide +kernel
theorem dX12_isPage_8 : decode cX12_isPage 8 = .ok (.isub, 1) := by decide +kernel
theorem dX12_isPage_9 : decode cX12_isPage 9 = .ok (.invokestatic 178, 3) := by decide +kernel
theorem dX12_isPage_12 : decode cX12_isPage 12 = .ok (.ireturn, 1) := by decide +kernel
set_option maxHeartbeats 4000000 in
set_option maxRecDepth 100000 in
theorem s_X12_isPage {P : PP} {a0 : Nat} {a1 : Int32} {a2 : Int32} (I : IM P a0) (ha1 : 0 ≤ a1.toInt ∧ a1.toInt ≤ 1) (hW : MW P a0) : CtrI yX12_isPage cX12_isPage 3 (some Jvm.ClassFile.FieldType.boolean) ({ frames := 2, cells := 0, slots := 0, locals := 128 } : Room) 0 0 P [.ref a0, .int a1, .int a2] (fun r P2 => P = P2 ∧ (0 ≤ r.toInt ∧ r.toInt ≤ 1) ∧ (r.toInt = 0 ∨ (((0 : Int) ≤ a2.toInt ∧ a2.toInt ≤ (19 : Int))))) := by
  refine enI (lv := [(0, .ref a0), (1, .int a1), (2, .int a2)]) (by decide) (Nat.le_of_ble_eq_true rfl) rfl (fun E D cy C Ci0 ret => ?_)
  have ha0 := I.2.1
  refine g_iload_n C dX12_isPage_0 rfl 2 rfl ?_
  refine g_iconst (v := 0) C dX12_isPage_1 (by decide) ?_
  refine g_aload_n C dX12_isPage_2 rfl 0 rfl ?_
  refine g_iload_n C dX12_isPage_3 rfl 1 rfl ?_
  refine g_callVI (rest := [.int 0, .int a2]) C mv_X12_238 [.int a1] (s_X12_allOf I (by omega) hW) (ha0).1 (ha0).2 rfl rfl (by decide) (Nat.le_of_ble_eq_true rfl) (by decide) dX12_isPage_4 (fun r62107 Y62108 h62109 => ?_)
  obtain ⟨rfl, h62109⟩ := h62109
  obtain ⟨h62109, hi62110⟩ := h62109
  obtain ⟨b62111, e62112, h62113⟩ := I.fld (ha0) 10 13 2 rfl
  obtain ⟨b62114, e62115, h62116⟩ := I.fld (ha0) 15 13 3 rfl
  have hi62110 : (r62107.toInt = 0 ∧ (pI P b62111 (a1.toInt.toNat)).toInt = 0) ∨ r62107.toInt = (pI P b62111 (a1.toInt.toNat)).toInt + (pI P b62114 (a1.toInt.toNat)).toInt := hi62110 b62111 b62114 e62112 e62115
  have h62117 := I.arr e62112 rfl (a1.toInt.toNat)
  have h62118 := I.arr e62115 rfl (a1.toInt.toNat)
  have h62109 : 0 ≤ r62107.toInt ∧ r62107.toInt ≤ 20 := h62109
  refine g_iconst (v := 1) C dX12_isPage_7 (by decide) ?_
  refine s_isub C dX12_isPage_8 (by show -2147483648 ≤ r62107.toInt - 1 ∧ r62107.toInt - 1 ≤ 2147483647; omega) (fun z62119 h62120 => ?_)
  have h62120 : z62119.toInt = r62107.toInt - 1 := h62120
  refine g_callSI (b := 0) (ci := 0) (rest := []) C ms_X12_178 [.int a2, .int 0, .int z62119] (s_X12_within I.1) rfl rfl (by decide) (Nat.le_of_ble_eq_true rfl) (by decide) dX12_isPage_9 (fun r62121 Y62122 h62123 => ?_)
  obtain ⟨rfl, h62123⟩ := h62123
  obtain ⟨h62123, hi62124⟩ := h62123
  have hi62124 : r62121.toInt = 0 ∨ (0 ≤ a2.toInt ∧ a2.toInt ≤ z62119.toInt) := hi62124
  have h62123 : 0 ≤ r62121.toInt ∧ r62121.toInt ≤ 1 := h62123
  exact ret _ _ _ _ _ _ dX12_isPage_12 (nar_b (b01 (by omega))) (by decide) (by decide) ⟨rfl, (by omega), hi62124.imp id (fun h9 => by omega)⟩
theorem dX12_guard_22 : decode cX12_guard 22 = .ok (.ifCond .ne 5, 3) := by decide +kernel
theorem dX12_guard_25 : decode cX12_guard 25 = .ok (.iconst (-1), 1) := by decide +kernel
theorem dX12_guard_26 : decode cX12_guard 26 = .ok (.ireturn, 1) := by decide +kernel
theorem dX12_guard_27 : decode cX12_guard 27 = .ok (.aload_n 0, 1) := by decide +kernel
theorem dX12_guard_28 : decode cX12_guard 28 = .ok (.invokevirtual 336, 3) := by decide +kernel
theorem dX12_guard_31 : decode cX12_guard 31 = .ok (.aload_n 0, 1) := by decide +kernel
theorem dX12_guard_32 : decode cX12_guard 32 = .ok (.iload_n 1, 1) := by decide +kernel
theorem dX12_guard_33 : decode cX12_guard 33 = .ok (.iload_n 2, 1) := by decide +kernel
theorem dX12_guard_34 : decode cX12_guard 34 = .ok (.iload_n 3, 1) := by decide +kernel
theorem dX12_guard_35 : decode cX12_guard 35 = .ok (.aload_n 0, 1) := by decide +kernel
theorem dX12_guard_36 : decode cX12_guard 36 = .ok (.getfield 69, 3) := by decide +kernel
theorem dX12_guard_39 : decode cX12_guard 39 = .ok (.iload_n 1, 1) := by decide +kernel
theorem dX12_guard_40 : decode cX12_guard 40 = .ok (.iaload, 1) := by decide +kernel
theorem dX12_guard_41 : decode cX12_guard 41 = .ok (.invokevirtual 339, 3) := by decide +kernel
theorem dX12_guard_44 : decode cX12_guard 44 = .ok (.aload_n 0, 1) := by decide +kernel
theorem dX12_guard_45 : decode cX12_guard 45 = .ok (.invokevirtual 346, 3) := by decide +kernel
theorem dX12_guard_48 : decode cX12_guard 48 = .ok (.aload_n 0, 1) := by decide +kernel
theorem dX12_guard_49 : decode cX12_guard 49 = .ok (.iload 4, 2) := by decide +kernel
theorem dX12_guard_51 : decode cX12_guard 51 = .ok (.invokevirtual 330, 3) := by decide +kernel
theorem dX12_guard_54 : decode cX12_guard 54 = .ok (.ifCond .ne 5, 3) := by decide +kernel
theorem dX12_guard_57 : decode cX12_guard 57 = .ok (.iconst (-1), 1) := by decide +kernel
theorem dX12_guard_58 : decode cX12_guard 58 = .ok (.ireturn, 1) := by decide +kernel
theorem dX12_guard_59 : decode cX12_guard 59 = .ok (.iconst 4, 1) := by decide +kernel
theorem dX12_guard_60 : decode cX12_guard 60 = .ok (.istore 5, 2) := by decide +kernel
theorem dX12_guard_62 : decode cX12_guard 62 = .ok (.aload_n 0, 1) := by decide +kernel
theorem dX12_guard_63 : decode cX12_guard 63 = .ok (.getfield 60, 3) := by decide +kernel
theorem dX12_guard_66 : decode cX12_guard 66 = .ok (.iload_n 2, 1) := by decide +kernel
theorem dX12_guard_67 : decode cX12_guard 67 = .ok (.iaload, 1) := by decide +kernel
theorem dX12_guard_68 : decode cX12_guard 68 = .ok (.istore 6, 2) := by decide +kernel
theorem dX12_guard_70 : decode cX12_guard 70 = .ok (.iload 6, 2) := by decide +kernel
theorem dX12_guard_72 : decode cX12_guard 72 = .ok (.aload_n 0, 1) := by decide +kernel
theorem dX12_guard_73 : decode cX12_guard 73 = .ok (.getfield 305, 3) := by decide +kernel
theorem dX12_guard_76 : decode cX12_guard 76 = .ok (.if_icmp .ge 38, 3) := by decide +kernel
theorem dX12_guard_79 : decode cX12_guard 79 = .ok (.iload 5, 2) := by decide +kernel
theorem dX12_guard_81 : decode cX12_guard 81 = .ok (.iconst 1, 1) := by decide +kernel
theorem dX12_guard_82 : decode cX12_guard 82 = .ok (.if_icmp .le 32, 3) := by decide +kernel
theorem dX12_guard_85 : decode cX12_guard 85 = .ok (.aload_n 0, 1) := by decide +kernel
theorem dX12_guard_86 : decode cX12_guard 86 = .ok (.iload 4, 2) := by decide +kernel
theorem dX12_guard_88 : decode cX12_guard 88 = .ok (.iload 6, 2) := by decide +kernel
theorem dX12_guard_90 : decode cX12_guard 90 = .ok (.iload 6, 2) := by decide +kernel
theorem dX12_guard_92 : decode cX12_guard 92 = .ok (.iload 6, 2) := by decide +kernel
theorem dX12_guard_94 : decode cX12_guard 94 = .ok (.invokevirtual 367, 3) := by decide +kernel
theorem dX12_isFixedWithout_0 : decode cX12_isFixedWithout 0 = .ok (.aload_n 0, 1) := by decide +kernel
theorem dX12_isFixedWithout_1 : decode cX12_isFixedWithout 1 = .ok (.getfield 305, 3) := by decide +kernel
theorem dX12_isFixedWithout_4 : decode cX12_isFixedWithout 4 = .ok (.istore 5, 2) := by decide +kernel
theorem dX12_isFixedWithout_6 : decode cX12_isFixedWithout 6 = .ok (.iconst 0, 1) := by decide +kernel
theorem dX12_isFixedWithout_7 : decode cX12_isFixedWithout 7 = .ok (.istore 6, 2) := by decide +kernel
theorem dX12_isFixedWithout_9 : decode cX12_isFixedWithout 9 = .ok (.iconst 0, 1) := by decide +kernel
theorem dX12_isFixedWithout_10 : decode cX12_isFixedWithout 10 = .ok (.istore 7, 2) := by decide +kernel
theorem dX12_isFixedWithout_12 : decode cX12_isFixedWithout 12 = .ok (.iload 7, 2) := by decide +kernel
theorem dX12_isFixedWithout_14 : decode cX12_isFixedWithout 14 = .ok (.iload 5, 2) := by decide +kernel
theorem dX12_isFixedWithout_16 : decode cX12_isFixedWithout 16 = .ok (.if_icmp .ge 87, 3) := by decide +kernel
theorem dX12_isFixedWithout_19 : decode cX12_isFixedWithout 19 = .ok (.aload_n 0, 1) := by decide +kernel
theorem dX12_isFixedWithout_20 : decode cX12_isFixedWithout 20 = .ok (.getfield 115, 3) := by decide +kernel
theorem dX12_isFixedWithout_23 : decode cX12_isFixedWithout 23 = .ok (.iload 7, 2) := by decide +kernel
theorem dX12_isFixedWithout_25 : decode cX12_isFixedWithout 25 = .ok (.aload_n 0, 1) := by decide +kernel
theorem dX12_isFixedWithout_26 : decode cX12_isFixedWithout 26 = .ok (.getfield 91, 3) := by decide +kernel
theorem dX12_isFixedWithout_29 : decode cX12_isFixedWithout 29 = .ok (.iload 7, 2) := by decide +kernel
theorem dX12_isFixedWithout_31 : decode cX12_isFixedWithout 31 = .ok (.iaload, 1) := by decide +kernel
theorem dX12_isFixedWithout_32 : decode cX12_isFixedWithout 32 = .ok (.iastore, 1) := by decide +kernel
theorem dX12_isFixedWithout_33 : decode cX12_isFixedWithout 33 = .ok (.aload_n 0, 1) := by decide +kernel
theorem dX12_isFixedWithout_34 : decode cX12_isFixedWithout 34 = .ok (.getfield 118, 3) := by decide +kernel
theorem dX12_isFixedWithout_37 : decode cX12_isFixedWithout 37 = .ok (.iload 7, 2) := by decide +kernel
theorem dX12_isFixedWithout_39 : decode cX12_isFixedWithout 39 = .ok (.aload_n 0, 1) := by decide +kernel
theorem dX12_isFixedWithout_40 : decode cX12_isFixedWithout 40 = .ok (.getfield 94, 3) := by decide +kernel
theorem dX12_isFixedWithout_43 : decode cX12_isFixedWithout 43 = .ok (.iload 7, 2) := by decide +kernel
theorem dX12_isFixedWithout_45 : decode cX12_isFixedWithout 45 = .ok (.iaload, 1) := by decide +kernel
theorem dX12_isFixedWithout_46 : decode cX12_isFixedWithout 46 = .ok (.iastore, 1) := by decide +kernel
theorem dX12_isFixedWithout_47 : decode cX12_isFixedWithout 47 = .ok (.iload 7, 2) := by decide +kernel
theorem dX12_isFixedWithout_49 : decode cX12_isFixedWithout 49 = .ok (.iload_n 2, 1) := by decide +kernel
theorem dX12_isFixedWithout_50 : decode cX12_isFixedWithout 50 = .ok (.if_icmp .eq 47, 3) := by decide +kernel
theorem dX12_isFixedWithout_53 : decode cX12_isFixedWithout 53 = .ok (.iload 7, 2) := by decide +kernel
theorem dX12_isFixedWithout_55 : decode cX12_isFixedWithout 55 = .ok (.iload_n 3, 1) := by decide +kernel
theorem dX12_isFixedWithout_56 : decode cX12_isFixedWithout 56 = .ok (.if_icmp .eq 41, 3) := by decide +kernel
theorem dX12_isFixedWithout_59 : decode cX12_isFixedWithout 59 = .ok (.iload 7, 2) := by decide +kernel
theorem dX12_isFixedWithout_61 : decode cX12_isFixedWithout 61 = .ok (.iload 4, 2) := by decide +kernel
theorem dX12_isFixedWithout_63 : decode cX12_isFixedWithout 63 = .ok (.if_icmp .eq 34, 3) := by decide +kernel
theorem dX12_isFixedWithout_66 : decode cX12_isFixedWithout 66 = .ok (.aload_n 0, 1) := by decide +kernel
theorem dX12_isFixedWithout_67 : decode cX12_isFixedWithout 67 = .ok (.getfield 91, 3) := by decide +kernel
theorem dX12_isFixedWithout_70 : decode cX12_isFixedWithout 70 = .ok (.iload 6, 2) := by decide +kernel
theorem dX12_isFixedWithout_72 : decode cX12_isFixedWithout 72 = .ok (.aload_n 0, 1) := by decide +kernel
theorem dX12_isFixedWithout_73 : decode cX12_isFixedWithout 73 = .ok (.getfield 91, 3) := by decide +kernel
theorem dX12_isFixedWithout_76 : decode cX12_isFixedWithout 76 = .ok (.iload 7, 2) := by decide +kernel
theorem dX12_isFixedWithout_78 : decode cX12_isFixedWithout 78 = .ok (.iaload, 1) := by decide +kernel
theorem dX12_isFixedWithout_79 : decode cX12_isFixedWithout 79 = .ok (.iastore, 1) := by decide +kernel
theorem dX12_isFixedWithout_80 : decode cX12_isFixedWithout 80 = .ok (.aload_n 0, 1) := by decide +kernel
theorem dX12_isFixedWithout_81 : decode cX12_isFixedWithout 81 = .ok (.getfield 94, 3) := by decide +kernel
theorem dX12_isFixedWithout_84 : decode cX12_isFixedWithout 84 = .ok (.iload 6, 2) := by decide +kernel
theorem dX12_isFixedWithout_86 : decode cX12_isFixedWithout 86 = .ok (.aload_n 0, 1) := by decide +kernel
theorem dX12_isFixedWithout_87 : decode cX12_isFixedWithout 87 = .ok (.getfield 94, 3) := by decide +kernel
theorem dX12_isFixedWithout_90 : decode cX12_isFixedWithout 90 = .ok (.iload 7, 2) := by decide +kernel
theorem dX12_isFixedWithout_92 : decode cX12_isFixedWithout 92 = .ok (.iaload, 1) := by decide +kernel
theorem dX12_isFixedWithout_93 : decode cX12_isFixedWithout 93 = .ok (.iastore, 1) := by decide +kernel
theorem dX12_isFixedWithout_94 : decode cX12_isFixedWithout 94 = .ok (.iinc 6 1, 3) := by decide +kernel
theorem dX12_isFixedWithout_97 : decode cX12_isFixedWithout 97 = .ok (.iinc 7 1, 3) := by decide +kernel
theorem dX12_isFixedWithout_100 : decode cX12_isFixedWithout 100 = .ok (.goto (-88), 3) := by decide +kernel
theorem dX12_isFixedWithout_103 : decode cX12_isFixedWithout 103 = .ok (.aload_n 0, 1) := by decide +kernel
theorem dX12_isFixedWithout_104 : decode cX12_isFixedWithout 104 = .ok (.iload 6, 2) := by decide +kernel
theorem dX12_isFixedWithout_106 : decode cX12_isFixedWithout 106 = .ok (.putfield 305, 3) := by decide +kernel
theorem dX12_isFixedWithout_109 : decode cX12_isFixedWithout 109 = .ok (.aload_n 0, 1) := by decide +kernel
theorem dX12_isFixedWithout_110 : decode cX12_isFixedWithout 110 = .ok (.invokevirtual 346, 3) := by decide +kernel
theorem dX12_isFixedWithout_113 : decode cX12_isFixedWithout 113 = .ok (.aload_n 0, 1) := by decide +kernel
theorem dX12_isFixedWithout_114 : decode cX12_isFixedWithout 114 = .ok (.iload_n 1, 1) := by decide +kernel
theorem dX12_isFixedWithout_115 : decode cX12_isFixedWithout 115 = .ok (.invokevirtual 330, 3) := by decide +kernel
theorem dX12_isFixedWithout_118 : decode cX12_isFixedWithout 118 = .ok (.istore 7, 2) := by decide +kernel
theorem dX12_isFixedWithout_120 : decode cX12_isFixedWithout 120 = .ok (.aload_n 0, 1) := by decide +kernel
theorem dX12_isFixedWithout_121 : decode cX12_isFixedWithout 121 = .ok (.iload 5, 2) := by decide +kernel
theorem dX12_isFixedWithout_123 : decode cX12_isFixedWithout 123 = .ok (.putfield 305, 3) := by decide +kernel
theorem dX12_isFixedWithout_126 : decode cX12_isFixedWithout 126 = .ok (.iconst 0, 1) := by decide +kernel
theorem dX12_isFixedWithout_127 : decode cX12_isFixedWithout 127 = .ok (.istore 8, 2) := by decide +kernel
theorem dX12_isFixedWithout_129 : decode cX12_isFixedWithout 129 = .ok (.iload 8, 2) := by decide +kernel
theorem dX12_isFixedWithout_131 : decode cX12_isFixedWithout 131 = .ok (.iload 5, 2) := by decide +kernel
theorem dX12_isFixedWithout_133 : decode cX12_isFixedWithout 133 = .ok (.if_icmp .ge 37, 3) := by decide +kernel
theorem dX12_isFixedWithout_136 : decode cX12_isFixedWithout 136 = .ok (.aload_n 0, 1) := by decide +kernel
theorem dX12_isFixedWithout_137 : decode cX12_isFixedWithout 137 = .ok (.getfield 91, 3) := by decide +kernel
theorem dX12_isFixedWithout_140 : decode cX12_isFixedWithout 140 = .ok (.iload 8, 2) := by decide +kernel
theorem dX12_isFixedWithout_142 : decode cX12_isFixedWithout 142 = .ok (.aload_n 0, 1) := by decide +kernel
theorem dX12_isFixedWithout_143 : decode cX12_isFixedWithout 143 = .ok (.getfield 115, 3) := by decide +kernel
theorem dX12_isFixedWithout_146 : decode cX12_isFixedWithout 146 = .ok (.iload 8, 2) := by decide +kernel
theorem dX12_isFixedWithout_148 : decode cX12_isFixedWithout 148 = .ok (.iaload, 1) := by decide +kernel
theorem dX12_isFixedWithout_149 : decode cX12_isFixedWithout 149 = .ok (.iastore, 1) := by decide +kernel
theorem dX12_isFixedWithout_150 : decode cX12_isFixedWithout 150 = .ok (.aload_n 0, 1) := by decide +kernel
theorem dX12_isFixedWithout_151 : decode cX12_isFixedWithout 151 = .ok (.getfield 94, 3) := by decide +kernel
theorem dX12_isFixedWithout_154 : decode cX12_isFixedWithout 154 = .ok (.iload 8, 2) := by decide +kernel
theorem dX12_isFixedWithout_156 : decode cX12_isFixedWithout 156 = .ok (.aload_n 0, 1) := by decide +kernel
theorem dX12_isFixedWithout_157 : decode cX12_isFixedWithout 157 = .ok (.getfield 118, 3) := by decide +kernel
theorem dX12_isFixedWithout_160 : decode cX12_isFixedWithout 160 = .ok (.iload 8, 2) := by decide +kernel
theorem dX12_isFixedWithout_162 : decode cX12_isFixedWithout 162 = .ok (.iaload, 1) := by decide +kernel
theorem dX12_isFixedWithout_163 : decode cX12_isFixedWithout 163 = .ok (.iastore, 1) := by decide +kernel
theorem dX12_isFixedWithout_164 : decode cX12_isFixedWithout 164 = .ok (.iinc 8 1, 3) := by decide +kernel
theorem dX12_isFixedWithout_167 : decode cX12_isFixedWithout 167 = .ok (.goto (-38), 3) := by decide +kernel
theorem dX12_isFixedWithout_170 : decode cX12_isFixedWithout 170 = .ok (.iload 7, 2) := by decide +kernel
theorem dX12_isFixedWithout_172 : decode cX12_isFixedWithout 172 = .ok (.ireturn, 1) := by decide +kernel
set_option maxHeartbeats 4000000 in
set_option maxRecDepth 100000 in
theorem s_X12_isFixedWithout {P : PP} {a0 : Nat} {a1 : Int32} {a2 : Int32} {a3 : Int32} {a4 : Int32} (I : IM P a0) (ha1 : 0 ≤ a1.toInt ∧ a1.toInt ≤ 19) (hW : MW P a0) : CtrI yX12_isFixedWithout cX12_isFixedWithout 9 (some Jvm.ClassFile.FieldType.boolean) ({ frames := 2, cells := 0, slots := 0, locals := 128 } : Room) 0 0 P [.ref a0, .int a1, .int a2, .int a3, .int a4] (fun r P2 => IM P2 a0 ∧ EM [28, 29, 30, 35, 36, 37, 38, 41, 42] a0 P P2 ∧ MW P2 a0 ∧ (0 ≤ r.toInt ∧ r.toInt ≤ 1)) := by
  refine enI (lv := [(0, .ref a0), (1, .int a1), (2, .int a2), (3, .int a3), (4, .int a4)]) (by decide) (Nat.le_of_ble_eq_true rfl) rfl (fun E D cy C Ci0 ret => ?_)
  have ha0 := I.2.1
  have J129 : ∀ (n129 : Nat) (P129 : PP) (v129_5 : Int32) (v129_7 : Int32) (v129_8 : Int32), (64 - v129_8.toInt).toNat < n129 → (IM P129 a0) → (EM [28, 29, 30, 35, 36, 37, 38, 41, 42] a0 P P129) → (MW P129 a0) → (0 ≤ v129_5.toInt ∧ v129_5.toInt ≤ 64) → (0 ≤ v129_7.toInt ∧ v129_7.toInt ≤ 1) → (0 ≤ v129_8.toInt ∧ v129_8.toInt ≤ 64) → G E ({ frames := 2, cells := 0, slots := 0, locals := 128 } : Room) D cy 9 P129 0 0 129 [(0, .ref a0), (5, .int v129_5), (7, .int v129_7), (8, .int v129_8)] [] := by
    intro n129
    induction n129 with
    | zero => intro P129 v129_5 v129_7 v129_8 hm129 I129 X129 W129 hv129_5 hv129_7 hv129_8; omega
    | succ n129 ih129 =>
      intro P129 v129_5 v129_7 v129_8 hm129 I129 X129 W129 hv129_5 hv129_7 hv129_8
      have h66293 := X129.at ha0
      refine g_iload C dX12_isFixedWithout_129 3 rfl ?_
      refine g_iload C dX12_isFixedWithout_131 1 rfl ?_
      refine b_icmp_ge C 170 dX12_isFixedWithout_133 (by decide) (fun h66294 => ?_) (fun h66294 => ?_)
      · have h66294 : v129_5.toInt ≤ v129_8.toInt := h66294
        refine g_iload C dX12_isFixedWithout_170 2 rfl ?_
        exact ret _ _ _ _ _ _ dX12_isFixedWithout_172 (nar_b (b01 (by omega))) (by decide) (by decide) ⟨I129, X129, W129, (by omega)⟩
      · have h66294 : v129_8.toInt < v129_5.toInt := h66294
        refine g_aload_n C dX12_isFixedWithout_136 rfl 0 rfl ?_
        obtain ⟨b66295, e66296, h66297⟩ := I129.fld (h66293) 29 13 64 rfl
        refine g_getR C fi_X12_91 rfl e66296 (h66293).1 (h66293).2 dX12_isFixedWithout_137 ?_
        refine g_iload C dX12_isFixedWithout_140 3 rfl ?_
        refine g_aload_n C dX12_isFixedWithout_142 rfl 0 rfl ?_
        obtain ⟨b66298, e66299, h66300⟩ := I129.fld (h66293) 41 13 64 rfl
        refine g_getR C fi_X12_115 rfl e66299 (h66293).1 (h66293).2 dX12_isFixedWithout_143 ?_
        refine g_iload C dX12_isFixedWithout_146 3 rfl ?_
        refine g_iald (j := (v129_8.toInt.toNat)) C h66300.1 h66300.2.1 (ix_in h66300.2.2 (by omega)) dX12_isFixedWithout_148 ?_
        refine g_iast (j := (v129_8.toInt.toNat)) C h66297.1 h66297.2.1 (ix_in h66297.2.2 (by omega)) dX12_isFixedWithout_149 ?_
        refine gqW (ks := [29]) (I129.setA e66296 h66297 (by decide) (arOk.none rfl)) (EM.setA I129 e66296 rfl (by decide)) (fun Y66301 Iy66302 Xy66303 w66304 => ?_)
        have w66304 : (pI Y66301 b66295 (v129_8.toInt.toNat)).toInt = (pI P129 b66298 (v129_8.toInt.toNat)).toInt := w66304
        have W66305 := W129.keep I129 Xy66303 (by decide) (by decide) (by decide)
        have Xz66306 : EM [28, 29, 30, 35, 36, 37, 38, 41, 42] a0 P Y66301 := EM.tr ha0 X129 (Xy66303.mono (by decide))
        have e66307 := Xy66303.ref h66293 (by decide) e66296
        have h66308 := Xy66303.at h66293
        have h66309 := Xy66303.ar h66297
        refine g_aload_n C dX12_isFixedWithout_150 rfl 0 rfl ?_
        obtain ⟨b66310, e66311, h66312⟩ := Iy66302.fld (h66308) 30 13 64 rfl
        refine g_getR C fi_X12_94 rfl e66311 (h66308).1 (h66308).2 dX12_isFixedWithout_151 ?_
        refine g_iload C dX12_isFixedWithout_154 3 rfl ?_
        refine g_aload_n C dX12_isFixedWithout_156 rfl 0 rfl ?_
        obtain ⟨b66313, e66314, h66315⟩ := Iy66302.fld (h66308) 42 13 64 rfl
        refine g_getR C fi_X12_118 rfl e66314 (h66308).1 (h66308).2 dX12_isFixedWithout_157 ?_
        refine g_iload C dX12_isFixedWithout_160 3 rfl ?_
        refine g_iald (j := (v129_8.toInt.toNat)) C h66315.1 h66315.2.1 (ix_in h66315.2.2 (by omega)) dX12_isFixedWithout_162 ?_
        refine g_iast (j := (v129_8.toInt.toNat)) C h66312.1 h66312.2.1 (ix_in h66312.2.2 (by omega)) dX12_isFixedWithout_163 ?_
        refine gqW (ks := [30]) (Iy66302.setA e66311 h66312 (by decide) (arOk.none rfl)) (EM.setA Iy66302 e66311 rfl (by decide)) (fun Y66316 Iy66317 Xy66318 w66319 => ?_)
        have w66319 : (pI Y66316 b66310 (v129_8.toInt.toNat)).toInt = (pI Y66301 b66313 (v129_8.toInt.toNat)).toInt := w66319
        have q66320 := Xy66318.keepA e66307 (by decide) rfl (v129_8.toInt.toNat)
        have W66321 := W66305.keep Iy66302 Xy66318 (by decide) (by decide) (by decide)
        have Xz66322 : EM [28, 29, 30, 35, 36, 37, 38, 41, 42] a0 P Y66316 := EM.tr ha0 Xz66306 (Xy66318.mono (by decide))
        have e66323 := Xy66318.ref h66308 (by decide) e66307
        have e66324 := Xy66318.ref h66308 (by decide) e66311
        have h66325 := Xy66318.at h66308
        have h66326 := Xy66318.ar h66309
        have h66327 := Xy66318.ar h66312
        refine s_iinc (lv0 := [(0, .ref a0), (5, .int v129_5), (7, .int v129_7)]) (m := 1) C dX12_isFixedWithout_164 3 rfl (by decide) rfl (by decide) (by omega) (fun z66328 h66329 => ?_)
        have h66329 : z66328.toInt = v129_8.toInt + 1 := h66329
        refine g_goto C 129 dX12_isFixedWithout_167 (by decide) ?_
        refine g_lv (lv' := [(0, .ref a0), (5, .int v129_5), (7, .int v129_7), (8, .int z66328)]) [1, 2, 3, 0] rfl ?_
        exact ih129 Y66316 v129_5 v129_7 z66328 (by omega) Iy66317 Xz66322 W66321 (by omega) (by omega) (by omega)
  have J12 : ∀ (n12 : Nat) (P12 : PP) (v12_5 : Int32) (v12_6 : Int32) (v12_7 : Int32), (64 - v12_7.toInt).toNat < n12 → (IM P12 a0) → (EM [28, 29, 30, 35, 36, 37, 38, 41, 42] a0 P P12) → (MW P12 a0) → (0 ≤ v12_5.toInt ∧ v12_5.toInt ≤ 64) → (0 ≤ v12_6.toInt ∧ v12_6.toInt ≤ 64) → (0 ≤ v12_7.toInt ∧ v12_7.toInt ≤ 64) → (v12_6.toInt ≤ v12_7.toInt) → G E ({ frames := 2, cells := 0, slots := 0, locals := 128 } : Room) D cy 9 P12 0 0 12 [(0, .ref a0), (1, .int a1), (2, .int a2), (3, .int a3), (4, .int a4), (5, .int v12_5), (6, .int v12_6), (7, .int v12_7)] [] := by
    intro n12
    induction n12 with
    | zero => intro P12 v12_5 v12_6 v12_7 hm12 I12 X12 W12 hv12_5 hv12_6 hv12_7 rel12_0; omega
    | succ n12 ih12 =>
      intro P12 v12_5 v12_6 v12_7 hm12 I12 X12 W12 hv12_5 hv12_6 hv12_7 rel12_0
      have h66330 := X12.at ha0
      have J97 : ∀ (P97 : PP) (v97_6 : Int32), (IM P97 a0) → (EM [28, 29, 30, 35, 36, 37, 38, 41, 42] a0 P P97) → (MW P97 a0) → (1 ≤ v12_5.toInt ∧ v12_5.toInt ≤ 64) → (0 ≤ v97_6.toInt ∧ v97_6.toInt ≤ 64) → (0 ≤ v12_7.toInt ∧ v12_7.toInt ≤ 63) → (v97_6.toInt ≤ v12_7.toInt + 1) → G E ({ frames := 2, cells := 0, slots := 0, locals := 128 } : Room) D cy 9 P97 0 0 97 [(0, .ref a0), (1, .int a1), (2, .int a2), (3, .int a3), (4, .int a4), (5, .int v12_5), (6, .int v97_6), (7, .int v12_7)] [] := by
        intro P97 v97_6 I97 X97 W97 hv97_5 hv97_6 hv97_7 rel97_0
        have h66331 := X97.at ha0
        refine s_iinc (lv0 := [(0, .ref a0), (1, .int a1), (2, .int a2), (3, .int a3), (4, .int a4), (5, .int v12_5), (6, .int v97_6)]) (m := 1) C dX12_isFixedWithout_97 7 rfl (by decide) rfl (by decide) (by omega) (fun z66332 h66333 => ?_)
        have h66333 : z66332.toInt = v12_7.toInt + 1 := h66333
        refine g_goto C 12 dX12_isFixedWithout_100 (by decide) ?_
        refine g_lv (lv' := [(0, .ref a0), (1, .int a1), (2, .int a2), (3, .int a3), (4, .int a4), (5, .int v12_5), (6, .int v97_6), (7, .int z66332)]) [1, 2, 3, 4, 5, 6, 7, 0] rfl ?_
        exact ih12 P97 v12_5 v97_6 z66332 (by omega) I97 X97 W97 (by omega) (by omega) (by omega) (by show v97_6.toInt ≤ z66332.toInt; omega)
      refine g_iload C dX12_isFixedWithout_12 7 rfl ?_
      refine g_iload C dX12_isFixedWithout_14 5 rfl ?_
      refine b_icmp_ge C 103 dX12_isFixedWithout_16 (by decide) (fun h66334 => ?_) (fun h66334 => ?_)
      · have h66334 : v12_5.toInt ≤ v12_7.toInt := h66334
        refine g_aload_n C dX12_isFixedWithout_103 rfl 0 rfl ?_
        refine g_iload C dX12_isFixedWithout_104 6 rfl ?_
        refine g_putI C fi_X12_305 rfl (h66330).1 (h66330).2 dX12_isFixedWithout_106 ?_
        refine gqW (ks := [28]) (I12.setI (rgOk.of rfl (by omega))) (EM.setI I12 (by decide)) (fun Y66335 Iy66336 Xy66337 w66338 => ?_)
        have w66338 : (pI Y66335 a0 28).toInt = v12_6.toInt := w66338
        have W66339 := W12.keep I12 Xy66337 (by decide) (by decide) (by decide)
        have Xz66340 : EM [28, 29, 30, 35, 36, 37, 38, 41, 42] a0 P Y66335 := EM.tr ha0 X12 (Xy66337.mono (by decide))
        have h66341 := Xy66337.at h66330
        refine g_aload_n C dX12_isFixedWithout_109 rfl 0 rfl ?_
        refine g_callVV (rest := []) C mv_X12_346 [] (s_X12_findSolved Iy66336 W66339) (h66341).1 (h66341).2 rfl rfl (by decide) (Nat.le_of_ble_eq_true rfl) (by decide) dX12_isFixedWithout_110 (fun Y66343 h66344 => ?_)
        obtain ⟨Iy66345, Xy66346, W66347⟩ := h66344
        have q66348 := Xy66346.keepF 28 (by decide)
        have Xz66349 : EM [28, 29, 30, 35, 36, 37, 38, 41, 42] a0 P Y66343 := EM.tr ha0 Xz66340 (Xy66346.mono (by decide))
        have h66350 := Xy66346.at h66341
        refine g_aload_n C dX12_isFixedWithout_113 rfl 0 rfl ?_
        refine g_iload_n C dX12_isFixedWithout_114 rfl 1 rfl ?_
        refine g_callVI (rest := []) C mv_X12_330 [.int a1] (s_X12_isFixed Iy66345 (by omega) W66347) (h66350).1 (h66350).2 rfl rfl (by decide) (Nat.le_of_ble_eq_true rfl) (by decide) dX12_isFixedWithout_115 (fun r66351 Y66352 h66353 => ?_)
        obtain ⟨rfl, h66353⟩ := h66353
        have h66353 : 0 ≤ r66351.toInt ∧ r66351.toInt ≤ 1 := h66353
        refine g_istore (lv' := [(7, .int r66351), (0, .ref a0), (1, .int a1), (2, .int a2), (3, .int a3), (4, .int a4), (5, .int v12_5), (6, .int v12_6)]) C dX12_isFixedWithout_118 (by decide) rfl ?_
        refine g_aload_n C dX12_isFixedWithout_120 rfl 1 rfl ?_
        refine g_iload C dX12_isFixedWithout_121 6 rfl ?_
        refine g_putI C fi_X12_305 rfl (h66350).1 (h66350).2 dX12_isFixedWithout_123 ?_
        refine gqW (ks := [28]) (Iy66345.setI (rgOk.of rfl (by omega))) (EM.setI Iy66345 (by decide)) (fun Y66354 Iy66355 Xy66356 w66357 => ?_)
        have w66357 : (pI Y66354 a0 28).toInt = v12_5.toInt := w66357
        have W66358 := W66347.keep Iy66345 Xy66356 (by decide) (by decide) (by decide)
        have Xz66359 : EM [28, 29, 30, 35, 36, 37, 38, 41, 42] a0 P Y66354 := EM.tr ha0 Xz66349 (Xy66356.mono (by decide))
        have h66360 := Xy66356.at h66350
        refine g_iconst (v := 0) C dX12_isFixedWithout_126 (by decide) ?_
        refine g_istore (lv' := [(8, .int 0), (7, .int r66351), (0, .ref a0), (1, .int a1), (2, .int a2), (3, .int a3), (4, .int a4), (5, .int v12_5), (6, .int v12_6)]) C dX12_isFixedWithout_127 (by decide) rfl ?_
        refine g_lv (lv' := [(0, .ref a0), (5, .int v12_5), (7, .int r66351), (8, .int 0)]) [2, 7, 1, 0] rfl ?_
        exact J129 _ Y66354 v12_5 r66351 0 (Nat.lt_succ_self _) Iy66355 Xz66359 W66358 (by omega) (by omega) (by decide)
      · have h66334 : v12_7.toInt < v12_5.toInt := h66334
        refine g_aload_n C dX12_isFixedWithout_19 rfl 0 rfl ?_
        obtain ⟨b66361, e66362, h66363⟩ := I12.fld (h66330) 41 13 64 rfl
        refine g_getR C fi_X12_115 rfl e66362 (h66330).1 (h66330).2 dX12_isFixedWithout_20 ?_
        refine g_iload C dX12_isFixedWithout_23 7 rfl ?_
        refine g_aload_n C dX12_isFixedWithout_25 rfl 0 rfl ?_
        obtain ⟨b66364, e66365, h66366⟩ := I12.fld (h66330) 29 13 64 rfl
        refine g_getR C fi_X12_91 rfl e66365 (h66330).1 (h66330).2 dX12_isFixedWithout_26 ?_
        refine g_iload C dX12_isFixedWithout_29 7 rfl ?_
        refine g_iald (j := (v12_7.toInt.toNat)) C h66366.1 h66366.2.1 (ix_in h66366.2.2 (by omega)) dX12_isFixedWithout_31 ?_
        refine g_iast (j := (v12_7.toInt.toNat)) C h66363.1 h66363.2.1 (ix_in h66363.2.2 (by omega)) dX12_isFixedWithout_32 ?_
        refine gqW (ks := [41]) (I12.setA e66362 h66363 (by decide) (arOk.none rfl)) (EM.setA I12 e66362 rfl (by decide)) (fun Y66367 Iy66368 Xy66369 w66370 => ?_)
        have w66370 : (pI Y66367 b66361 (v12_7.toInt.toNat)).toInt = (pI P12 b66364 (v12_7.toInt.toNat)).toInt := w66370
        have W66371 := W12.keep I12 Xy66369 (by decide) (by decide) (by decide)
        have Xz66372 : EM [28, 29, 30, 35, 36, 37, 38, 41, 42] a0 P Y66367 := EM.tr ha0 X12 (Xy66369.mono (by decide))
        have e66373 := Xy66369.ref h66330 (by decide) e66362
        have h66374 := Xy66369.at h66330
        have h66375 := Xy66369.ar h66363
        refine g_aload_n C dX12_isFixedWithout_33 rfl 0 rfl ?_
        obtain ⟨b66376, e66377, h66378⟩ := Iy66368.fld (h66374) 42 13 64 rfl
        refine g_getR C fi_X12_118 rfl e66377 (h66374).1 (h66374).2 dX12_isFixedWithout_34 ?_
        refine g_iload C dX12_isFixedWithout_37 7 rfl ?_
        refine g_aload_n C dX12_isFixedWithout_39 rfl 0 rfl ?_
        obtain ⟨b66379, e66380, h66381⟩ := Iy66368.fld (h66374) 30 13 64 rfl
        refine g_getR C fi_X12_94 rfl e66380 (h66374).1 (h66374).2 dX12_isFixedWithout_40 ?_
        refine g_iload C dX12_isFixedWithout_43 7 rfl ?_
        refine g_iald (j := (v12_7.toInt.toNat)) C h66381.1 h66381.2.1 (ix_in h66381.2.2 (by omega)) dX12_isFixedWithout_45 ?_
        refine g_iast (j := (v12_7.toInt.toNat)) C h66378.1 h66378.2.1 (ix_in h66378.2.2 (by omega)) dX12_isFixedWithout_46 ?_
        refine gqW (ks := [42]) (Iy66368.setA e66377 h66378 (by decide) (arOk.none rfl)) (EM.setA Iy66368 e66377 rfl (by decide)) (fun Y66382 Iy66383 Xy66384 w66385 => ?_)
        have w66385 : (pI Y66382 b66376 (v12_7.toInt.toNat)).toInt = (pI Y66367 b66379 (v12_7.toInt.toNat)).toInt := w66385
        have q66386 := Xy66384.keepA e66373 (by decide) rfl (v12_7.toInt.toNat)
        have W66387 := W66371.keep Iy66368 Xy66384 (by decide) (by decide) (by decide)
        have Xz66388 : EM [28, 29, 30, 35, 36, 37, 38, 41, 42] a0 P Y66382 := EM.tr ha0 Xz66372 (Xy66384.mono (by decide))
        have e66389 := Xy66384.ref h66374 (by decide) e66373
        have e66390 := Xy66384.ref h66374 (by decide) e66377
        have h66391 := Xy66384.at h66374
        have h66392 := Xy66384.ar h66375
        have h66393 := Xy66384.ar h66378
        refine g_iload C dX12_isFixedWithout_47 7 rfl ?_
        refine g_iload_n C dX12_isFixedWithout_49 rfl 2 rfl ?_
        have u66395 := ti_rng a2
        refine b_icmp_eq C 97 dX12_isFixedWithout_50 (by decide) (fun h66394 => ?_) (fun h66394 => ?_)
        · have h66394 : v12_7.toInt = a2.toInt := congrArg Int32.toInt h66394
          exact J97 Y66382 v12_6 Iy66383 Xz66388 W66387 (by omega) (by omega) (by omega) (by show v12_6.toInt ≤ v12_7.toInt + 1; omega)
        · have h66394 : v12_7.toInt ≠ a2.toInt := ti_ne h66394
          refine g_iload C dX12_isFixedWithout_53 7 rfl ?_
          refine g_iload_n C dX12_isFixedWithout_55 rfl 3 rfl ?_
          have u66397 := ti_rng a3
          refine b_icmp_eq C 97 dX12_isFixedWithout_56 (by decide) (fun h66396 => ?_) (fun h66396 => ?_)
          · have h66396 : v12_7.toInt = a3.toInt := congrArg Int32.toInt h66396
            exact J97 Y66382 v12_6 Iy66383 Xz66388 W66387 (by omega) (by omega) (by omega) (by show v12_6.toInt ≤ v12_7.toInt + 1; omega)
          · have h66396 : v12_7.toInt ≠ a3.toInt := ti_ne h66396
            refine g_iload C dX12_isFixedWithout_59 7 rfl ?_
            refine g_iload C dX12_isFixedWithout_61 4 rfl ?_
            have u66399 := ti_rng a4
            refine b_icmp_eq C 97 dX12_isFixedWithout_63 (by decide) (fun h66398 => ?_) (fun h66398 => ?_)
            · have h66398 : v12_7.toInt = a4.toInt := congrArg Int32.toInt h66398
              exact J97 Y66382 v12_6 Iy66383 Xz66388 W66387 (by omega) (by omega) (by omega) (by show v12_6.toInt ≤ v12_7.toInt + 1; omega)
            · have h66398 : v12_7.toInt ≠ a4.toInt := ti_ne h66398
              refine g_aload_n C dX12_isFixedWithout_66 rfl 0 rfl ?_
              obtain ⟨b66400, e66401, h66402⟩ := Iy66383.fld (h66391) 29 13 64 rfl
              refine g_getR C fi_X12_91 rfl e66401 (h66391).1 (h66391).2 dX12_isFixedWithout_67 ?_
              refine g_iload C dX12_isFixedWithout_70 6 rfl ?_
              refine g_aload_n C dX12_isFixedWithout_72 rfl 0 rfl ?_
              refine g_getR C fi_X12_91 rfl e66401 (h66391).1 (h66391).2 dX12_isFixedWithout_73 ?_
              refine g_iload C dX12_isFixedWithout_76 7 rfl ?_
              refine g_iald (j := (v12_7.toInt.toNat)) C h66402.1 h66402.2.1 (ix_in h66402.2.2 (by omega)) dX12_isFixedWithout_78 ?_
              refine g_iast (j := (v12_6.toInt.toNat)) C h66402.1 h66402.2.1 (ix_in h66402.2.2 (by omega)) dX12_isFixedWithout_79 ?_
              refine gqW (ks := [29]) (Iy66383.setA e66401 h66402 (by decide) (arOk.none rfl)) (EM.setA Iy66383 e66401 rfl (by decide)) (fun Y66403 Iy66404 Xy66405 w66406 => ?_)
              have w66406 : (pI Y66403 b66400 (v12_6.toInt.toNat)).toInt = (pI Y66382 b66400 (v12_7.toInt.toNat)).toInt := w66406
              have q66407 := Xy66405.keepA e66389 (by decide) rfl (v12_7.toInt.toNat)
              have q66408 := Xy66405.keepA e66390 (by decide) rfl (v12_7.toInt.toNat)
              have W66409 := W66387.keep Iy66383 Xy66405 (by decide) (by decide) (by decide)
              have Xz66410 : EM [28, 29, 30, 35, 36, 37, 38, 41, 42] a0 P Y66403 := EM.tr ha0 Xz66388 (Xy66405.mono (by decide))
              have e66411 := Xy66405.ref h66391 (by decide) e66389
              have e66412 := Xy66405.ref h66391 (by decide) e66390
              have e66413 := Xy66405.ref h66391 (by decide) e66401
              have h66414 := Xy66405.at h66391
              have h66415 := Xy66405.ar h66392
              have h66416 := Xy66405.ar h66393
              have h66417 := Xy66405.ar h66402
              refine g_aload_n C dX12_isFixedWithout_80 rfl 0 rfl ?_
              obtain ⟨b66418, e66419, h66420⟩ := Iy66404.fld (h66414) 30 13 64 rfl
              refine g_getR C fi_X12_94 rfl e66419 (h66414).1 (h66414).2 dX12_isFixedWithout_81 ?_
              refine g_iload C dX12_isFixedWithout_84 6 rfl ?_
              refine g_aload_n C dX12_isFixedWithout_86 rfl 0 rfl ?_
              refine g_getR C fi_X12_94 rfl e66419 (h66414).1 (h66414).2 dX12_isFixedWithout_87 ?_
              refine g_iload C dX12_isFixedWithout_90 7 rfl ?_
              refine g_iald (j := (v12_7.toInt.toNat)) C h66420.1 h66420.2.1 (ix_in h66420.2.2 (by omega)) dX12_isFixedWithout_92 ?_
              refine g_iast (j := (v12_6.toInt.toNat)) C h66420.1 h66420.2.1 (ix_in h66420.2.2 (by omega)) dX12_isFixedWithout_93 ?_
              refine gqW (ks := [30]) (Iy66404.setA e66419 h66420 (by decide) (arOk.none rfl)) (EM.setA Iy66404 e66419 rfl (by decide)) (fun Y66421 Iy66422 Xy66423 w66424 => ?_)
              have w66424 : (pI Y66421 b66418 (v12_6.toInt.toNat)).toInt = (pI Y66403 b66418 (v12_7.toInt.toNat)).toInt := w66424
              have q66425 := Xy66423.keepA e66411 (by decide) rfl (v12_7.toInt.toNat)
              have q66426 := Xy66423.keepA e66412 (by decide) rfl (v12_7.toInt.toNat)
              have q66427 := Xy66423.keepA e66413 (by decide) rfl (v12_6.toInt.toNat)
              have W66428 := W66409.keep Iy66404 Xy66423 (by decide) (by decide) (by decide)
              have Xz66429 : EM [28, 29, 30, 35, 36, 37, 38, 41, 42] a0 P Y66421 := EM.tr ha0 Xz66410 (Xy66423.mono (by decide))
              have e66430 := Xy66423.ref h66414 (by decide) e66411
              have e66431 := Xy66423.ref h66414 (by decide) e66412
              have e66432 := Xy66423.ref h66414 (by decide) e66413
              have e66433 := Xy66423.ref h66414 (by decide) e66419
              have h66434 := Xy66423.at h66414
              have h66435 := Xy66423.ar h66415
              have h66436 := Xy66423.ar h66416
              have h66437 := Xy66423.ar h66417
              have h66438 := Xy66423.ar h66420
              refine s_iinc (lv0 := [(0, .ref a0), (1, .int a1), (2, .int a2), (3, .int a3), (4, .int a4), (5, .int v12_5), (7, .int v12_7)]) (m := 1) C dX12_isFixedWithout_94 6 rfl (by decide) rfl (by decide) (by omega) (fun z66439 h66440 => ?_)
              have h66440 : z66439.toInt = v12_6.toInt + 1 := h66440
              refine g_lv (lv' := [(0, .ref a0), (1, .int a1), (2, .int a2), (3, .int a3), (4, .int a4), (5, .int v12_5), (6, .int z66439), (7, .int v12_7)]) [1, 2, 3, 4, 5, 6, 0, 7] rfl ?_
              exact J97 Y66421 z66439 Iy66422 Xz66429 W66428 (by omega) (by omega) (by omega) (by show z66439.toInt ≤ v12_7.toInt + 1; omega)
  refine g_aload_n C dX12_isFixedWithout_0 rfl 0 rfl ?_
  refine g_getI C fi_X12_305 (by decide) (ha0).1 (ha0).2 dX12_isFixedWithout_1 ?_
  have h66441 := I.rg (ha0) 28 rfl
  refine g_topi (fun z66442 h66443 => ?_)
  have h66443 : z66442.toInt = (pI P a0 28).toInt := congrArg Int32.toInt h66443
  refine g_istore (lv' := [(5, .int z66442), (0, .ref a0), (1, .int a1), (2, .int a2), (3, .int a3), (4, .int a4)]) C dX12_isFixedWithout_4 (by decide) rfl ?_
  refine g_iconst (v := 0) C dX12_isFixedWithout_6 (by decide) ?_
  refine g_istore (lv' := [(6, .int 0), (5, .int z66442), (0, .ref a0), (1, .int a1), (2, .int a2), (3, .int a3), (4, .int a4)]) C dX12_isFixedWithout_7 (by decide) rfl ?_
  refine g_iconst (v := 0) C dX12_isFixedWithout_9 (by decide) ?_
  refine g_istore (lv' := [(7, .int 0), (6, .int 0), (5, .int z66442), (0, .ref a0), (1, .int a1), (2, .int a2), (3, .int a3), (4, .int a4)]) C dX12_isFixedWithout_10 (by decide) rfl ?_
  refine g_lv (lv' := [(0, .ref a0), (1, .int a1), (2, .int a2), (3, .int a3), (4, .int a4), (5, .int z66442), (6, .int 0), (7, .int 0)]) [3, 4, 5, 6, 7, 2, 1, 0] rfl ?_
  exact J12 _ P z66442 0 0 (Nat.lt_succ_self _) I EM.rf hW (by omega) (by decide) (by decide) (by show 0 ≤ 0; omega)
