theorem dX12_cutAll_44 : decode cX12_cutAll 44 = .ok (.iinc 2 1, 3) := by decide +kernel
theorem dX12_cutAll_47 : decode cX12_cutAll 47 = .ok (.goto (-30), 3) := by decide +kernel
theorem dX12_cutAll_70 : decode cX12_cutAll 70 = .ok (.iload_n 2, 1) := by decide +kernel
theorem dX12_cutAll_71 : decode cX12_cutAll 71 = .ok (.aload_n 0, 1) := by decide +kernel
theorem dX12_cutAll_72 : decode cX12_cutAll 72 = .ok (.getfield 140, 3) := by decide +kernel
theorem dX12_cutAll_75 : decode cX12_cutAll 75 = .ok (.if_icmp .ge 54, 3) := by decide +kernel
theorem dX12_cutAll_78 : decode cX12_cutAll 78 = .ok (.aload_n 0, 1) := by decide +kernel
theorem dX12_cutAll_79 : decode cX12_cutAll 79 = .ok (.getfield 14, 3) := by decide +kernel
theorem dX12_cutAll_82 : decode cX12_cutAll 82 = .ok (.iload_n 2, 1) := by decide +kernel
theorem dX12_cutAll_83 : decode cX12_cutAll 83 = .ok (.iaload, 1) := by decide +kernel
theorem dX12_cutAll_84 : decode cX12_cutAll 84 = .ok (.invokestatic 136, 3) := by decide +kernel
theorem dX12_cutAll_87 : decode cX12_cutAll 87 = .ok (.ifCond .eq 42, 3) := by decide +kernel
theorem dX12_cutAll_90 : decode cX12_cutAll 90 = .ok (.iload_n 2, 1) := by decide +kernel
theorem dX12_cutAll_91 : decode cX12_cutAll 91 = .ok (.iload 4, 2) := by decide +kernel
theorem dX12_cutAll_93 : decode cX12_cutAll 93 = .ok (.isub, 1) := by decide +kernel
theorem dX12_cutAll_94 : decode cX12_cutAll 94 = .ok (.bipush 8, 2) := by decide +kernel
theorem dX12_cutAll_96 : decode cX12_cutAll 96 = .ok (.if_icmp .ge 23, 3) := by decide +kernel
theorem dX12_cutAll_99 : decode cX12_cutAll 99 = .ok (.ldc2_w 143, 3) := by decide +kernel
theorem dX12_cutAll_102 : decode cX12_cutAll 102 = .ok (.lload 5, 2) := by decide +kernel
theorem dX12_cutAll_104 : decode cX12_cutAll 104 = .ok (.lmul, 1) := by decide +kernel
theorem dX12_cutAll_105 : decode cX12_cutAll 105 = .ok (.aload_n 0, 1) := by decide +kernel
theorem dX12_cutAll_106 : decode cX12_cutAll 106 = .ok (.getfield 14, 3) := by decide +kernel
theorem dX12_cutAll_109 : decode cX12_cutAll 109 = .ok (.iload_n 2, 1) := by decide +kernel
theorem dX12_cutAll_110 : decode cX12_cutAll 110 = .ok (.iaload, 1) := by decide +kernel
theorem dX12_cutAll_111 : decode cX12_cutAll 111 = .ok (.invokestatic 145, 3) := by decide +kernel
theorem dX12_cutAll_159 : decode cX12_cutAll 159 = .ok (.iload_n 2, 1) := by decide +kernel
theorem dX12_cutAll_160 : decode cX12_cutAll 160 = .ok (.aload_n 0, 1) := by decide +kernel
theorem dX12_cutAll_161 : decode cX12_cutAll 161 = .ok (.getfield 140, 3) := by decide +kernel
theorem dX12_cutAll_164 : decode cX12_cutAll 164 = .ok (.if_icmp .ge 54, 3) := by decide +kernel
theorem dX12_cutAll_167 : decode cX12_cutAll 167 = .ok (.aload_n 0, 1) := by decide +kernel
theorem dX12_cutAll_168 : decode cX12_cutAll 168 = .ok (.getfield 14, 3) := by decide +kernel
theorem dX12_cutAll_171 : decode cX12_cutAll 171 = .ok (.iload_n 2, 1) := by decide +kernel
theorem dX12_cutAll_172 : decode cX12_cutAll 172 = .ok (.iaload, 1) := by decide +kernel
theorem dX12_cutAll_173 : decode cX12_cutAll 173 = .ok (.invokestatic 149, 3) := by decide +kernel
theorem dX12_cutAll_176 : decode cX12_cutAll 176 = .ok (.ifCond .eq 42, 3) := by decide +kernel
theorem dX12_cutAll_179 : decode cX12_cutAll 179 = .ok (.iload_n 2, 1) := by decide +kernel
theorem dX12_cutAll_180 : decode cX12_cutAll 180 = .ok (.iload 4, 2) := by decide +kernel
theorem dX12_cutAll_182 : decode cX12_cutAll 182 = .ok (.isub, 1) := by decide +kernel
theorem dX12_cutAll_183 : decode cX12_cutAll 183 = .ok (.iconst 4, 1) := by decide +kernel
theorem dX12_cutAll_184 : decode cX12_cutAll 184 = .ok (.if_icmp .ge 24, 3) := by decide +kernel
theorem dX12_cutAll_187 : decode cX12_cutAll 187 = .ok (.ldc2_w 152, 3) := by decide +kernel
theorem dX12_cutAll_190 : decode cX12_cutAll 190 = .ok (.lload 5, 2) := by decide +kernel
theorem dX12_cutAll_192 : decode cX12_cutAll 192 = .ok (.lmul, 1) := by decide +kernel
theorem dX12_cutAll_193 : decode cX12_cutAll 193 = .ok (.aload_n 0, 1) := by decide +kernel
theorem dX12_cutAll_194 : decode cX12_cutAll 194 = .ok (.getfield 14, 3) := by decide +kernel
theorem dX12_cutAll_197 : decode cX12_cutAll 197 = .ok (.iload_n 2, 1) := by decide +kernel
theorem dX12_cutAll_198 : decode cX12_cutAll 198 = .ok (.iaload, 1) := by decide +kernel
theorem dX12_cutAll_199 : decode cX12_cutAll 199 = .ok (.i2l, 1) := by decide +kernel
theorem dX12_cutAll_200 : decode cX12_cutAll 200 = .ok (.ladd, 1) := by decide +kernel
theorem dX12_cutAll_201 : decode cX12_cutAll 201 = .ok (.ldc2_w 154, 3) := by decide +kernel
theorem dX12_cutAll_204 : decode cX12_cutAll 204 = .ok (.lsub, 1) := by decide +kernel
theorem dX12_cutAll_205 : decode cX12_cutAll 205 = .ok (.goto 5, 3) := by decide +kernel
theorem dX12_cutAll_253 : decode cX12_cutAll 253 = .ok (.ifCond .eq 7, 3) := by decide +kernel
theorem dX12_cutAll_256 : decode cX12_cutAll 256 = .ok (.iconst 3, 1) := by decide +kernel
theorem dX12_cutAll_257 : decode cX12_cutAll 257 = .ok (.goto 4, 3) := by decide +kernel
theorem dX12_cutAll_260 : decode cX12_cutAll 260 = .ok (.iconst 4, 1) := by decide +kernel
theorem dX12_cutAll_261 : decode cX12_cutAll 261 = .ok (.iastore, 1) := by decide +kernel
theorem dX12_cutAll_262 : decode cX12_cutAll 262 = .ok (.iinc 2 1, 3) := by decide +kernel
theorem dX12_rank_0 : decode cX12_rank 0 = .ok (.iload_n 0, 1) := by decide +kernel
theorem dX12_rank_1 : decode cX12_rank 1 = .ok (.invokestatic 136, 3) := by decide +kernel
theorem dX12_rank_4 : decode cX12_rank 4 = .ok (.ifCond .eq 10, 3) := by decide +kernel
theorem dX12_rank_7 : decode cX12_rank 7 = .ok (.iload_n 0, 1) := by decide +kernel
theorem dX12_rank_8 : decode cX12_rank 8 = .ok (.bipush 96, 2) := by decide +kernel
theorem dX12_rank_10 : decode cX12_rank 10 = .ok (.isub, 1) := by decide +kernel
theorem dX12_rank_11 : decode cX12_rank 11 = .ok (.goto 7, 3) := by decide +kernel
theorem dX12_rank_14 : decode cX12_rank 14 = .ok (.iload_n 0, 1) := by decide +kernel
theorem dX12_rank_15 : decode cX12_rank 15 = .ok (.bipush 21, 2) := by decide +kernel
theorem dX12_rank_17 : decode cX12_rank 17 = .ok (.isub, 1) := by decide +kernel
theorem dX12_rank_18 : decode cX12_rank 18 = .ok (.ireturn, 1) := by decide +kernel
set_option maxHeartbeats 4000000 in
set_option maxRecDepth 100000 in
theorem s_X12_rank {P : PP} {a0 : Int32} (I : IV P) : CtrI yX12_rank cX12_rank 1 (some Jvm.ClassFile.FieldType.int) ({ frames := 2, cells := 0, slots := 0, locals := 128 } : Room) 0 0 P [.int a0] (fun r P2 => P = P2 ∧ (True)) := by
  refine enI (lv := [(0, .int a0)]) (by decide) (Nat.le_of_ble_eq_true rfl) rfl (fun E D cy C Ci0 ret => ?_)
  refine g_iload_n C dX12_rank_0 rfl 0 rfl ?_
  refine g_callSI (b := 0) (ci := 0) (rest := []) C ms_X12_136 [.int a0] (s_X12_isLetter I) rfl rfl (by decide) (Nat.le_of_ble_eq_true rfl) (by decide) dX12_rank_1 (fun r28487 Y28488 h28489 => ?_)
  obtain ⟨rfl, h28489⟩ := h28489
  obtain ⟨h28489, hi28490, hi28491⟩ := h28489
  have hi28490 : r28487.toInt = 0 ∨ (((97 : Int) ≤ a0.toInt ∧ a0.toInt ≤ (122 : Int))) := hi28490
  have hi28491 : r28487.toInt ≠ 0 ∨ a0.toInt < 97 ∨ 122 < a0.toInt := hi28491
  have h28489 : 0 ≤ r28487.toInt ∧ r28487.toInt ≤ 1 := h28489
  refine b_if_eq C 14 dX12_rank_4 (by decide) (fun h28492 => ?_) (fun h28492 => ?_)
  · have h28492 : r28487.toInt = 0 := congrArg Int32.toInt h28492
    clear hi28490
    refine g_iload_n C dX12_rank_14 rfl 0 rfl ?_
    refine g_bipush (v := 21) C dX12_rank_15 (by decide) ?_
    refine a_isub C dX12_rank_17 (fun z28493 => ?_)
    exact ret _ _ _ _ _ _ dX12_rank_18 rfl (by decide) (by decide) ⟨rfl, trivial⟩
  · have h28492 : r28487.toInt ≠ 0 := ti_ne h28492
    replace hi28490 := hi28490.resolve_left (by omega)
    refine g_iload_n C dX12_rank_7 rfl 0 rfl ?_
    refine g_bipush (v := 96) C dX12_rank_8 (by decide) ?_
    refine s_isub C dX12_rank_10 (by show -2147483648 ≤ a0.toInt - 96 ∧ a0.toInt - 96 ≤ 2147483647; omega) (fun z28495 h28496 => ?_)
    have h28496 : z28495.toInt = a0.toInt - 96 := h28496
    refine g_goto C 18 dX12_rank_11 (by decide) ?_
    exact ret _ _ _ _ _ _ dX12_rank_18 rfl (by decide) (by decide) ⟨rfl, trivial⟩
theorem dX12_cutAll_114 : decode cX12_cutAll 114 = .ok (.i2l, 1) := by decide +kernel
theorem dX12_cutAll_115 : decode cX12_cutAll 115 = .ok (.ladd, 1) := by decide +kernel
theorem dX12_cutAll_116 : decode cX12_cutAll 116 = .ok (.goto 5, 3) := by decide +kernel
theorem dX12_cutAll_119 : decode cX12_cutAll 119 = .ok (.lload 5, 2) := by decide +kernel
theorem dX12_cutAll_121 : decode cX12_cutAll 121 = .ok (.lstore 5, 2) := by decide +kernel
theorem dX12_cutAll_123 : decode cX12_cutAll 123 = .ok (.iinc 2 1, 3) := by decide +kernel
theorem dX12_cutAll_126 : decode cX12_cutAll 126 = .ok (.goto (-56), 3) := by decide +kernel
theorem dX12_cutAll_129 : decode cX12_cutAll 129 = .ok (.aload_n 0, 1) := by decide +kernel
theorem dX12_cutAll_130 : decode cX12_cutAll 130 = .ok (.getfield 24, 3) := by decide +kernel
theorem dX12_cutAll_133 : decode cX12_cutAll 133 = .ok (.iload_n 1, 1) := by decide +kernel
theorem dX12_cutAll_134 : decode cX12_cutAll 134 = .ok (.iload_n 2, 1) := by decide +kernel
theorem dX12_cutAll_135 : decode cX12_cutAll 135 = .ok (.iload 4, 2) := by decide +kernel
theorem dX12_cutAll_137 : decode cX12_cutAll 137 = .ok (.isub, 1) := by decide +kernel
theorem dX12_cutAll_138 : decode cX12_cutAll 138 = .ok (.bipush 8, 2) := by decide +kernel
theorem dX12_cutAll_140 : decode cX12_cutAll 140 = .ok (.if_icmp .le 7, 3) := by decide +kernel
theorem dX12_cutAll_143 : decode cX12_cutAll 143 = .ok (.iconst 4, 1) := by decide +kernel
theorem dX12_cutAll_144 : decode cX12_cutAll 144 = .ok (.goto 4, 3) := by decide +kernel
theorem dX12_cutAll_147 : decode cX12_cutAll 147 = .ok (.iconst 1, 1) := by decide +kernel
theorem dX12_cutAll_148 : decode cX12_cutAll 148 = .ok (.iastore, 1) := by decide +kernel
theorem dX12_cutAll_149 : decode cX12_cutAll 149 = .ok (.goto 116, 3) := by decide +kernel
theorem dX12_cutAll_208 : decode cX12_cutAll 208 = .ok (.lload 5, 2) := by decide +kernel
theorem dX12_cutAll_210 : decode cX12_cutAll 210 = .ok (.lstore 5, 2) := by decide +kernel
theorem dX12_cutAll_212 : decode cX12_cutAll 212 = .ok (.iinc 2 1, 3) := by decide +kernel
theorem dX12_cutAll_215 : decode cX12_cutAll 215 = .ok (.goto (-56), 3) := by decide +kernel
theorem dX12_cutAll_218 : decode cX12_cutAll 218 = .ok (.aload_n 0, 1) := by decide +kernel
theorem dX12_cutAll_219 : decode cX12_cutAll 219 = .ok (.getfield 24, 3) := by decide +kernel
theorem dX12_cutAll_222 : decode cX12_cutAll 222 = .ok (.iload_n 1, 1) := by decide +kernel
theorem dX12_cutAll_223 : decode cX12_cutAll 223 = .ok (.iload_n 2, 1) := by decide +kernel
theorem dX12_cutAll_224 : decode cX12_cutAll 224 = .ok (.iload 4, 2) := by decide +kernel
theorem dX12_cutAll_226 : decode cX12_cutAll 226 = .ok (.isub, 1) := by decide +kernel
theorem dX12_cutAll_227 : decode cX12_cutAll 227 = .ok (.iconst 4, 1) := by decide +kernel
theorem dX12_cutAll_228 : decode cX12_cutAll 228 = .ok (.if_icmp .le 7, 3) := by decide +kernel
theorem dX12_cutAll_231 : decode cX12_cutAll 231 = .ok (.iconst 4, 1) := by decide +kernel
theorem dX12_cutAll_232 : decode cX12_cutAll 232 = .ok (.goto 4, 3) := by decide +kernel
theorem dX12_cutAll_235 : decode cX12_cutAll 235 = .ok (.iconst 2, 1) := by decide +kernel
theorem dX12_cutAll_236 : decode cX12_cutAll 236 = .ok (.iastore, 1) := by decide +kernel
theorem dX12_cutAll_237 : decode cX12_cutAll 237 = .ok (.goto 28, 3) := by decide +kernel
theorem dX12_cutAll_265 : decode cX12_cutAll 265 = .ok (.aload_n 0, 1) := by decide +kernel
theorem dX12_cutAll_266 : decode cX12_cutAll 266 = .ok (.getfield 30, 3) := by decide +kernel
theorem dX12_cutAll_269 : decode cX12_cutAll 269 = .ok (.iload_n 1, 1) := by decide +kernel
theorem dX12_cutAll_270 : decode cX12_cutAll 270 = .ok (.lload 5, 2) := by decide +kernel
theorem dX12_cutAll_272 : decode cX12_cutAll 272 = .ok (.lastore, 1) := by decide +kernel
theorem dX12_cutAll_273 : decode cX12_cutAll 273 = .ok (.iinc 1 1, 3) := by decide +kernel
theorem dX12_cutAll_276 : decode cX12_cutAll 276 = .ok (.goto (-259), 3) := by decide +kernel
set_option maxHeartbeats 4000000 in
set_option maxRecDepth 100000 in
theorem s_X12_cutAll {P : PP} {a0 : Nat} (I : IM P a0) (hW : MW P a0) : CtrV yX12_cutAll cX12_cutAll 7 none ({ frames := 3, cells := 0, slots := 0, locals := 192 } : Room) 0 0 P [.ref a0] (fun P2 => IM P2 a0 ∧ EM [2, 3, 4, 5, 7, 8] a0 P P2 ∧ MW P2 a0) := by
  refine enV (lv := [(0, .ref a0)]) (by decide) (Nat.le_of_ble_eq_true rfl) rfl (fun E D cy C Ci0 ret => ?_)
  have ha0 := I.2.1
  have J17 : ∀ (n17 : Nat) (P17 : PP) (v17_1 : Int32) (v17_2 : Int32), (1000 - v17_2.toInt).toNat < n17 → (IM P17 a0) → (EM [2, 3, 4, 5, 7, 8] a0 P P17) → (MW P17 a0) → (0 ≤ v17_1.toInt ∧ v17_1.toInt ≤ 1000) → (0 ≤ v17_2.toInt ∧ v17_2.toInt ≤ 1000) → (0 ≤ (pI P17 a0 2).toInt ∧ (pI P17 a0 2).toInt ≤ 0) → (v17_1.toInt ≤ v17_2.toInt) → G E ({ frames := 3, cells := 0, slots := 0, locals := 192 } : Room) D cy 7 P17 0 0 17 [(0, .ref a0), (1, .int v17_1), (2, .int v17_2)] [] := by
    intro n17
    induction n17 with
    | zero => intro P17 v17_1 v17_2 hm17 I17 X17 W17 hv17_1 hv17_2 hq17_0 rel17_0; omega
    | succ n17 ih17 =>
      intro P17 v17_1 v17_2 hm17 I17 X17 W17 hv17_1 hv17_2 hq17_0 rel17_0
      have h39794 := X17.at ha0
      have J265 : ∀ (P265 : PP) (v265_2 : Int32) (l265_5 : Int64), (IM P265 a0) → (EM [2, 3, 4, 5, 7, 8] a0 P P265) → (MW P265 a0) → (0 ≤ v265_2.toInt ∧ v265_2.toInt ≤ 1000) → (0 ≤ (pI P265 a0 2).toInt ∧ (pI P265 a0 2).toInt ≤ 0) → (1 ≤ (pI P265 a0 3).toInt ∧ (pI P265 a0 3).toInt ≤ 1000) → (∀ b, pR P265 a0 4 = some b → 1 ≤ (pI P265 b (v17_1.toInt.toNat)).toInt ∧ (pI P265 b (v17_1.toInt.toNat)).toInt ≤ 4) → (∀ b, pR P265 a0 5 = some b → 0 ≤ (pI P265 b (v17_1.toInt.toNat)).toInt ∧ (pI P265 b (v17_1.toInt.toNat)).toInt ≤ 999) → (v17_1.toInt < v265_2.toInt) → (v17_2.toInt < v265_2.toInt) → G E ({ frames := 3, cells := 0, slots := 0, locals := 192 } : Room) D cy 7 P265 0 0 265 [(0, .ref a0), (1, .int v17_1), (2, .int v265_2), (5, .long l265_5)] [] := by
        intro P265 v265_2 l265_5 I265 X265 W265 hv265_2 hq265_0 hq265_1 hq265_2 hq265_3 rel265_0 rel265_1
        have h39795 := X265.at ha0
        obtain ⟨b39796, e39797, h39798⟩ := I265.fld (h39795) 4 13 1002 rfl
        have hq265_2 := hq265_2 b39796 e39797
        obtain ⟨b39799, e39800, h39801⟩ := I265.fld (h39795) 5 13 1002 rfl
        have hq265_3 := hq265_3 b39799 e39800
        refine g_aload_n C dX12_cutAll_265 rfl 0 rfl ?_
        obtain ⟨b39802, e39803, h39804⟩ := I265.fld (h39795) 6 14 1002 rfl
        refine g_getR C fi_X12_30 rfl e39803 (h39795).1 (h39795).2 dX12_cutAll_266 ?_
        refine g_iload_n C dX12_cutAll_269 rfl 1 rfl ?_
        refine g_lload C dX12_cutAll_270 3 rfl ?_
        refine g_last (j := (v17_1.toInt.toNat)) C h39804.1 h39804.2.1 (ix_in h39804.2.2 (by omega)) dX12_cutAll_272 ?_
        refine gq (ks := []) (I265.setJ) (EM.setJ) (fun Y39805 Iy39806 Xy39807 => ?_)
        have q39808 := Xy39807.keepF 2 (by decide)
        have q39809 := Xy39807.keepF 3 (by decide)
        have q39810 := Xy39807.keepA e39797 (by decide) rfl (v17_1.toInt.toNat)
        have q39811 := Xy39807.keepA e39800 (by decide) rfl (v17_1.toInt.toNat)
        have W39812 := W265.keep I265 Xy39807 (by decide) (by decide) (by decide)
        have Xz39813 : EM [2, 3, 4, 5, 7, 8] a0 P Y39805 := EM.tr ha0 X265 (Xy39807.mono (by decide))
        have e39814 := Xy39807.ref h39795 (by decide) e39797
        have e39815 := Xy39807.ref h39795 (by decide) e39800
        have h39816 := Xy39807.at h39795
        have h39817 := Xy39807.ar h39798
        have h39818 := Xy39807.ar h39801
        refine s_iinc (lv0 := [(0, .ref a0), (2, .int v265_2), (5, .long l265_5)]) (m := 1) C dX12_cutAll_273 1 rfl (by decide) rfl (by decide) (by omega) (fun z39819 h39820 => ?_)
        have h39820 : z39819.toInt = v17_1.toInt + 1 := h39820
        refine g_goto C 17 dX12_cutAll_276 (by decide) ?_
        refine g_lv (lv' := [(0, .ref a0), (1, .int z39819), (2, .int v265_2)]) [1, 0, 2] rfl ?_
        exact ih17 Y39805 z39819 v265_2 (by omega) Iy39806 Xz39813 W39812 (by omega) (by omega) (by omega) (by show z39819.toInt ≤ v265_2.toInt; omega)
      have J261 : ∀ (P261 : PP) (l261_5 : Int64) (v261_s0 : Int32) (b261_s2 : Nat), (IM P261 a0) → (EM [2, 3, 4, 5, 7, 8] a0 P P261) → (MW P261 a0) → (0 ≤ v17_2.toInt ∧ v17_2.toInt ≤ 999) → (3 ≤ v261_s0.toInt ∧ v261_s0.toInt ≤ 4) → (Ar P261 b261_s2 13 1002) → (pR P261 a0 4 = some b261_s2) → (0 ≤ (pI P261 a0 2).toInt ∧ (pI P261 a0 2).toInt ≤ 0) → (1 ≤ (pI P261 a0 3).toInt ∧ (pI P261 a0 3).toInt ≤ 1000) → (∀ b, pR P261 a0 5 = some b → 0 ≤ (pI P261 b (v17_1.toInt.toNat)).toInt ∧ (pI P261 b (v17_1.toInt.toNat)).toInt ≤ 999) → (v17_1.toInt ≤ v17_2.toInt) → (v17_2.toInt = v17_2.toInt) → G E ({ frames := 3, cells := 0, slots := 0, locals := 192 } : Room) D cy 7 P261 0 0 261 [(0, .ref a0), (1, .int v17_1), (2, .int v17_2), (5, .long l261_5)] [.int v261_s0, .int v17_1, .ref b261_s2] := by
        intro P261 l261_5 v261_s0 b261_s2 I261 X261 W261 hv261_2 hv261_s0 hb261_s2 eb261_s2 hq261_0 hq261_1 hq261_2 rel261_0 rel261_1
        have h39821 := X261.at ha0
        obtain ⟨b39822, e39823, h39824⟩ := I261.fld (h39821) 5 13 1002 rfl
        have hq261_2 := hq261_2 b39822 e39823
        refine g_iast (j := (v17_1.toInt.toNat)) C hb261_s2.1 hb261_s2.2.1 (ix_in hb261_s2.2.2 (by omega)) dX12_cutAll_261 ?_
        refine gqW (ks := [4]) (I261.setA eb261_s2 hb261_s2 (by decide) (arOk.of rfl (by omega))) (EM.setA I261 eb261_s2 rfl (by decide)) (fun Y39825 Iy39826 Xy39827 w39828 => ?_)
        have w39828 : (pI Y39825 b261_s2 (v17_1.toInt.toNat)).toInt = v261_s0.toInt := w39828
        have q39829 := Xy39827.keepF 2 (by decide)
        have q39830 := Xy39827.keepF 3 (by decide)
        have q39831 := Xy39827.keepA e39823 (by decide) rfl (v17_1.toInt.toNat)
        have W39832 := W261.keep I261 Xy39827 (by decide) (by decide) (by decide)
        have Xz39833 : EM [2, 3, 4, 5, 7, 8] a0 P Y39825 := EM.tr ha0 X261 (Xy39827.mono (by decide))
        have e39834 := Xy39827.ref h39821 (by decide) eb261_s2
        have e39835 := Xy39827.ref h39821 (by decide) e39823
        have h39836 := Xy39827.at h39821
        have h39837 := Xy39827.ar hb261_s2
        have h39838 := Xy39827.ar h39824
        refine s_iinc (lv0 := [(0, .ref a0), (1, .int v17_1), (5, .long l261_5)]) (m := 1) C dX12_cutAll_262 2 rfl (by decide) rfl (by decide) (by omega) (fun z39839 h39840 => ?_)
        have h39840 : z39839.toInt = v17_2.toInt + 1 := h39840
        refine g_lv (lv' := [(0, .ref a0), (1, .int v17_1), (2, .int z39839), (5, .long l261_5)]) [1, 2, 0, 3] rfl ?_
        exact J265 Y39825 z39839 l261_5 Iy39826 Xz39833 W39832 (by omega) (by omega) (by omega) (fun b9 e9 => by rw [e39834] at e9; cases e9; omega) (fun b9 e9 => by rw [e39835] at e9; cases e9; omega) (by show v17_1.toInt < z39839.toInt; omega) (by show v17_2.toInt < z39839.toInt; omega)
      have J236 : ∀ (P236 : PP) (v236_2 : Int32) (l236_5 : Int64) (v236_s0 : Int32) (b236_s2 : Nat), (IM P236 a0) → (EM [2, 3, 4, 5, 7, 8] a0 P P236) → (MW P236 a0) → (0 ≤ v236_2.toInt ∧ v236_2.toInt ≤ 1000) → (2 ≤ v236_s0.toInt ∧ v236_s0.toInt ≤ 4) → (Ar P236 b236_s2 13 1002) → (pR P236 a0 4 = some b236_s2) → (0 ≤ (pI P236 a0 2).toInt ∧ (pI P236 a0 2).toInt ≤ 0) → (1 ≤ (pI P236 a0 3).toInt ∧ (pI P236 a0 3).toInt ≤ 1000) → (∀ b, pR P236 a0 5 = some b → 0 ≤ (pI P236 b (v17_1.toInt.toNat)).toInt ∧ (pI P236 b (v17_1.toInt.toNat)).toInt ≤ 999) → (v17_1.toInt < v236_2.toInt) → (v17_2.toInt < v236_2.toInt) → G E ({ frames := 3, cells := 0, slots := 0, locals := 192 } : Room) D cy 7 P236 0 0 236 [(0, .ref a0), (1, .int v17_1), (2, .int v236_2), (5, .long l236_5)] [.int v236_s0, .int v17_1, .ref b236_s2] := by
        intro P236 v236_2 l236_5 v236_s0 b236_s2 I236 X236 W236 hv236_2 hv236_s0 hb236_s2 eb236_s2 hq236_0 hq236_1 hq236_2 rel236_0 rel236_1
        have h39841 := X236.at ha0
        obtain ⟨b39842, e39843, h39844⟩ := I236.fld (h39841) 5 13 1002 rfl
        have hq236_2 := hq236_2 b39842 e39843
        refine g_iast (j := (v17_1.toInt.toNat)) C hb236_s2.1 hb236_s2.2.1 (ix_in hb236_s2.2.2 (by omega)) dX12_cutAll_236 ?_
        refine gqW (ks := [4]) (I236.setA eb236_s2 hb236_s2 (by decide) (arOk.of rfl (by omega))) (EM.setA I236 eb236_s2 rfl (by decide)) (fun Y39845 Iy39846 Xy39847 w39848 => ?_)
        have w39848 : (pI Y39845 b236_s2 (v17_1.toInt.toNat)).toInt = v236_s0.toInt := w39848
        have q39849 := Xy39847.keepF 2 (by decide)
        have q39850 := Xy39847.keepF 3 (by decide)
        have q39851 := Xy39847.keepA e39843 (by decide) rfl (v17_1.toInt.toNat)
        have W39852 := W236.keep I236 Xy39847 (by decide) (by decide) (by decide)
        have Xz39853 : EM [2, 3, 4, 5, 7, 8] a0 P Y39845 := EM.tr ha0 X236 (Xy39847.mono (by decide))
        have e39854 := Xy39847.ref h39841 (by decide) eb236_s2
        have e39855 := Xy39847.ref h39841 (by decide) e39843
        have h39856 := Xy39847.at h39841
        have h39857 := Xy39847.ar hb236_s2
        have h39858 := Xy39847.ar h39844
        refine g_goto C 265 dX12_cutAll_237 (by decide) ?_
        exact J265 Y39845 v236_2 l236_5 Iy39846 Xz39853 W39852 (by omega) (by omega) (by omega) (fun b9 e9 => by rw [e39854] at e9; cases e9; omega) (fun b9 e9 => by rw [e39855] at e9; cases e9; omega) (by show v17_1.toInt < v236_2.toInt; omega) (by show v17_2.toInt < v236_2.toInt; omega)
      have J218 : ∀ (P218 : PP) (v218_2 : Int32) (l218_5 : Int64), (IM P218 a0) → (EM [2, 3, 4, 5, 7, 8] a0 P P218) → (MW P218 a0) → (0 ≤ v218_2.toInt ∧ v218_2.toInt ≤ 1000) → (0 ≤ v17_2.toInt ∧ v17_2.toInt ≤ 999) → (0 ≤ (pI P218 a0 2).toInt ∧ (pI P218 a0 2).toInt ≤ 0) → (1 ≤ (pI P218 a0 3).toInt ∧ (pI P218 a0 3).toInt ≤ 1000) → (∀ b, pR P218 a0 5 = some b → 0 ≤ (pI P218 b (v17_1.toInt.toNat)).toInt ∧ (pI P218 b (v17_1.toInt.toNat)).toInt ≤ 999) → (v17_1.toInt ≤ v17_2.toInt) → (v17_2.toInt < v218_2.toInt) → (v17_2.toInt < v218_2.toInt) → G E ({ frames := 3, cells := 0, slots := 0, locals := 192 } : Room) D cy 7 P218 0 0 218 [(0, .ref a0), (1, .int v17_1), (2, .int v218_2), (4, .int v17_2), (5, .long l218_5)] [] := by
        intro P218 v218_2 l218_5 I218 X218 W218 hv218_2 hv218_4 hq218_0 hq218_1 hq218_2 rel218_0 rel218_1 rel218_2
        have h39859 := X218.at ha0
        obtain ⟨b39860, e39861, h39862⟩ := I218.fld (h39859) 5 13 1002 rfl
        have hq218_2 := hq218_2 b39860 e39861
        refine g_aload_n C dX12_cutAll_218 rfl 0 rfl ?_
        obtain ⟨b39863, e39864, h39865⟩ := I218.fld (h39859) 4 13 1002 rfl
        refine g_getR C fi_X12_24 rfl e39864 (h39859).1 (h39859).2 dX12_cutAll_219 ?_
        refine g_iload_n C dX12_cutAll_222 rfl 1 rfl ?_
        refine g_iload_n C dX12_cutAll_223 rfl 2 rfl ?_
        refine g_iload C dX12_cutAll_224 3 rfl ?_
        refine s_isub C dX12_cutAll_226 (by show -2147483648 ≤ v218_2.toInt - v17_2.toInt ∧ v218_2.toInt - v17_2.toInt ≤ 2147483647; omega) (fun z39866 h39867 => ?_)
        have h39867 : z39866.toInt = v218_2.toInt - v17_2.toInt := h39867
        refine g_iconst (v := 4) C dX12_cutAll_227 (by decide) ?_
        refine b_icmp_le C 235 dX12_cutAll_228 (by decide) (fun h39868 => ?_) (fun h39868 => ?_)
        · have h39868 : z39866.toInt ≤ 4 := h39868
          refine g_iconst (v := 2) C dX12_cutAll_235 (by decide) ?_
          refine g_lv (lv' := [(0, .ref a0), (1, .int v17_1), (2, .int v218_2), (5, .long l218_5)]) [0, 1, 2, 4] rfl ?_
          exact J236 P218 v218_2 l218_5 2 b39863 I218 X218 W218 (by omega) (by decide) h39865 e39864 (by omega) (by omega) (fun b9 e9 => by rw [e39861] at e9; cases e9; omega) (by show v17_1.toInt < v218_2.toInt; omega) (by show v17_2.toInt < v218_2.toInt; omega)
        · have h39868 : 4 < z39866.toInt := h39868
          refine g_iconst (v := 4) C dX12_cutAll_231 (by decide) ?_
          refine g_goto C 236 dX12_cutAll_232 (by decide) ?_
          refine g_lv (lv' := [(0, .ref a0), (1, .int v17_1), (2, .int v218_2), (5, .long l218_5)]) [0, 1, 2, 4] rfl ?_
          exact J236 P218 v218_2 l218_5 4 b39863 I218 X218 W218 (by omega) (by decide) h39865 e39864 (by omega) (by omega) (fun b9 e9 => by rw [e39861] at e9; cases e9; omega) (by show v17_1.toInt < v218_2.toInt; omega) (by show v17_2.toInt < v218_2.toInt; omega)
      have J159 : ∀ (n159 : Nat) (P159 : PP) (v159_2 : Int32) (l159_5 : Int64), (1000 - v159_2.toInt).toNat < n159 → (IM P159 a0) → (EM [2, 3, 4, 5, 7, 8] a0 P P159) → (MW P159 a0) → (0 ≤ v159_2.toInt ∧ v159_2.toInt ≤ 1000) → (0 ≤ v17_2.toInt ∧ v17_2.toInt ≤ 999) → (0 ≤ (pI P159 a0 2).toInt ∧ (pI P159 a0 2).toInt ≤ 0) → (1 ≤ (pI P159 a0 3).toInt ∧ (pI P159 a0 3).toInt ≤ 1000) → (∀ b, pR P159 a0 5 = some b → 0 ≤ (pI P159 b (v17_1.toInt.toNat)).toInt ∧ (pI P159 b (v17_1.toInt.toNat)).toInt ≤ 999) → (v17_1.toInt ≤ v17_2.toInt) → (∀ b91, pR P159 a0 1 = some b91 → v17_2.toInt < v159_2.toInt ∨ (v17_2.toInt = v159_2.toInt ∧ v159_2.toInt < (pI P159 a0 3).toInt ∧ 48 ≤ (pI P159 b91 (v159_2.toInt.toNat)).toInt ∧ (pI P159 b91 (v159_2.toInt.toNat)).toInt ≤ 57)) → (v17_2.toInt = v17_2.toInt) → G E ({ frames := 3, cells := 0, slots := 0, locals := 192 } : Room) D cy 7 P159 0 0 159 [(0, .ref a0), (1, .int v17_1), (2, .int v159_2), (4, .int v17_2), (5, .long l159_5)] [] := by
        intro n159
        induction n159 with
        | zero => intro P159 v159_2 l159_5 hm159 I159 X159 W159 hv159_2 hv159_4 hq159_0 hq159_1 hq159_2 rel159_0 rel159_1 rel159_2; omega
        | succ n159 ih159 =>
          intro P159 v159_2 l159_5 hm159 I159 X159 W159 hv159_2 hv159_4 hq159_0 hq159_1 hq159_2 rel159_0 rel159_1 rel159_2
          have h39869 := X159.at ha0
          obtain ⟨b39870, e39871, h39872⟩ := I159.fld (h39869) 5 13 1002 rfl
          have hq159_2 := hq159_2 b39870 e39871
          obtain ⟨b39873, e39874, h39875⟩ := I159.fld (h39869) 1 13 1000 rfl
          have rel159_1 := rel159_1 b39873 e39874
          have J210 : ∀ (l210_s0 : Int64), (0 ≤ v159_2.toInt ∧ v159_2.toInt ≤ 999) → (0 ≤ v17_2.toInt ∧ v17_2.toInt ≤ 999) → (0 ≤ (pI P159 a0 2).toInt ∧ (pI P159 a0 2).toInt ≤ 0) → (1 ≤ (pI P159 a0 3).toInt ∧ (pI P159 a0 3).toInt ≤ 1000) → (∀ b, pR P159 a0 1 = some b → 48 ≤ (pI P159 b (v159_2.toInt.toNat)).toInt ∧ (pI P159 b (v159_2.toInt.toNat)).toInt ≤ 57) → (∀ b, pR P159 a0 5 = some b → 0 ≤ (pI P159 b (v17_1.toInt.toNat)).toInt ∧ (pI P159 b (v17_1.toInt.toNat)).toInt ≤ 999) → (v17_1.toInt ≤ v17_2.toInt) → (v17_2.toInt ≤ v159_2.toInt) → (v17_2.toInt = v17_2.toInt) → G E ({ frames := 3, cells := 0, slots := 0, locals := 192 } : Room) D cy 7 P159 0 0 210 [(0, .ref a0), (1, .int v17_1), (2, .int v159_2), (4, .int v17_2)] [.long l210_s0] := by
            intro l210_s0 hv210_2 hv210_4 hq210_0 hq210_1 hq210_2 hq210_3 rel210_0 rel210_1 rel210_2
            have h39876 := X159.at ha0
            obtain ⟨b39877, e39878, h39879⟩ := I159.fld (h39876) 1 13 1000 rfl
            have hq210_2 := hq210_2 b39877 e39878
            obtain ⟨b39880, e39881, h39882⟩ := I159.fld (h39876) 5 13 1002 rfl
            have hq210_3 := hq210_3 b39880 e39881
            refine g_lstore (lv' := [(5, .long l210_s0), (0, .ref a0), (1, .int v17_1), (2, .int v159_2), (4, .int v17_2)]) C dX12_cutAll_210 (by decide) rfl ?_
            refine s_iinc (lv0 := [(5, .long l210_s0), (0, .ref a0), (1, .int v17_1), (4, .int v17_2)]) (m := 1) C dX12_cutAll_212 3 rfl (by decide) rfl (by decide) (by omega) (fun z39883 h39884 => ?_)
            have h39884 : z39883.toInt = v159_2.toInt + 1 := h39884
            refine g_goto C 159 dX12_cutAll_215 (by decide) ?_
            refine g_lv (lv' := [(0, .ref a0), (1, .int v17_1), (2, .int z39883), (4, .int v17_2), (5, .long l210_s0)]) [2, 3, 0, 4, 1] rfl ?_
            exact ih159 P159 z39883 l210_s0 (by omega) I159 X159 W159 (by omega) (by omega) (by omega) (by omega) (fun b9 e9 => by rw [e39881] at e9; cases e9; omega) (by show v17_1.toInt ≤ v17_2.toInt; omega) (by intro b91 e91; rw [e39878] at e91; cases e91; show v17_2.toInt < z39883.toInt ∨ (v17_2.toInt = z39883.toInt ∧ z39883.toInt < (pI P159 a0 3).toInt ∧ 48 ≤ (pI P159 b39877 (z39883.toInt.toNat)).toInt ∧ (pI P159 b39877 (z39883.toInt.toNat)).toInt ≤ 57); omega) (by show v17_2.toInt = v17_2.toInt; omega)
          refine g_iload_n C dX12_cutAll_159 rfl 2 rfl ?_
          refine g_aload_n C dX12_cutAll_160 rfl 0 rfl ?_
          refine g_getI C fi_X12_140 (by decide) (h39869).1 (h39869).2 dX12_cutAll_161 ?_
          refine b_icmp_ge C 218 dX12_cutAll_164 (by decide) (fun h39885 => ?_) (fun h39885 => ?_)
          · have h39885 : (pI P159 a0 3).toInt ≤ v159_2.toInt := h39885
            exact J218 P159 v159_2 l159_5 I159 X159 W159 (by omega) (by omega) (by omega) (by omega) (fun b9 e9 => by rw [e39871] at e9; cases e9; omega) (by show v17_1.toInt ≤ v17_2.toInt; omega) (by show v17_2.toInt < v159_2.toInt; omega) (by show v17_2.toInt < v159_2.toInt; omega)
          · have h39885 : v159_2.toInt < (pI P159 a0 3).toInt := h39885
            refine g_aload_n C dX12_cutAll_167 rfl 0 rfl ?_
            refine g_getR C fi_X12_14 rfl e39874 (h39869).1 (h39869).2 dX12_cutAll_168 ?_
            refine g_iload_n C dX12_cutAll_171 rfl 2 rfl ?_
            refine g_iald (j := (v159_2.toInt.toNat)) C h39875.1 h39875.2.1 (ix_in h39875.2.2 (by omega)) dX12_cutAll_172 ?_
            refine g_callSI (b := 0) (ci := 0) (rest := []) C ms_X12_149 [.int (pI P159 b39873 (v159_2.toInt.toNat))] (s_X12_isDigit I159.1) rfl rfl (by decide) (Nat.le_of_ble_eq_true rfl) (by decide) dX12_cutAll_173 (fun r39886 Y39887 h39888 => ?_)
            obtain ⟨rfl, h39888⟩ := h39888
            obtain ⟨h39888, hi39889, hi39890⟩ := h39888
            have hi39889 : r39886.toInt = 0 ∨ (((48 : Int) ≤ (pI P159 b39873 (v159_2.toInt.toNat)).toInt ∧ (pI P159 b39873 (v159_2.toInt.toNat)).toInt ≤ (57 : Int))) := hi39889
            have hi39890 : r39886.toInt ≠ 0 ∨ (pI P159 b39873 (v159_2.toInt.toNat)).toInt < 48 ∨ 57 < (pI P159 b39873 (v159_2.toInt.toNat)).toInt := hi39890
            have h39888 : 0 ≤ r39886.toInt ∧ r39886.toInt ≤ 1 := h39888
            refine b_if_eq C 218 dX12_cutAll_176 (by decide) (fun h39891 => ?_) (fun h39891 => ?_)
            · have h39891 : r39886.toInt = 0 := congrArg Int32.toInt h39891
              clear hi39889
              exact J218 P159 v159_2 l159_5 I159 X159 W159 (by omega) (by omega) (by omega) (by omega) (fun b9 e9 => by rw [e39871] at e9; cases e9; omega) (by show v17_1.toInt ≤ v17_2.toInt; omega) (by show v17_2.toInt < v159_2.toInt; omega) (by show v17_2.toInt < v159_2.toInt; omega)
            · have h39891 : r39886.toInt ≠ 0 := ti_ne h39891
              replace hi39889 := hi39889.resolve_left (by omega)
              refine g_iload_n C dX12_cutAll_179 rfl 2 rfl ?_
              refine g_iload C dX12_cutAll_180 3 rfl ?_
              refine s_isub C dX12_cutAll_182 (by show -2147483648 ≤ v159_2.toInt - v17_2.toInt ∧ v159_2.toInt - v17_2.toInt ≤ 2147483647; omega) (fun z39892 h39893 => ?_)
              have h39893 : z39892.toInt = v159_2.toInt - v17_2.toInt := h39893
              refine g_iconst (v := 4) C dX12_cutAll_183 (by decide) ?_
              refine b_icmp_ge C 208 dX12_cutAll_184 (by decide) (fun h39894 => ?_) (fun h39894 => ?_)
              · have h39894 : 4 ≤ z39892.toInt := h39894
                refine g_lload C dX12_cutAll_208 4 rfl ?_
                refine g_lv (lv' := [(0, .ref a0), (1, .int v17_1), (2, .int v159_2), (4, .int v17_2)]) [0, 1, 2, 3] rfl ?_
                exact J210 l159_5 (by omega) (by omega) (by omega) (by omega) (fun b9 e9 => by rw [e39874] at e9; cases e9; omega) (fun b9 e9 => by rw [e39871] at e9; cases e9; omega) (by show v17_1.toInt ≤ v17_2.toInt; omega) (by show v17_2.toInt ≤ v159_2.toInt; omega) (by show v17_2.toInt = v17_2.toInt; omega)
              · have h39894 : z39892.toInt < 4 := h39894
                refine g_ldc2 (v := 10) C kl_X12_152 dX12_cutAll_187 ?_
                refine g_topl (fun l39895 el39895 => ?_)
                have hz_l39895 : ¬ l39895 = 0 := by rw [el39895]; decide
                refine g_lload C dX12_cutAll_190 4 rfl ?_
                refine a_lmul C dX12_cutAll_192 (fun l39896 => ?_)
                refine g_aload_n C dX12_cutAll_193 rfl 0 rfl ?_
                refine g_getR C fi_X12_14 rfl e39874 (h39869).1 (h39869).2 dX12_cutAll_194 ?_
                refine g_iload_n C dX12_cutAll_197 rfl 2 rfl ?_
                refine g_iald (j := (v159_2.toInt.toNat)) C h39875.1 h39875.2.1 (ix_in h39875.2.2 (by omega)) dX12_cutAll_198 ?_
                refine a_i2l C dX12_cutAll_199 (fun l39897 => ?_)
                refine a_ladd C dX12_cutAll_200 (fun l39898 => ?_)
                refine g_ldc2 (v := 48) C kl_X12_154 dX12_cutAll_201 ?_
                refine g_topl (fun l39899 el39899 => ?_)
                have hz_l39899 : ¬ l39899 = 0 := by rw [el39899]; decide
                refine a_lsub C dX12_cutAll_204 (fun l39900 => ?_)
                refine g_goto C 210 dX12_cutAll_205 (by decide) ?_
                refine g_lv (lv' := [(0, .ref a0), (1, .int v17_1), (2, .int v159_2), (4, .int v17_2)]) [0, 1, 2, 3] rfl ?_
                exact J210 l39900 (by omega) (by omega) (by omega) (by omega) (fun b9 e9 => by rw [e39874] at e9; cases e9; omega) (fun b9 e9 => by rw [e39871] at e9; cases e9; omega) (by show v17_1.toInt ≤ v17_2.toInt; omega) (by show v17_2.toInt ≤ v159_2.toInt; omega) (by show v17_2.toInt = v17_2.toInt; omega)
      have J148 : ∀ (P148 : PP) (v148_2 : Int32) (l148_5 : Int64) (v148_s0 : Int32) (b148_s2 : Nat), (IM P148 a0) → (EM [2, 3, 4, 5, 7, 8] a0 P P148) → (MW P148 a0) → (0 ≤ v148_2.toInt ∧ v148_2.toInt ≤ 1000) → (1 ≤ v148_s0.toInt ∧ v148_s0.toInt ≤ 4) → (Ar P148 b148_s2 13 1002) → (pR P148 a0 4 = some b148_s2) → (0 ≤ (pI P148 a0 2).toInt ∧ (pI P148 a0 2).toInt ≤ 0) → (1 ≤ (pI P148 a0 3).toInt ∧ (pI P148 a0 3).toInt ≤ 1000) → (∀ b, pR P148 a0 5 = some b → 0 ≤ (pI P148 b (v17_1.toInt.toNat)).toInt ∧ (pI P148 b (v17_1.toInt.toNat)).toInt ≤ 999) → (v17_1.toInt < v148_2.toInt) → (v17_2.toInt < v148_2.toInt) → G E ({ frames := 3, cells := 0, slots := 0, locals := 192 } : Room) D cy 7 P148 0 0 148 [(0, .ref a0), (1, .int v17_1), (2, .int v148_2), (5, .long l148_5)] [.int v148_s0, .int v17_1, .ref b148_s2] := by
        intro P148 v148_2 l148_5 v148_s0 b148_s2 I148 X148 W148 hv148_2 hv148_s0 hb148_s2 eb148_s2 hq148_0 hq148_1 hq148_2 rel148_0 rel148_1
        have h39901 := X148.at ha0
        obtain ⟨b39902, e39903, h39904⟩ := I148.fld (h39901) 5 13 1002 rfl
        have hq148_2 := hq148_2 b39902 e39903
        refine g_iast (j := (v17_1.toInt.toNat)) C hb148_s2.1 hb148_s2.2.1 (ix_in hb148_s2.2.2 (by omega)) dX12_cutAll_148 ?_
        refine gqW (ks := [4]) (I148.setA eb148_s2 hb148_s2 (by decide) (arOk.of rfl (by omega))) (EM.setA I148 eb148_s2 rfl (by decide)) (fun Y39905 Iy39906 Xy39907 w39908 => ?_)
        have w39908 : (pI Y39905 b148_s2 (v17_1.toInt.toNat)).toInt = v148_s0.toInt := w39908
        have q39909 := Xy39907.keepF 2 (by decide)
        have q39910 := Xy39907.keepF 3 (by decide)
        have q39911 := Xy39907.keepA e39903 (by decide) rfl (v17_1.toInt.toNat)
        have W39912 := W148.keep I148 Xy39907 (by decide) (by decide) (by decide)
        have Xz39913 : EM [2, 3, 4, 5, 7, 8] a0 P Y39905 := EM.tr ha0 X148 (Xy39907.mono (by decide))
        have e39914 := Xy39907.ref h39901 (by decide) eb148_s2
        have e39915 := Xy39907.ref h39901 (by decide) e39903
        have h39916 := Xy39907.at h39901
        have h39917 := Xy39907.ar hb148_s2
        have h39918 := Xy39907.ar h39904
        refine g_goto C 265 dX12_cutAll_149 (by decide) ?_
        exact J265 Y39905 v148_2 l148_5 Iy39906 Xz39913 W39912 (by omega) (by omega) (by omega) (fun b9 e9 => by rw [e39914] at e9; cases e9; omega) (fun b9 e9 => by rw [e39915] at e9; cases e9; omega) (by show v17_1.toInt < v148_2.toInt; omega) (by show v17_2.toInt < v148_2.toInt; omega)
      have J129 : ∀ (P129 : PP) (v129_2 : Int32) (l129_5 : Int64), (IM P129 a0) → (EM [2, 3, 4, 5, 7, 8] a0 P P129) → (MW P129 a0) → (0 ≤ v129_2.toInt ∧ v129_2.toInt ≤ 1000) → (0 ≤ v17_2.toInt ∧ v17_2.toInt ≤ 999) → (0 ≤ (pI P129 a0 2).toInt ∧ (pI P129 a0 2).toInt ≤ 0) → (1 ≤ (pI P129 a0 3).toInt ∧ (pI P129 a0 3).toInt ≤ 1000) → (∀ b, pR P129 a0 5 = some b → 0 ≤ (pI P129 b (v17_1.toInt.toNat)).toInt ∧ (pI P129 b (v17_1.toInt.toNat)).toInt ≤ 999) → (v17_1.toInt ≤ v17_2.toInt) → (v17_2.toInt < v129_2.toInt) → (v17_2.toInt < v129_2.toInt) → G E ({ frames := 3, cells := 0, slots := 0, locals := 192 } : Room) D cy 7 P129 0 0 129 [(0, .ref a0), (1, .int v17_1), (2, .int v129_2), (4, .int v17_2), (5, .long l129_5)] [] := by
        intro P129 v129_2 l129_5 I129 X129 W129 hv129_2 hv129_4 hq129_0 hq129_1 hq129_2 rel129_0 rel129_1 rel129_2
        have h39919 := X129.at ha0
        obtain ⟨b39920, e39921, h39922⟩ := I129.fld (h39919) 5 13 1002 rfl
        have hq129_2 := hq129_2 b39920 e39921
        refine g_aload_n C dX12_cutAll_129 rfl 0 rfl ?_
        obtain ⟨b39923, e39924, h39925⟩ := I129.fld (h39919) 4 13 1002 rfl
        refine g_getR C fi_X12_24 rfl e39924 (h39919).1 (h39919).2 dX12_cutAll_130 ?_
        refine g_iload_n C dX12_cutAll_133 rfl 1 rfl ?_
        refine g_iload_n C dX12_cutAll_134 rfl 2 rfl ?_
        refine g_iload C dX12_cutAll_135 3 rfl ?_
        refine s_isub C dX12_cutAll_137 (by show -2147483648 ≤ v129_2.toInt - v17_2.toInt ∧ v129_2.toInt - v17_2.toInt ≤ 2147483647; omega) (fun z39926 h39927 => ?_)
        have h39927 : z39926.toInt = v129_2.toInt - v17_2.toInt := h39927
        refine g_bipush (v := 8) C dX12_cutAll_138 (by decide) ?_
        refine b_icmp_le C 147 dX12_cutAll_140 (by decide) (fun h39928 => ?_) (fun h39928 => ?_)
        · have h39928 : z39926.toInt ≤ 8 := h39928
          refine g_iconst (v := 1) C dX12_cutAll_147 (by decide) ?_
          refine g_lv (lv' := [(0, .ref a0), (1, .int v17_1), (2, .int v129_2), (5, .long l129_5)]) [0, 1, 2, 4] rfl ?_
          exact J148 P129 v129_2 l129_5 1 b39923 I129 X129 W129 (by omega) (by decide) h39925 e39924 (by omega) (by omega) (fun b9 e9 => by rw [e39921] at e9; cases e9; omega) (by show v17_1.toInt < v129_2.toInt; omega) (by show v17_2.toInt < v129_2.toInt; omega)
        · have h39928 : 8 < z39926.toInt := h39928
          refine g_iconst (v := 4) C dX12_cutAll_143 (by decide) ?_
          refine g_goto C 148 dX12_cutAll_144 (by decide) ?_
          refine g_lv (lv' := [(0, .ref a0), (1, .int v17_1), (2, .int v129_2), (5, .long l129_5)]) [0, 1, 2, 4] rfl ?_
          exact J148 P129 v129_2 l129_5 4 b39923 I129 X129 W129 (by omega) (by decide) h39925 e39924 (by omega) (by omega) (fun b9 e9 => by rw [e39921] at e9; cases e9; omega) (by show v17_1.toInt < v129_2.toInt; omega) (by show v17_2.toInt < v129_2.toInt; omega)
      have J70 : ∀ (n70 : Nat) (P70 : PP) (v70_2 : Int32) (l70_5 : Int64), (1000 - v70_2.toInt).toNat < n70 → (IM P70 a0) → (EM [2, 3, 4, 5, 7, 8] a0 P P70) → (MW P70 a0) → (0 ≤ v70_2.toInt ∧ v70_2.toInt ≤ 1000) → (0 ≤ v17_2.toInt ∧ v17_2.toInt ≤ 999) → (0 ≤ (pI P70 a0 2).toInt ∧ (pI P70 a0 2).toInt ≤ 0) → (1 ≤ (pI P70 a0 3).toInt ∧ (pI P70 a0 3).toInt ≤ 1000) → (∀ b, pR P70 a0 5 = some b → 0 ≤ (pI P70 b (v17_1.toInt.toNat)).toInt ∧ (pI P70 b (v17_1.toInt.toNat)).toInt ≤ 999) → (v17_1.toInt ≤ v17_2.toInt) → (∀ b91, pR P70 a0 1 = some b91 → v17_2.toInt < v70_2.toInt ∨ (v17_2.toInt = v70_2.toInt ∧ v70_2.toInt < (pI P70 a0 3).toInt ∧ 97 ≤ (pI P70 b91 (v70_2.toInt.toNat)).toInt ∧ (pI P70 b91 (v70_2.toInt.toNat)).toInt ≤ 122)) → (v17_2.toInt = v17_2.toInt) → G E ({ frames := 3, cells := 0, slots := 0, locals := 192 } : Room) D cy 7 P70 0 0 70 [(0, .ref a0), (1, .int v17_1), (2, .int v70_2), (4, .int v17_2), (5, .long l70_5)] [] := by
        intro n70
        induction n70 with
        | zero => intro P70 v70_2 l70_5 hm70 I70 X70 W70 hv70_2 hv70_4 hq70_0 hq70_1 hq70_2 rel70_0 rel70_1 rel70_2; omega
        | succ n70 ih70 =>
          intro P70 v70_2 l70_5 hm70 I70 X70 W70 hv70_2 hv70_4 hq70_0 hq70_1 hq70_2 rel70_0 rel70_1 rel70_2
          have h39929 := X70.at ha0
          obtain ⟨b39930, e39931, h39932⟩ := I70.fld (h39929) 5 13 1002 rfl
          have hq70_2 := hq70_2 b39930 e39931
          obtain ⟨b39933, e39934, h39935⟩ := I70.fld (h39929) 1 13 1000 rfl
          have rel70_1 := rel70_1 b39933 e39934
          have J121 : ∀ (l121_s0 : Int64), (0 ≤ v70_2.toInt ∧ v70_2.toInt ≤ 999) → (0 ≤ v17_2.toInt ∧ v17_2.toInt ≤ 999) → (0 ≤ (pI P70 a0 2).toInt ∧ (pI P70 a0 2).toInt ≤ 0) → (1 ≤ (pI P70 a0 3).toInt ∧ (pI P70 a0 3).toInt ≤ 1000) → (∀ b, pR P70 a0 1 = some b → 97 ≤ (pI P70 b (v70_2.toInt.toNat)).toInt ∧ (pI P70 b (v70_2.toInt.toNat)).toInt ≤ 122) → (∀ b, pR P70 a0 5 = some b → 0 ≤ (pI P70 b (v17_1.toInt.toNat)).toInt ∧ (pI P70 b (v17_1.toInt.toNat)).toInt ≤ 999) → (v17_1.toInt ≤ v17_2.toInt) → (v17_2.toInt ≤ v70_2.toInt) → (v17_2.toInt = v17_2.toInt) → G E ({ frames := 3, cells := 0, slots := 0, locals := 192 } : Room) D cy 7 P70 0 0 121 [(0, .ref a0), (1, .int v17_1), (2, .int v70_2), (4, .int v17_2)] [.long l121_s0] := by
            intro l121_s0 hv121_2 hv121_4 hq121_0 hq121_1 hq121_2 hq121_3 rel121_0 rel121_1 rel121_2
            have h39936 := X70.at ha0
            obtain ⟨b39937, e39938, h39939⟩ := I70.fld (h39936) 1 13 1000 rfl
            have hq121_2 := hq121_2 b39937 e39938
            obtain ⟨b39940, e39941, h39942⟩ := I70.fld (h39936) 5 13 1002 rfl
            have hq121_3 := hq121_3 b39940 e39941
            refine g_lstore (lv' := [(5, .long l121_s0), (0, .ref a0), (1, .int v17_1), (2, .int v70_2), (4, .int v17_2)]) C dX12_cutAll_121 (by decide) rfl ?_
            refine s_iinc (lv0 := [(5, .long l121_s0), (0, .ref a0), (1, .int v17_1), (4, .int v17_2)]) (m := 1) C dX12_cutAll_123 3 rfl (by decide) rfl (by decide) (by omega) (fun z39943 h39944 => ?_)
            have h39944 : z39943.toInt = v70_2.toInt + 1 := h39944
            refine g_goto C 70 dX12_cutAll_126 (by decide) ?_
            refine g_lv (lv' := [(0, .ref a0), (1, .int v17_1), (2, .int z39943), (4, .int v17_2), (5, .long l121_s0)]) [2, 3, 0, 4, 1] rfl ?_
            exact ih70 P70 z39943 l121_s0 (by omega) I70 X70 W70 (by omega) (by omega) (by omega) (by omega) (fun b9 e9 => by rw [e39941] at e9; cases e9; omega) (by show v17_1.toInt ≤ v17_2.toInt; omega) (by intro b91 e91; rw [e39938] at e91; cases e91; show v17_2.toInt < z39943.toInt ∨ (v17_2.toInt = z39943.toInt ∧ z39943.toInt < (pI P70 a0 3).toInt ∧ 97 ≤ (pI P70 b39937 (z39943.toInt.toNat)).toInt ∧ (pI P70 b39937 (z39943.toInt.toNat)).toInt ≤ 122); omega) (by show v17_2.toInt = v17_2.toInt; omega)
          refine g_iload_n C dX12_cutAll_70 rfl 2 rfl ?_
          refine g_aload_n C dX12_cutAll_71 rfl 0 rfl ?_
          refine g_getI C fi_X12_140 (by decide) (h39929).1 (h39929).2 dX12_cutAll_72 ?_
          refine b_icmp_ge C 129 dX12_cutAll_75 (by decide) (fun h39945 => ?_) (fun h39945 => ?_)
          · have h39945 : (pI P70 a0 3).toInt ≤ v70_2.toInt := h39945
            exact J129 P70 v70_2 l70_5 I70 X70 W70 (by omega) (by omega) (by omega) (by omega) (fun b9 e9 => by rw [e39931] at e9; cases e9; omega) (by show v17_1.toInt ≤ v17_2.toInt; omega) (by show v17_2.toInt < v70_2.toInt; omega) (by show v17_2.toInt < v70_2.toInt; omega)
          · have h39945 : v70_2.toInt < (pI P70 a0 3).toInt := h39945
            refine g_aload_n C dX12_cutAll_78 rfl 0 rfl ?_
            refine g_getR C fi_X12_14 rfl e39934 (h39929).1 (h39929).2 dX12_cutAll_79 ?_
            refine g_iload_n C dX12_cutAll_82 rfl 2 rfl ?_
            refine g_iald (j := (v70_2.toInt.toNat)) C h39935.1 h39935.2.1 (ix_in h39935.2.2 (by omega)) dX12_cutAll_83 ?_
            refine g_callSI (b := 0) (ci := 0) (rest := []) C ms_X12_136 [.int (pI P70 b39933 (v70_2.toInt.toNat))] (s_X12_isLetter I70.1) rfl rfl (by decide) (Nat.le_of_ble_eq_true rfl) (by decide) dX12_cutAll_84 (fun r39946 Y39947 h39948 => ?_)
            obtain ⟨rfl, h39948⟩ := h39948
            obtain ⟨h39948, hi39949, hi39950⟩ := h39948
            have hi39949 : r39946.toInt = 0 ∨ (((97 : Int) ≤ (pI P70 b39933 (v70_2.toInt.toNat)).toInt ∧ (pI P70 b39933 (v70_2.toInt.toNat)).toInt ≤ (122 : Int))) := hi39949
            have hi39950 : r39946.toInt ≠ 0 ∨ (pI P70 b39933 (v70_2.toInt.toNat)).toInt < 97 ∨ 122 < (pI P70 b39933 (v70_2.toInt.toNat)).toInt := hi39950
            have h39948 : 0 ≤ r39946.toInt ∧ r39946.toInt ≤ 1 := h39948
            refine b_if_eq C 129 dX12_cutAll_87 (by decide) (fun h39951 => ?_) (fun h39951 => ?_)
            · have h39951 : r39946.toInt = 0 := congrArg Int32.toInt h39951
              clear hi39949
              exact J129 P70 v70_2 l70_5 I70 X70 W70 (by omega) (by omega) (by omega) (by omega) (fun b9 e9 => by rw [e39931] at e9; cases e9; omega) (by show v17_1.toInt ≤ v17_2.toInt; omega) (by show v17_2.toInt < v70_2.toInt; omega) (by show v17_2.toInt < v70_2.toInt; omega)
            · have h39951 : r39946.toInt ≠ 0 := ti_ne h39951
              replace hi39949 := hi39949.resolve_left (by omega)
              refine g_iload_n C dX12_cutAll_90 rfl 2 rfl ?_
              refine g_iload C dX12_cutAll_91 3 rfl ?_
              refine s_isub C dX12_cutAll_93 (by show -2147483648 ≤ v70_2.toInt - v17_2.toInt ∧ v70_2.toInt - v17_2.toInt ≤ 2147483647; omega) (fun z39952 h39953 => ?_)
              have h39953 : z39952.toInt = v70_2.toInt - v17_2.toInt := h39953
              refine g_bipush (v := 8) C dX12_cutAll_94 (by decide) ?_
              refine b_icmp_ge C 119 dX12_cutAll_96 (by decide) (fun h39954 => ?_) (fun h39954 => ?_)
              · have h39954 : 8 ≤ z39952.toInt := h39954
                refine g_lload C dX12_cutAll_119 4 rfl ?_
                refine g_lv (lv' := [(0, .ref a0), (1, .int v17_1), (2, .int v70_2), (4, .int v17_2)]) [0, 1, 2, 3] rfl ?_
                exact J121 l70_5 (by omega) (by omega) (by omega) (by omega) (fun b9 e9 => by rw [e39934] at e9; cases e9; omega) (fun b9 e9 => by rw [e39931] at e9; cases e9; omega) (by show v17_1.toInt ≤ v17_2.toInt; omega) (by show v17_2.toInt ≤ v70_2.toInt; omega) (by show v17_2.toInt = v17_2.toInt; omega)
              · have h39954 : z39952.toInt < 8 := h39954
                refine g_ldc2 (v := 37) C kl_X12_143 dX12_cutAll_99 ?_
                refine g_topl (fun l39955 el39955 => ?_)
                have hz_l39955 : ¬ l39955 = 0 := by rw [el39955]; decide
                refine g_lload C dX12_cutAll_102 4 rfl ?_
                refine a_lmul C dX12_cutAll_104 (fun l39956 => ?_)
                refine g_aload_n C dX12_cutAll_105 rfl 0 rfl ?_
                refine g_getR C fi_X12_14 rfl e39934 (h39929).1 (h39929).2 dX12_cutAll_106 ?_
                refine g_iload_n C dX12_cutAll_109 rfl 2 rfl ?_
                refine g_iald (j := (v70_2.toInt.toNat)) C h39935.1 h39935.2.1 (ix_in h39935.2.2 (by omega)) dX12_cutAll_110 ?_
                refine g_callSI (b := 0) (ci := 0) (rest := [.long l39956]) C ms_X12_145 [.int (pI P70 b39933 (v70_2.toInt.toNat))] (s_X12_rank I70.1) rfl rfl (by decide) (Nat.le_of_ble_eq_true rfl) (by decide) dX12_cutAll_111 (fun r39957 Y39958 h39959 => ?_)
                obtain ⟨rfl, h39959⟩ := h39959
                have h39959 : True := h39959
                refine a_i2l C dX12_cutAll_114 (fun l39960 => ?_)
                refine a_ladd C dX12_cutAll_115 (fun l39961 => ?_)
                refine g_goto C 121 dX12_cutAll_116 (by decide) ?_
                refine g_lv (lv' := [(0, .ref a0), (1, .int v17_1), (2, .int v70_2), (4, .int v17_2)]) [0, 1, 2, 3] rfl ?_
                exact J121 l39961 (by omega) (by omega) (by omega) (by omega) (fun b9 e9 => by rw [e39934] at e9; cases e9; omega) (fun b9 e9 => by rw [e39931] at e9; cases e9; omega) (by show v17_1.toInt ≤ v17_2.toInt; omega) (by show v17_2.toInt ≤ v70_2.toInt; omega) (by show v17_2.toInt = v17_2.toInt; omega)
      have J44 : (0 ≤ v17_2.toInt ∧ v17_2.toInt ≤ 999) → (0 ≤ (pI P17 a0 2).toInt ∧ (pI P17 a0 2).toInt ≤ 0) → (1 ≤ (pI P17 a0 3).toInt ∧ (pI P17 a0 3).toInt ≤ 1000) → G E ({ frames := 3, cells := 0, slots := 0, locals := 192 } : Room) D cy 7 P17 0 0 44 [(0, .ref a0), (1, .int v17_1), (2, .int v17_2)] [] := by
        intro hv44_2 hq44_0 hq44_1
        have h39962 := X17.at ha0
        refine s_iinc (lv0 := [(0, .ref a0), (1, .int v17_1)]) (m := 1) C dX12_cutAll_44 2 rfl (by decide) rfl (by decide) (by omega) (fun z39963 h39964 => ?_)
        have h39964 : z39963.toInt = v17_2.toInt + 1 := h39964
        refine g_goto C 17 dX12_cutAll_47 (by decide) ?_
        refine g_lv (lv' := [(0, .ref a0), (1, .int v17_1), (2, .int z39963)]) [1, 2, 0] rfl ?_
        exact ih17 P17 v17_1 z39963 (by omega) I17 X17 W17 (by omega) (by omega) (by omega) (by show v17_1.toInt ≤ z39963.toInt; omega)
      refine g_iload_n C dX12_cutAll_17 rfl 2 rfl ?_
      refine g_aload_n C dX12_cutAll_18 rfl 0 rfl ?_
      refine g_getI C fi_X12_140 (by decide) (h39794).1 (h39794).2 dX12_cutAll_19 ?_
      have h39965 := I17.rg (h39794) 3 rfl
      refine b_icmp_ge C 279 dX12_cutAll_22 (by decide) (fun h39966 => ?_) (fun h39966 => ?_)
      · have h39966 : (pI P17 a0 3).toInt ≤ v17_2.toInt := h39966
        refine g_aload_n C dX12_cutAll_279 rfl 0 rfl ?_
        obtain ⟨b39967, e39968, h39969⟩ := I17.fld (h39794) 4 13 1002 rfl
        refine g_getR C fi_X12_24 rfl e39968 (h39794).1 (h39794).2 dX12_cutAll_280 ?_
        refine g_iload_n C dX12_cutAll_283 rfl 1 rfl ?_
        refine g_iconst (v := 0) C dX12_cutAll_284 (by decide) ?_
        refine g_iast (j := (v17_1.toInt.toNat)) C h39969.1 h39969.2.1 (ix_in h39969.2.2 (by omega)) dX12_cutAll_285 ?_
        refine gqW (ks := [4]) (I17.setA e39968 h39969 (by decide) (arOk.of rfl (by decide))) (EM.setA I17 e39968 rfl (by decide)) (fun Y39970 Iy39971 Xy39972 w39973 => ?_)
        have w39973 : (pI Y39970 b39967 (v17_1.toInt.toNat)).toInt = 0 := w39973
        have q39974 := Xy39972.keepF 2 (by decide)
        have q39975 := Xy39972.keepF 3 (by decide)
        have W39976 := W17.keep I17 Xy39972 (by decide) (by decide) (by decide)
        have Xz39977 : EM [2, 3, 4, 5, 7, 8] a0 P Y39970 := EM.tr ha0 X17 (Xy39972.mono (by decide))
        have e39978 := Xy39972.ref h39794 (by decide) e39968
        have h39979 := Xy39972.at h39794
        have h39980 := Xy39972.ar h39969
        refine g_aload_n C dX12_cutAll_286 rfl 0 rfl ?_
        obtain ⟨b39981, e39982, h39983⟩ := Iy39971.fld (h39979) 5 13 1002 rfl
        refine g_getR C fi_X12_27 rfl e39982 (h39979).1 (h39979).2 dX12_cutAll_287 ?_
        refine g_iload_n C dX12_cutAll_290 rfl 1 rfl ?_
        refine g_aload_n C dX12_cutAll_291 rfl 0 rfl ?_
        refine g_getI C fi_X12_140 (by decide) (h39979).1 (h39979).2 dX12_cutAll_292 ?_
        refine g_iast (j := (v17_1.toInt.toNat)) C h39983.1 h39983.2.1 (ix_in h39983.2.2 (by omega)) dX12_cutAll_295 ?_
        refine gqW (ks := [5]) (Iy39971.setA e39982 h39983 (by decide) (arOk.of rfl (by omega))) (EM.setA Iy39971 e39982 rfl (by decide)) (fun Y39984 Iy39985 Xy39986 w39987 => ?_)
        have w39987 : (pI Y39984 b39981 (v17_1.toInt.toNat)).toInt = (pI Y39970 a0 3).toInt := w39987
        have q39988 := Xy39986.keepF 2 (by decide)
        have q39989 := Xy39986.keepF 3 (by decide)
        have q39990 := Xy39986.keepA e39978 (by decide) rfl (v17_1.toInt.toNat)
        have W39991 := W39976.keep Iy39971 Xy39986 (by decide) (by decide) (by decide)
        have Xz39992 : EM [2, 3, 4, 5, 7, 8] a0 P Y39984 := EM.tr ha0 Xz39977 (Xy39986.mono (by decide))
        have e39993 := Xy39986.ref h39979 (by decide) e39978
        have e39994 := Xy39986.ref h39979 (by decide) e39982
        have h39995 := Xy39986.at h39979
        have h39996 := Xy39986.ar h39980
        have h39997 := Xy39986.ar h39983
        refine g_aload_n C dX12_cutAll_296 rfl 0 rfl ?_
        refine g_iconst (v := 0) C dX12_cutAll_297 (by decide) ?_
        refine g_putI C fi_X12_159 rfl (h39995).1 (h39995).2 dX12_cutAll_298 ?_
        refine gqW (ks := [7]) (Iy39985.setI (rgOk.of rfl (by decide))) (EM.setI Iy39985 (by decide)) (fun Y39998 Iy39999 Xy40000 w40001 => ?_)
        have w40001 : (pI Y39998 a0 7).toInt = 0 := w40001
        have q40002 := Xy40000.keepF 2 (by decide)
        have q40003 := Xy40000.keepF 3 (by decide)
        have q40004 := Xy40000.keepA e39993 (by decide) rfl (v17_1.toInt.toNat)
        have q40005 := Xy40000.keepA e39994 (by decide) rfl (v17_1.toInt.toNat)
        have W40006 := W39991.keep Iy39985 Xy40000 (by decide) (by decide) (by decide)
        have Xz40007 : EM [2, 3, 4, 5, 7, 8] a0 P Y39998 := EM.tr ha0 Xz39992 (Xy40000.mono (by decide))
        have e40008 := Xy40000.ref h39995 (by decide) e39993
        have e40009 := Xy40000.ref h39995 (by decide) e39994
        have h40010 := Xy40000.at h39995
        have h40011 := Xy40000.ar h39996
        have h40012 := Xy40000.ar h39997
        refine g_aload_n C dX12_cutAll_301 rfl 0 rfl ?_
        refine g_iconst (v := 0) C dX12_cutAll_302 (by decide) ?_
        refine g_putI C fi_X12_162 rfl (h40010).1 (h40010).2 dX12_cutAll_303 ?_
        refine gqW (ks := [8]) (Iy39999.setI (rgOk.of rfl (by decide))) (EM.setI Iy39999 (by decide)) (fun Y40013 Iy40014 Xy40015 w40016 => ?_)
        have w40016 : (pI Y40013 a0 8).toInt = 0 := w40016
        have q40017 := Xy40015.keepF 2 (by decide)
        have q40018 := Xy40015.keepF 3 (by decide)
        have q40019 := Xy40015.keepA e40008 (by decide) rfl (v17_1.toInt.toNat)
        have q40020 := Xy40015.keepA e40009 (by decide) rfl (v17_1.toInt.toNat)
        have q40021 := Xy40015.keepF 7 (by decide)
        have W40022 := W40006.keep Iy39999 Xy40015 (by decide) (by decide) (by decide)
        have Xz40023 : EM [2, 3, 4, 5, 7, 8] a0 P Y40013 := EM.tr ha0 Xz40007 (Xy40015.mono (by decide))
        have e40024 := Xy40015.ref h40010 (by decide) e40008
        have e40025 := Xy40015.ref h40010 (by decide) e40009
        have h40026 := Xy40015.at h40010
        have h40027 := Xy40015.ar h40011
        have h40028 := Xy40015.ar h40012
        exact ret _ _ _ _ _ dX12_cutAll_306 (by decide) (by decide) ⟨Iy40014, Xz40023, W40022⟩
      · have h39966 : v17_2.toInt < (pI P17 a0 3).toInt := h39966
        refine g_aload_n C dX12_cutAll_25 rfl 0 rfl ?_
        obtain ⟨b40029, e40030, h40031⟩ := I17.fld (h39794) 1 13 1000 rfl
        refine g_getR C fi_X12_14 rfl e40030 (h39794).1 (h39794).2 dX12_cutAll_26 ?_
        refine g_iload_n C dX12_cutAll_29 rfl 2 rfl ?_
        refine g_iald (j := (v17_2.toInt.toNat)) C h40031.1 h40031.2.1 (ix_in h40031.2.2 (by omega)) dX12_cutAll_30 ?_
        refine g_topi (fun z40032 h40033 => ?_)
        have h40033 : z40032.toInt = (pI P17 b40029 (v17_2.toInt.toNat)).toInt := congrArg Int32.toInt h40033
        refine g_istore_n (lv' := [(3, .int z40032), (0, .ref a0), (1, .int v17_1), (2, .int v17_2)]) C dX12_cutAll_31 rfl (by decide) rfl ?_
        refine g_iload_n C dX12_cutAll_32 rfl 0 rfl ?_
        refine g_bipush (v := 10) C dX12_cutAll_33 (by decide) ?_
        have u40035 := ti_rng z40032
        refine b_icmp_eq C 44 dX12_cutAll_35 (by decide) (fun h40034 => ?_) (fun h40034 => ?_)
        · have h40034 : z40032.toInt = 10 := congrArg Int32.toInt h40034
          refine g_lv (lv' := [(0, .ref a0), (1, .int v17_1), (2, .int v17_2)]) [1, 2, 3] rfl ?_
          exact J44 (by omega) (by omega) (by omega)
        · have h40034 : z40032.toInt ≠ 10 := ti_ne h40034
          refine g_iload_n C dX12_cutAll_38 rfl 0 rfl ?_
          refine g_bipush (v := 32) C dX12_cutAll_39 (by decide) ?_
          have u40037 := ti_rng z40032
          refine b_icmp_ne C 50 dX12_cutAll_41 (by decide) (fun h40036 => ?_) (fun h40036 => ?_)
          · have h40036 : z40032.toInt ≠ 32 := ti_ne h40036
            refine g_iload_n C dX12_cutAll_50 rfl 3 rfl ?_
            refine g_istore (lv' := [(4, .int v17_2), (3, .int z40032), (0, .ref a0), (1, .int v17_1), (2, .int v17_2)]) C dX12_cutAll_51 (by decide) rfl ?_
            refine g_lconst (v := 0) C dX12_cutAll_53 (by decide) ?_
            refine g_lstore (lv' := [(5, .long 0), (4, .int v17_2), (3, .int z40032), (0, .ref a0), (1, .int v17_1), (2, .int v17_2)]) C dX12_cutAll_54 (by decide) rfl ?_
            refine g_aload_n C dX12_cutAll_56 rfl 3 rfl ?_
            obtain ⟨b40038, e40039, h40040⟩ := I17.fld (h39794) 5 13 1002 rfl
            refine g_getR C fi_X12_27 rfl e40039 (h39794).1 (h39794).2 dX12_cutAll_57 ?_
            refine g_iload_n C dX12_cutAll_60 rfl 4 rfl ?_
            refine g_iload_n C dX12_cutAll_61 rfl 5 rfl ?_
            refine g_iast (j := (v17_1.toInt.toNat)) C h40040.1 h40040.2.1 (ix_in h40040.2.2 (by omega)) dX12_cutAll_62 ?_
            refine gqW (ks := [5]) (I17.setA e40039 h40040 (by decide) (arOk.of rfl (by omega))) (EM.setA I17 e40039 rfl (by decide)) (fun Y40041 Iy40042 Xy40043 w40044 => ?_)
            have w40044 : (pI Y40041 b40038 (v17_1.toInt.toNat)).toInt = v17_2.toInt := w40044
            have q40045 := Xy40043.keepF 2 (by decide)
            have q40046 := Xy40043.keepF 3 (by decide)
            have q40047 := Xy40043.keepA e40030 (by decide) rfl (v17_2.toInt.toNat)
            have W40048 := W17.keep I17 Xy40043 (by decide) (by decide) (by decide)
            have Xz40049 : EM [2, 3, 4, 5, 7, 8] a0 P Y40041 := EM.tr ha0 X17 (Xy40043.mono (by decide))
            have e40050 := Xy40043.ref h39794 (by decide) e40030
            have e40051 := Xy40043.ref h39794 (by decide) e40039
            have h40052 := Xy40043.at h39794
            have h40053 := Xy40043.ar h40031
            have h40054 := Xy40043.ar h40040
            refine g_iload_n C dX12_cutAll_63 rfl 2 rfl ?_
            refine g_callSI (b := 0) (ci := 0) (rest := []) C ms_X12_136 [.int z40032] (s_X12_isLetter Iy40042.1) rfl rfl (by decide) (Nat.le_of_ble_eq_true rfl) (by decide) dX12_cutAll_64 (fun r40055 Y40056 h40057 => ?_)
            obtain ⟨rfl, h40057⟩ := h40057
            obtain ⟨h40057, hi40058, hi40059⟩ := h40057
            have hi40058 : r40055.toInt = 0 ∨ (((97 : Int) ≤ z40032.toInt ∧ z40032.toInt ≤ (122 : Int))) := hi40058
            have hi40059 : r40055.toInt ≠ 0 ∨ z40032.toInt < 97 ∨ 122 < z40032.toInt := hi40059
            have h40057 : 0 ≤ r40055.toInt ∧ r40055.toInt ≤ 1 := h40057
            refine b_if_eq C 152 dX12_cutAll_67 (by decide) (fun h40060 => ?_) (fun h40060 => ?_)
            · have h40060 : r40055.toInt = 0 := congrArg Int32.toInt h40060
              clear hi40058
              refine g_iload_n C dX12_cutAll_152 rfl 2 rfl ?_
              refine g_callSI (b := 0) (ci := 0) (rest := []) C ms_X12_149 [.int z40032] (s_X12_isDigit Iy40042.1) rfl rfl (by decide) (Nat.le_of_ble_eq_true rfl) (by decide) dX12_cutAll_153 (fun r40061 Y40062 h40063 => ?_)
              obtain ⟨rfl, h40063⟩ := h40063
              obtain ⟨h40063, hi40064, hi40065⟩ := h40063
              have hi40064 : r40061.toInt = 0 ∨ (((48 : Int) ≤ z40032.toInt ∧ z40032.toInt ≤ (57 : Int))) := hi40064
              have hi40065 : r40061.toInt ≠ 0 ∨ z40032.toInt < 48 ∨ 57 < z40032.toInt := hi40065
              have h40063 : 0 ≤ r40061.toInt ∧ r40061.toInt ≤ 1 := h40063
              refine b_if_eq C 240 dX12_cutAll_156 (by decide) (fun h40066 => ?_) (fun h40066 => ?_)
              · have h40066 : r40061.toInt = 0 := congrArg Int32.toInt h40066
                clear hi40064
                refine g_iload_n C dX12_cutAll_240 rfl 2 rfl ?_
                refine a_i2l C dX12_cutAll_241 (fun l40067 => ?_)
                refine g_lstore (lv' := [(5, .long l40067), (4, .int v17_2), (3, .int z40032), (0, .ref a0), (1, .int v17_1), (2, .int v17_2)]) C dX12_cutAll_242 (by decide) rfl ?_
                refine g_aload_n C dX12_cutAll_244 rfl 3 rfl ?_
                obtain ⟨b40068, e40069, h40070⟩ := Iy40042.fld (h40052) 4 13 1002 rfl
                refine g_getR C fi_X12_24 rfl e40069 (h40052).1 (h40052).2 dX12_cutAll_245 ?_
                refine g_iload_n C dX12_cutAll_248 rfl 4 rfl ?_
                refine g_iload_n C dX12_cutAll_249 rfl 2 rfl ?_
                refine g_callSI (b := 0) (ci := 0) (rest := [.int v17_1, .ref b40068]) C ms_X12_156 [.int z40032] (s_X12_isSignOf Iy40042.1) rfl rfl (by decide) (Nat.le_of_ble_eq_true rfl) (by decide) dX12_cutAll_250 (fun r40071 Y40072 h40073 => ?_)
                obtain ⟨rfl, h40073⟩ := h40073
                obtain ⟨h40073, hi40074⟩ := h40073
                have hi40074 : r40071.toInt = 0 ∨ (((59 : Int) ≤ z40032.toInt ∧ z40032.toInt ≤ (59 : Int))) := hi40074
                have h40073 : 0 ≤ r40071.toInt ∧ r40071.toInt ≤ 1 := h40073
                refine b_if_eq C 260 dX12_cutAll_253 (by decide) (fun h40075 => ?_) (fun h40075 => ?_)
                · have h40075 : r40071.toInt = 0 := congrArg Int32.toInt h40075
                  clear hi40074
                  refine g_iconst (v := 4) C dX12_cutAll_260 (by decide) ?_
                  refine g_lv (lv' := [(0, .ref a0), (1, .int v17_1), (2, .int v17_2), (5, .long l40067)]) [3, 4, 5, 0] rfl ?_
                  exact J261 Y40041 l40067 4 b40068 Iy40042 Xz40049 W40048 (by omega) (by decide) h40070 e40069 (by omega) (by omega) (fun b9 e9 => by rw [e40051] at e9; cases e9; omega) (by show v17_1.toInt ≤ v17_2.toInt; omega) (by show v17_2.toInt = v17_2.toInt; omega)
                · have h40075 : r40071.toInt ≠ 0 := ti_ne h40075
                  replace hi40074 := hi40074.resolve_left (by omega)
                  refine g_iconst (v := 3) C dX12_cutAll_256 (by decide) ?_
                  refine g_goto C 261 dX12_cutAll_257 (by decide) ?_
                  refine g_lv (lv' := [(0, .ref a0), (1, .int v17_1), (2, .int v17_2), (5, .long l40067)]) [3, 4, 5, 0] rfl ?_
                  exact J261 Y40041 l40067 3 b40068 Iy40042 Xz40049 W40048 (by omega) (by decide) h40070 e40069 (by omega) (by omega) (fun b9 e9 => by rw [e40051] at e9; cases e9; omega) (by show v17_1.toInt ≤ v17_2.toInt; omega) (by show v17_2.toInt = v17_2.toInt; omega)
              · have h40066 : r40061.toInt ≠ 0 := ti_ne h40066
                replace hi40064 := hi40064.resolve_left (by omega)
                refine g_lv (lv' := [(0, .ref a0), (1, .int v17_1), (2, .int v17_2), (4, .int v17_2), (5, .long 0)]) [3, 4, 5, 1, 0] rfl ?_
                exact J159 _ Y40041 v17_2 0 (Nat.lt_succ_self _) Iy40042 Xz40049 W40048 (by omega) (by omega) (by omega) (by omega) (fun b9 e9 => by rw [e40051] at e9; cases e9; omega) (by show v17_1.toInt ≤ v17_2.toInt; omega) (by intro b91 e91; rw [e40050] at e91; cases e91; show v17_2.toInt < v17_2.toInt ∨ (v17_2.toInt = v17_2.toInt ∧ v17_2.toInt < (pI Y40041 a0 3).toInt ∧ 48 ≤ (pI Y40041 b40029 (v17_2.toInt.toNat)).toInt ∧ (pI Y40041 b40029 (v17_2.toInt.toNat)).toInt ≤ 57); omega) (by show v17_2.toInt = v17_2.toInt; omega)
            · have h40060 : r40055.toInt ≠ 0 := ti_ne h40060
              replace hi40058 := hi40058.resolve_left (by omega)
              refine g_lv (lv' := [(0, .ref a0), (1, .int v17_1), (2, .int v17_2), (4, .int v17_2), (5, .long 0)]) [3, 4, 5, 1, 0] rfl ?_
              exact J70 _ Y40041 v17_2 0 (Nat.lt_succ_self _) Iy40042 Xz40049 W40048 (by omega) (by omega) (by omega) (by omega) (fun b9 e9 => by rw [e40051] at e9; cases e9; omega) (by show v17_1.toInt ≤ v17_2.toInt; omega) (by intro b91 e91; rw [e40050] at e91; cases e91; show v17_2.toInt < v17_2.toInt ∨ (v17_2.toInt = v17_2.toInt ∧ v17_2.toInt < (pI Y40041 a0 3).toInt ∧ 97 ≤ (pI Y40041 b40029 (v17_2.toInt.toNat)).toInt ∧ (pI Y40041 b40029 (v17_2.toInt.toNat)).toInt ≤ 122); omega) (by show v17_2.toInt = v17_2.toInt; omega)
          · have h40036 : z40032.toInt = 32 := congrArg Int32.toInt h40036
            refine g_lv (lv' := [(0, .ref a0), (1, .int v17_1), (2, .int v17_2)]) [1, 2, 3] rfl ?_
            exact J44 (by omega) (by omega) (by omega)
  refine g_aload_n C dX12_cutAll_0 rfl 0 rfl ?_
  refine g_aload_n C dX12_cutAll_1 rfl 0 rfl ?_
  refine g_getI C fi_X12_11 (by decide) (ha0).1 (ha0).2 dX12_cutAll_2 ?_
  have h40076 := I.rg (ha0) 2 rfl
  refine g_putI C fi_X12_140 rfl (ha0).1 (ha0).2 dX12_cutAll_5 ?_
  refine gqW (ks := [3]) (I.setI (rgOk.of rfl (by omega))) (EM.setI I (by decide)) (fun Y40077 Iy40078 Xy40079 w40080 => ?_)
  have w40080 : (pI Y40077 a0 3).toInt = (pI P a0 2).toInt := w40080
  have q40081 := Xy40079.keepF 2 (by decide)
  have W40082 := hW.keep I Xy40079 (by decide) (by decide) (by decide)
  have Xz40083 : EM [2, 3, 4, 5, 7, 8] a0 P Y40077 := Xy40079.mono (by decide)
  have h40084 := Xy40079.at ha0
  refine g_aload_n C dX12_cutAll_8 rfl 0 rfl ?_
  refine g_iconst (v := 0) C dX12_cutAll_9 (by decide) ?_
  refine g_putI C fi_X12_11 rfl (h40084).1 (h40084).2 dX12_cutAll_10 ?_
  refine gqW (ks := [2]) (Iy40078.setI (rgOk.of rfl (by decide))) (EM.setI Iy40078 (by decide)) (fun Y40085 Iy40086 Xy40087 w40088 => ?_)
  have w40088 : (pI Y40085 a0 2).toInt = 0 := w40088
  have q40089 := Xy40087.keepF 3 (by decide)
  have W40090 := W40082.keep Iy40078 Xy40087 (by decide) (by decide) (by decide)
  have Xz40091 : EM [2, 3, 4, 5, 7, 8] a0 P Y40085 := EM.tr ha0 Xz40083 (Xy40087.mono (by decide))
  have h40092 := Xy40087.at h40084
  refine g_iconst (v := 0) C dX12_cutAll_13 (by decide) ?_
  refine g_istore_n (lv' := [(1, .int 0), (0, .ref a0)]) C dX12_cutAll_14 rfl (by decide) rfl ?_
  refine g_iconst (v := 0) C dX12_cutAll_15 (by decide) ?_
  refine g_istore_n (lv' := [(2, .int 0), (1, .int 0), (0, .ref a0)]) C dX12_cutAll_16 rfl (by decide) rfl ?_
  refine g_lv (lv' := [(0, .ref a0), (1, .int 0), (2, .int 0)]) [2, 1, 0] rfl ?_
  exact J17 _ Y40085 0 0 (Nat.lt_succ_self _) Iy40086 Xz40091 W40090 (by decide) (by decide) (by omega) (by show 0 ≤ 0; omega)
theorem dX12_degree_0 : decode cX12_degree 0 = .ok (.aload_n 0, 1) := by decide +kernel
theorem dX12_degree_1 : decode cX12_degree 1 = .ok (.iconst 0, 1) := by decide +kernel
theorem dX12_degree_2 : decode cX12_degree 2 = .ok (.putfield 1, 3) := by decide +kernel
theorem dX12_degree_5 : decode cX12_degree 5 = .ok (.aload_n 0, 1) := by decide +kernel
theorem dX12_degree_6 : decode cX12_degree 6 = .ok (.iload_n 1, 1) := by decide +kernel
theorem dX12_degree_7 : decode cX12_degree 7 = .ok (.iload_n 2, 1) := by decide +kernel
theorem dX12_degree_8 : decode cX12_degree 8 = .ok (.iload 4, 2) := by decide +kernel
theorem dX12_degree_10 : decode cX12_degree 10 = .ok (.invokevirtual 377, 3) := by decide +kernel
theorem dX12_degree_13 : decode cX12_degree 13 = .ok (.ifCond .eq 12, 3) := by decide +kernel
theorem dX12_degree_16 : decode cX12_degree 16 = .ok (.iload_n 3, 1) := by decide +kernel
theorem dX12_degree_17 : decode cX12_degree 17 = .ok (.iconst 0, 1) := by decide +kernel
theorem dX12_degree_18 : decode cX12_degree 18 = .ok (.iload_n 2, 1) := by decide +kernel
theorem dX12_degree_19 : decode cX12_degree 19 = .ok (.invokestatic 178, 3) := by decide +kernel
theorem dX12_degree_22 : decode cX12_degree 22 = .ok (.ifCond .ne 5, 3) := by decide +kernel
theorem dX12_degree_25 : decode cX12_degree 25 = .ok (.iconst (-1), 1) := by decide +kernel
theorem dX12_degree_26 : decode cX12_degree 26 = .ok (.ireturn, 1) := by decide +kernel
theorem dX12_degree_27 : decode cX12_degree 27 = .ok (.iconst 0, 1) := by decide +kernel
theorem dX12_degree_28 : decode cX12_degree 28 = .ok (.istore 5, 2) := by decide +kernel
theorem dX12_degree_30 : decode cX12_degree 30 = .ok (.iload 5, 2) := by decide +kernel
theorem dX12_degree_32 : decode cX12_degree 32 = .ok (.bipush 21, 2) := by decide +kernel
theorem dX12_degree_34 : decode cX12_degree 34 = .ok (.if_icmp .ge 41, 3) := by decide +kernel
theorem dX12_degree_37 : decode cX12_degree 37 = .ok (.aload_n 0, 1) := by decide +kernel
theorem dX12_degree_38 : decode cX12_degree 38 = .ok (.getfield 124, 3) := by decide +kernel
theorem dX12_degree_41 : decode cX12_degree 41 = .ok (.iload 5, 2) := by decide +kernel
theorem dX12_degree_43 : decode cX12_degree 43 = .ok (.aload_n 0, 1) := by decide +kernel
theorem dX12_degree_44 : decode cX12_degree 44 = .ok (.getfield 51, 3) := by decide +kernel
theorem dX12_degree_47 : decode cX12_degree 47 = .ok (.bipush 21, 2) := by decide +kernel
theorem dX12_degree_49 : decode cX12_degree 49 = .ok (.iload_n 1, 1) := by decide +kernel
theorem dX12_degree_50 : decode cX12_degree 50 = .ok (.imul, 1) := by decide +kernel
theorem dX12_degree_51 : decode cX12_degree 51 = .ok (.iload 5, 2) := by decide +kernel
theorem dX12_degree_53 : decode cX12_degree 53 = .ok (.iadd, 1) := by decide +kernel
theorem dX12_degree_54 : decode cX12_degree 54 = .ok (.iaload, 1) := by decide +kernel
theorem dX12_degree_55 : decode cX12_degree 55 = .ok (.iastore, 1) := by decide +kernel
theorem dX12_degree_56 : decode cX12_degree 56 = .ok (.aload_n 0, 1) := by decide +kernel
theorem dX12_degree_57 : decode cX12_degree 57 = .ok (.getfield 51, 3) := by decide +kernel
theorem dX12_degree_60 : decode cX12_degree 60 = .ok (.bipush 21, 2) := by decide +kernel
theorem dX12_degree_62 : decode cX12_degree 62 = .ok (.iload_n 1, 1) := by decide +kernel
theorem dX12_degree_63 : decode cX12_degree 63 = .ok (.imul, 1) := by decide +kernel
theorem dX12_degree_64 : decode cX12_degree 64 = .ok (.iload 5, 2) := by decide +kernel
theorem dX12_degree_66 : decode cX12_degree 66 = .ok (.iadd, 1) := by decide +kernel
theorem dX12_degree_67 : decode cX12_degree 67 = .ok (.iconst (-1), 1) := by decide +kernel
theorem dX12_degree_68 : decode cX12_degree 68 = .ok (.iastore, 1) := by decide +kernel
theorem dX12_degree_69 : decode cX12_degree 69 = .ok (.iinc 5 1, 3) := by decide +kernel
theorem dX12_degree_72 : decode cX12_degree 72 = .ok (.goto (-42), 3) := by decide +kernel
theorem dX12_degree_75 : decode cX12_degree 75 = .ok (.iconst (-1), 1) := by decide +kernel
theorem dX12_degree_76 : decode cX12_degree 76 = .ok (.istore 5, 2) := by decide +kernel
theorem dX12_degree_78 : decode cX12_degree 78 = .ok (.iconst (-1), 1) := by decide +kernel
theorem dX12_degree_79 : decode cX12_degree 79 = .ok (.istore 6, 2) := by decide +kernel
theorem dX12_degree_81 : decode cX12_degree 81 = .ok (.iconst 1, 1) := by decide +kernel
theorem dX12_degree_82 : decode cX12_degree 82 = .ok (.istore 7, 2) := by decide +kernel
theorem dX12_degree_84 : decode cX12_degree 84 = .ok (.iload 7, 2) := by decide +kernel
theorem dX12_degree_86 : decode cX12_degree 86 = .ok (.aload_n 0, 1) := by decide +kernel
theorem dX12_degree_87 : decode cX12_degree 87 = .ok (.iload_n 1, 1) := by decide +kernel
theorem dX12_degree_88 : decode cX12_degree 88 = .ok (.invokevirtual 238, 3) := by decide +kernel
theorem dX12_degree_91 : decode cX12_degree 91 = .ok (.if_icmp .gt 67, 3) := by decide +kernel
theorem dX12_degree_94 : decode cX12_degree 94 = .ok (.aload_n 0, 1) := by decide +kernel
theorem dX12_degree_95 : decode cX12_degree 95 = .ok (.getfield 51, 3) := by decide +kernel
theorem dX12_degree_98 : decode cX12_degree 98 = .ok (.bipush 21, 2) := by decide +kernel
theorem dX12_degree_100 : decode cX12_degree 100 = .ok (.iload_n 1, 1) := by decide +kernel
theorem dX12_degree_101 : decode cX12_degree 101 = .ok (.imul, 1) := by decide +kernel
theorem dX12_degree_102 : decode cX12_degree 102 = .ok (.iload 7, 2) := by decide +kernel
theorem dX12_degree_104 : decode cX12_degree 104 = .ok (.iadd, 1) := by decide +kernel
theorem dX12_degree_105 : decode cX12_degree 105 = .ok (.iconst 1, 1) := by decide +kernel
theorem dX12_degree_106 : decode cX12_degree 106 = .ok (.iastore, 1) := by decide +kernel
theorem dX12_degree_107 : decode cX12_degree 107 = .ok (.aload_n 0, 1) := by decide +kernel
theorem dX12_degree_108 : decode cX12_degree 108 = .ok (.iload_n 1, 1) := by decide +kernel
theorem dX12_degree_109 : decode cX12_degree 109 = .ok (.iload_n 2, 1) := by decide +kernel
theorem dX12_degree_110 : decode cX12_degree 110 = .ok (.invokevirtual 380, 3) := by decide +kernel
theorem dX12_degree_113 : decode cX12_degree 113 = .ok (.aload_n 0, 1) := by decide +kernel
theorem dX12_degree_114 : decode cX12_degree 114 = .ok (.iload_n 1, 1) := by decide +kernel
theorem dX12_degree_115 : decode cX12_degree 115 = .ok (.iload_n 2, 1) := by decide +kernel
theorem dX12_degree_116 : decode cX12_degree 116 = .ok (.iload_n 3, 1) := by decide +kernel
theorem dX12_degree_117 : decode cX12_degree 117 = .ok (.iload 4, 2) := by decide +kernel
theorem dX12_degree_119 : decode cX12_degree 119 = .ok (.invokevirtual 383, 3) := by decide +kernel
theorem dX12_degree_122 : decode cX12_degree 122 = .ok (.istore 8, 2) := by decide +kernel
theorem dX12_degree_124 : decode cX12_degree 124 = .ok (.aload_n 0, 1) := by decide +kernel
theorem dX12_degree_125 : decode cX12_degree 125 = .ok (.getfield 51, 3) := by decide +kernel
theorem dX12_degree_128 : decode cX12_degree 128 = .ok (.bipush 21, 2) := by decide +kernel
theorem dX12_degree_130 : decode cX12_degree 130 = .ok (.iload_n 1, 1) := by decide +kernel
theorem dX12_degree_131 : decode cX12_degree 131 = .ok (.imul, 1) := by decide +kernel
theorem dX12_degree_132 : decode cX12_degree 132 = .ok (.iload 7, 2) := by decide +kernel
theorem dX12_degree_134 : decode cX12_degree 134 = .ok (.iadd, 1) := by decide +kernel
theorem dX12_degree_135 : decode cX12_degree 135 = .ok (.iconst (-1), 1) := by decide +kernel
theorem dX12_degree_136 : decode cX12_degree 136 = .ok (.iastore, 1) := by decide +kernel
theorem dX12_degree_137 : decode cX12_degree 137 = .ok (.iload 8, 2) := by decide +kernel
theorem dX12_degree_139 : decode cX12_degree 139 = .ok (.iload 6, 2) := by decide +kernel
theorem dX12_degree_141 : decode cX12_degree 141 = .ok (.if_icmp .le 11, 3) := by decide +kernel
theorem dX12_degree_144 : decode cX12_degree 144 = .ok (.iload 8, 2) := by decide +kernel
theorem dX12_degree_146 : decode cX12_degree 146 = .ok (.istore 6, 2) := by decide +kernel
theorem dX12_degree_148 : decode cX12_degree 148 = .ok (.iload 7, 2) := by decide +kernel
theorem dX12_degree_150 : decode cX12_degree 150 = .ok (.istore 5, 2) := by decide +kernel
theorem dX12_degree_152 : decode cX12_degree 152 = .ok (.iinc 7 1, 3) := by decide +kernel
theorem dX12_degree_155 : decode cX12_degree 155 = .ok (.goto (-71), 3) := by decide +kernel
theorem dX12_degree_158 : decode cX12_degree 158 = .ok (.iconst 0, 1) := by decide +kernel
theorem dX12_degree_159 : decode cX12_degree 159 = .ok (.istore 7, 2) := by decide +kernel
theorem dX12_degree_161 : decode cX12_degree 161 = .ok (.iload 7, 2) := by decide +kernel
theorem dX12_degree_163 : decode cX12_degree 163 = .ok (.bipush 21, 2) := by decide +kernel
theorem dX12_degree_165 : decode cX12_degree 165 = .ok (.if_icmp .ge 28, 3) := by decide +kernel
theorem dX12_degree_168 : decode cX12_degree 168 = .ok (.aload_n 0, 1) := by decide +kernel
theorem dX12_degree_169 : decode cX12_degree 169 = .ok (.getfield 51, 3) := by decide +kernel
theorem dX12_degree_172 : decode cX12_degree 172 = .ok (.bipush 21, 2) := by decide +kernel
theorem dX12_degree_174 : decode cX12_degree 174 = .ok (.iload_n 1, 1) := by decide +kernel
theorem dX12_degree_175 : decode cX12_degree 175 = .ok (.imul, 1) := by decide +kernel
theorem dX12_degree_176 : decode cX12_degree 176 = .ok (.iload 7, 2) := by decide +kernel
theorem dX12_degree_178 : decode cX12_degree 178 = .ok (.iadd, 1) := by decide +kernel
theorem dX12_degree_179 : decode cX12_degree 179 = .ok (.aload_n 0, 1) := by decide +kernel
theorem dX12_degree_180 : decode cX12_degree 180 = .ok (.getfield 124, 3) := by decide +kernel
theorem dX12_degree_183 : decode cX12_degree 183 = .ok (.iload 7, 2) := by decide +kernel
theorem dX12_degree_185 : decode cX12_degree 185 = .ok (.iaload, 1) := by decide +kernel
theorem dX12_degree_186 : decode cX12_degree 186 = .ok (.iastore, 1) := by decide +kernel
theorem dX12_degree_187 : decode cX12_degree 187 = .ok (.iinc 7 1, 3) := by decide +kernel
theorem dX12_degree_190 : decode cX12_degree 190 = .ok (.goto (-29), 3) := by decide +kernel
theorem dX12_degree_193 : decode cX12_degree 193 = .ok (.iload 5, 2) := by decide +kernel
theorem dX12_degree_195 : decode cX12_degree 195 = .ok (.ireturn, 1) := by decide +kernel
set_option maxHeartbeats 4000000 in
set_option maxRecDepth 100000 in
theorem s_X12_degree {P : PP} {a0 : Nat} {a1 : Int32} {a2 : Int32} {a3 : Int32} {a4 : Int32} (I : IM P a0) (hW : MW P a0) : CtrI yX12_degree cX12_degree 9 (some Jvm.ClassFile.FieldType.int) ({ frames := 7, cells := 0, slots := 0, locals := 448 } : Room) 0 0 P [.ref a0, .int a1, .int a2, .int a3, .int a4] (fun r P2 => IM P2 a0 ∧ EM [0, 12, 28, 29, 30, 31, 33, 34, 35, 36, 37, 38, 43, 44] a0 P P2 ∧ MW P2 a0 ∧ (-1 ≤ r.toInt ∧ r.toInt ≤ 20)) := by
  refine enI (lv := [(0, .ref a0), (1, .int a1), (2, .int a2), (3, .int a3), (4, .int a4)]) (by decide) (Nat.le_of_ble_eq_true rfl) rfl (fun E D cy C Ci0 ret => ?_)
  have ha0 := I.2.1
  have J161 : ∀ (n161 : Nat) (P161 : PP) (v161_5 : Int32) (v161_7 : Int32), (21 - v161_7.toInt).toNat < n161 → (IM P161 a0) → (EM [0, 12, 28, 29, 30, 31, 33, 34, 35, 36, 37, 38, 43, 44] a0 P P161) → (MW P161 a0) → (0 ≤ a1.toInt ∧ a1.toInt ≤ 1) → (-1 ≤ v161_5.toInt ∧ v161_5.toInt ≤ 20) → (0 ≤ v161_7.toInt ∧ v161_7.toInt ≤ 21) → (0 ≤ (pI P161 a0 0).toInt ∧ (pI P161 a0 0).toInt ≤ 0) → (∀ b, pR P161 a0 10 = some b → 1 ≤ (pI P161 b (a1.toInt.toNat)).toInt ∧ (pI P161 b (a1.toInt.toNat)).toInt ≤ 16) → G E ({ frames := 7, cells := 0, slots := 0, locals := 448 } : Room) D cy 9 P161 0 0 161 [(0, .ref a0), (1, .int a1), (5, .int v161_5), (7, .int v161_7)] [] := by
    intro n161
    induction n161 with
    | zero => intro P161 v161_5 v161_7 hm161 I161 X161 W161 hv161_1 hv161_5 hv161_7 hq161_0 hq161_1; omega
    | succ n161 ih161 =>
      intro P161 v161_5 v161_7 hm161 I161 X161 W161 hv161_1 hv161_5 hv161_7 hq161_0 hq161_1
      have h42764 := X161.at ha0
      obtain ⟨b42765, e42766, h42767⟩ := I161.fld (h42764) 10 13 2 rfl
      have hq161_1 := hq161_1 b42765 e42766
      refine g_iload C dX12_degree_161 3 rfl ?_
      refine g_bipush (v := 21) C dX12_degree_163 (by decide) ?_
      refine b_icmp_ge C 193 dX12_degree_165 (by decide) (fun h42768 => ?_) (fun h42768 => ?_)
      · have h42768 : 21 ≤ v161_7.toInt := h42768
        refine g_iload C dX12_degree_193 2 rfl ?_
        exact ret _ _ _ _ _ _ dX12_degree_195 rfl (by decide) (by decide) ⟨I161, X161, W161, (by omega)⟩
      · have h42768 : v161_7.toInt < 21 := h42768
        refine g_aload_n C dX12_degree_168 rfl 0 rfl ?_
        obtain ⟨b42769, e42770, h42771⟩ := I161.fld (h42764) 12 13 63 rfl
        refine g_getR C fi_X12_51 rfl e42770 (h42764).1 (h42764).2 dX12_degree_169 ?_
        refine g_bipush (v := 21) C dX12_degree_172 (by decide) ?_
        refine g_iload_n C dX12_degree_174 rfl 1 rfl ?_
        refine s_imul C dX12_degree_175 (by show -2147483648 ≤ 21 * a1.toInt ∧ 21 * a1.toInt ≤ 2147483647; omega) (fun z42772 h42773 => ?_)
        have h42773 : z42772.toInt = 21 * a1.toInt := h42773
        refine g_iload C dX12_degree_176 3 rfl ?_
        refine s_iadd C dX12_degree_178 (by show -2147483648 ≤ z42772.toInt + v161_7.toInt ∧ z42772.toInt + v161_7.toInt ≤ 2147483647; omega) (fun z42774 h42775 => ?_)
        have h42775 : z42774.toInt = z42772.toInt + v161_7.toInt := h42775
        refine g_aload_n C dX12_degree_179 rfl 0 rfl ?_
        obtain ⟨b42776, e42777, h42778⟩ := I161.fld (h42764) 44 13 21 rfl
        refine g_getR C fi_X12_124 rfl e42777 (h42764).1 (h42764).2 dX12_degree_180 ?_
        refine g_iload C dX12_degree_183 3 rfl ?_
        refine g_iald (j := (v161_7.toInt.toNat)) C h42778.1 h42778.2.1 (ix_in h42778.2.2 (by omega)) dX12_degree_185 ?_
        refine g_iast (j := (z42774.toInt.toNat)) C h42771.1 h42771.2.1 (ix_in h42771.2.2 (by omega)) dX12_degree_186 ?_
        refine gqW (ks := [12]) (I161.setA e42770 h42771 (by decide) (arOk.none rfl)) (EM.setA I161 e42770 rfl (by decide)) (fun Y42779 Iy42780 Xy42781 w42782 => ?_)
        have w42782 : (pI Y42779 b42769 (z42774.toInt.toNat)).toInt = (pI P161 b42776 (v161_7.toInt.toNat)).toInt := w42782
        have q42783 := Xy42781.keepF 0 (by decide)
        have q42784 := Xy42781.keepA e42766 (by decide) rfl (a1.toInt.toNat)
        have W42785 := W161.keep I161 Xy42781 (by decide) (by decide) (by decide)
        have Xz42786 : EM [0, 12, 28, 29, 30, 31, 33, 34, 35, 36, 37, 38, 43, 44] a0 P Y42779 := EM.tr ha0 X161 (Xy42781.mono (by decide))
        have e42787 := Xy42781.ref h42764 (by decide) e42766
        have e42788 := Xy42781.ref h42764 (by decide) e42770
        have h42789 := Xy42781.at h42764
        have h42790 := Xy42781.ar h42767
        have h42791 := Xy42781.ar h42771
        refine s_iinc (lv0 := [(0, .ref a0), (1, .int a1), (5, .int v161_5)]) (m := 1) C dX12_degree_187 3 rfl (by decide) rfl (by decide) (by omega) (fun z42792 h42793 => ?_)
        have h42793 : z42792.toInt = v161_7.toInt + 1 := h42793
        refine g_goto C 161 dX12_degree_190 (by decide) ?_
        refine g_lv (lv' := [(0, .ref a0), (1, .int a1), (5, .int v161_5), (7, .int z42792)]) [1, 2, 3, 0] rfl ?_
        exact ih161 Y42779 v161_5 z42792 (by omega) Iy42780 Xz42786 W42785 (by omega) (by omega) (by omega) (by omega) (fun b9 e9 => by rw [e42787] at e9; cases e9; omega)
  have J84 : ∀ (n84 : Nat) (P84 : PP) (v84_5 : Int32) (v84_6 : Int32) (v84_7 : Int32), (21 - v84_7.toInt).toNat < n84 → (IM P84 a0) → (EM [0, 12, 28, 29, 30, 31, 33, 34, 35, 36, 37, 38, 43, 44] a0 P P84) → (MW P84 a0) → (0 ≤ a1.toInt ∧ a1.toInt ≤ 1) → (1 ≤ a2.toInt ∧ a2.toInt ≤ 11) → (0 ≤ a3.toInt ∧ a3.toInt ≤ 11) → (0 ≤ a4.toInt ∧ a4.toInt ≤ 1) → (-1 ≤ v84_5.toInt ∧ v84_5.toInt ≤ 20) → (-1 ≤ v84_6.toInt) → (1 ≤ v84_7.toInt ∧ v84_7.toInt ≤ 21) → (0 ≤ (pI P84 a0 0).toInt ∧ (pI P84 a0 0).toInt ≤ 0) → (∀ b, pR P84 a0 10 = some b → 1 ≤ (pI P84 b (a1.toInt.toNat)).toInt ∧ (pI P84 b (a1.toInt.toNat)).toInt ≤ 16) → G E ({ frames := 7, cells := 0, slots := 0, locals := 448 } : Room) D cy 9 P84 0 0 84 [(0, .ref a0), (1, .int a1), (2, .int a2), (3, .int a3), (4, .int a4), (5, .int v84_5), (6, .int v84_6), (7, .int v84_7)] [] := by
    intro n84
    induction n84 with
    | zero => intro P84 v84_5 v84_6 v84_7 hm84 I84 X84 W84 hv84_1 hv84_2 hv84_3 hv84_4 hv84_5 hv84_6 hv84_7 hq84_0 hq84_1; omega
    | succ n84 ih84 =>
      intro P84 v84_5 v84_6 v84_7 hm84 I84 X84 W84 hv84_1 hv84_2 hv84_3 hv84_4 hv84_5 hv84_6 hv84_7 hq84_0 hq84_1
      have h42794 := X84.at ha0
      obtain ⟨b42795, e42796, h42797⟩ := I84.fld (h42794) 10 13 2 rfl
      have hq84_1 := hq84_1 b42795 e42796
      have J152 : ∀ (P152 : PP) (v152_5 : Int32) (v152_6 : Int32), (IM P152 a0) → (EM [0, 12, 28, 29, 30, 31, 33, 34, 35, 36, 37, 38, 43, 44] a0 P P152) → (MW P152 a0) → (0 ≤ a1.toInt ∧ a1.toInt ≤ 1) → (1 ≤ a2.toInt ∧ a2.toInt ≤ 11) → (0 ≤ a3.toInt ∧ a3.toInt ≤ 11) → (0 ≤ a4.toInt ∧ a4.toInt ≤ 1) → (-1 ≤ v152_5.toInt ∧ v152_5.toInt ≤ 20) → (-1 ≤ v152_6.toInt) → (1 ≤ v84_7.toInt ∧ v84_7.toInt ≤ 20) → (0 ≤ (pI P152 a0 0).toInt ∧ (pI P152 a0 0).toInt ≤ 0) → (∀ b, pR P152 a0 10 = some b → 1 ≤ (pI P152 b (a1.toInt.toNat)).toInt ∧ (pI P152 b (a1.toInt.toNat)).toInt ≤ 16) → G E ({ frames := 7, cells := 0, slots := 0, locals := 448 } : Room) D cy 9 P152 0 0 152 [(0, .ref a0), (1, .int a1), (2, .int a2), (3, .int a3), (4, .int a4), (5, .int v152_5), (6, .int v152_6), (7, .int v84_7)] [] := by
        intro P152 v152_5 v152_6 I152 X152 W152 hv152_1 hv152_2 hv152_3 hv152_4 hv152_5 hv152_6 hv152_7 hq152_0 hq152_1
        have h42798 := X152.at ha0
        obtain ⟨b42799, e42800, h42801⟩ := I152.fld (h42798) 10 13 2 rfl
        have hq152_1 := hq152_1 b42799 e42800
        refine s_iinc (lv0 := [(0, .ref a0), (1, .int a1), (2, .int a2), (3, .int a3), (4, .int a4), (5, .int v152_5), (6, .int v152_6)]) (m := 1) C dX12_degree_152 7 rfl (by decide) rfl (by decide) (by omega) (fun z42802 h42803 => ?_)
        have h42803 : z42802.toInt = v84_7.toInt + 1 := h42803
        refine g_goto C 84 dX12_degree_155 (by decide) ?_
        refine g_lv (lv' := [(0, .ref a0), (1, .int a1), (2, .int a2), (3, .int a3), (4, .int a4), (5, .int v152_5), (6, .int v152_6), (7, .int z42802)]) [1, 2, 3, 4, 5, 6, 7, 0] rfl ?_
        exact ih84 P152 v152_5 v152_6 z42802 (by omega) I152 X152 W152 (by omega) (by omega) (by omega) (by omega) (by omega) (by omega) (by omega) (by omega) (fun b9 e9 => by rw [e42800] at e9; cases e9; omega)
      refine g_iload C dX12_degree_84 7 rfl ?_
      refine g_aload_n C dX12_degree_86 rfl 0 rfl ?_
      refine g_iload_n C dX12_degree_87 rfl 1 rfl ?_
      refine g_callVI (rest := [.int v84_7]) C mv_X12_238 [.int a1] (s_X12_allOf I84 (by omega) W84) (h42794).1 (h42794).2 rfl rfl (by decide) (Nat.le_of_ble_eq_true rfl) (by decide) dX12_degree_88 (fun r42804 Y42805 h42806 => ?_)
      obtain ⟨rfl, h42806⟩ := h42806
      obtain ⟨h42806, hi42807⟩ := h42806
      obtain ⟨b42808, e42809, h42810⟩ := I84.fld (h42794) 15 13 3 rfl
      have hi42807 : r42804.toInt = 0 ∨ r42804.toInt = (pI P84 b42795 (a1.toInt.toNat)).toInt + (pI P84 b42808 (a1.toInt.toNat)).toInt := hi42807.imp id (fun z9 => z9 b42795 b42808 e42796 e42809)
      have h42811 := I84.arr e42809 rfl (a1.toInt.toNat)
      have h42806 : 0 ≤ r42804.toInt ∧ r42804.toInt ≤ 20 := h42806
      refine b_icmp_gt C 158 dX12_degree_91 (by decide) (fun h42812 => ?_) (fun h42812 => ?_)
      · have h42812 : r42804.toInt < v84_7.toInt := h42812
        refine g_iconst (v := 0) C dX12_degree_158 (by decide) ?_
        refine g_istore (lv' := [(7, .int 0), (0, .ref a0), (1, .int a1), (2, .int a2), (3, .int a3), (4, .int a4), (5, .int v84_5), (6, .int v84_6)]) C dX12_degree_159 (by decide) rfl ?_
        refine g_lv (lv' := [(0, .ref a0), (1, .int a1), (5, .int v84_5), (7, .int 0)]) [1, 2, 6, 0] rfl ?_
        exact J161 _ P84 v84_5 0 (Nat.lt_succ_self _) I84 X84 W84 (by omega) (by omega) (by decide) (by omega) (fun b9 e9 => by rw [e42796] at e9; cases e9; omega)
      · have h42812 : v84_7.toInt ≤ r42804.toInt := h42812
        refine g_aload_n C dX12_degree_94 rfl 0 rfl ?_
        obtain ⟨b42813, e42814, h42815⟩ := I84.fld (h42794) 12 13 63 rfl
        refine g_getR C fi_X12_51 rfl e42814 (h42794).1 (h42794).2 dX12_degree_95 ?_
        refine g_bipush (v := 21) C dX12_degree_98 (by decide) ?_
        refine g_iload_n C dX12_degree_100 rfl 1 rfl ?_
        refine s_imul C dX12_degree_101 (by show -2147483648 ≤ 21 * a1.toInt ∧ 21 * a1.toInt ≤ 2147483647; omega) (fun z42816 h42817 => ?_)
        have h42817 : z42816.toInt = 21 * a1.toInt := h42817
        refine g_iload C dX12_degree_102 7 rfl ?_
        refine s_iadd C dX12_degree_104 (by show -2147483648 ≤ z42816.toInt + v84_7.toInt ∧ z42816.toInt + v84_7.toInt ≤ 2147483647; omega) (fun z42818 h42819 => ?_)
        have h42819 : z42818.toInt = z42816.toInt + v84_7.toInt := h42819
        refine g_iconst (v := 1) C dX12_degree_105 (by decide) ?_
        refine g_iast (j := (z42818.toInt.toNat)) C h42815.1 h42815.2.1 (ix_in h42815.2.2 (by omega)) dX12_degree_106 ?_
        refine gqW (ks := [12]) (I84.setA e42814 h42815 (by decide) (arOk.none rfl)) (EM.setA I84 e42814 rfl (by decide)) (fun Y42820 Iy42821 Xy42822 w42823 => ?_)
        have w42823 : (pI Y42820 b42813 (z42818.toInt.toNat)).toInt = 1 := w42823
        have q42824 := Xy42822.keepF 0 (by decide)
        have q42825 := Xy42822.keepA e42796 (by decide) rfl (a1.toInt.toNat)
        have q42826 := Xy42822.keepA e42809 (by decide) rfl (a1.toInt.toNat)
        have W42827 := W84.keep I84 Xy42822 (by decide) (by decide) (by decide)
        have Xz42828 : EM [0, 12, 28, 29, 30, 31, 33, 34, 35, 36, 37, 38, 43, 44] a0 P Y42820 := EM.tr ha0 X84 (Xy42822.mono (by decide))
        have e42829 := Xy42822.ref h42794 (by decide) e42796
        have e42830 := Xy42822.ref h42794 (by decide) e42809
        have e42831 := Xy42822.ref h42794 (by decide) e42814
        have h42832 := Xy42822.at h42794
        have h42833 := Xy42822.ar h42797
        have h42834 := Xy42822.ar h42810
        have h42835 := Xy42822.ar h42815
        refine g_aload_n C dX12_degree_107 rfl 0 rfl ?_
        refine g_iload_n C dX12_degree_108 rfl 1 rfl ?_
        refine g_iload_n C dX12_degree_109 rfl 2 rfl ?_
        refine g_callVV (rest := []) C mv_X12_380 [.int a1, .int a2] (s_X12_keepsSets Iy42821 (by omega) (by omega) (fun b9 e9 => by rw [e42829] at e9; cases e9; show 1 ≤ (pI Y42820 b42795 (a1.toInt.toNat)).toInt ∧ (pI Y42820 b42795 (a1.toInt.toNat)).toInt ≤ 16; omega) W42827) (h42832).1 (h42832).2 rfl rfl (by decide) (Nat.le_of_ble_eq_true rfl) (by decide) dX12_degree_110 (fun Y42837 h42838 => ?_)
        obtain ⟨Iy42839, Xy42840, W42841⟩ := h42838
        have q42842 := Xy42840.keepF 0 (by decide)
        have q42843 := Xy42840.keepA e42829 (by decide) rfl (a1.toInt.toNat)
        have q42844 := Xy42840.keepA e42830 (by decide) rfl (a1.toInt.toNat)
        have q42845 := Xy42840.keepA e42831 (by decide) rfl (z42818.toInt.toNat)
        have Xz42846 : EM [0, 12, 28, 29, 30, 31, 33, 34, 35, 36, 37, 38, 43, 44] a0 P Y42837 := EM.tr ha0 Xz42828 (Xy42840.mono (by decide))
        have e42847 := Xy42840.ref h42832 (by decide) e42829
        have e42848 := Xy42840.ref h42832 (by decide) e42830
        have e42849 := Xy42840.ref h42832 (by decide) e42831
        have h42850 := Xy42840.at h42832
        have h42851 := Xy42840.ar h42833
        have h42852 := Xy42840.ar h42834
        have h42853 := Xy42840.ar h42835
        refine g_aload_n C dX12_degree_113 rfl 0 rfl ?_
        refine g_iload_n C dX12_degree_114 rfl 1 rfl ?_
        refine g_iload_n C dX12_degree_115 rfl 2 rfl ?_
        refine g_iload_n C dX12_degree_116 rfl 3 rfl ?_
        refine g_iload C dX12_degree_117 4 rfl ?_
        refine g_callVI (rest := []) C mv_X12_383 [.int a1, .int a2, .int a3, .int a4] (s_X12_chancesOf Iy42839 (by omega) (by omega) (fun b9 e9 => by rw [e42847] at e9; cases e9; show 1 ≤ (pI Y42837 b42795 (a1.toInt.toNat)).toInt ∧ (pI Y42837 b42795 (a1.toInt.toNat)).toInt ≤ 16; omega) W42841) (h42850).1 (h42850).2 rfl rfl (by decide) (Nat.le_of_ble_eq_true rfl) (by decide) dX12_degree_119 (fun r42854 Y42855 h42856 => ?_)
        obtain ⟨Iy42857, Xy42858, W42859, h42856⟩ := h42856
        have q42860 := Xy42858.keepF 0 (by decide)
        have q42861 := Xy42858.keepA e42847 (by decide) rfl (a1.toInt.toNat)
        have q42862 := Xy42858.keepA e42848 (by decide) rfl (a1.toInt.toNat)
        have q42863 := Xy42858.keepA e42849 (by decide) rfl (z42818.toInt.toNat)
        have Xz42864 : EM [0, 12, 28, 29, 30, 31, 33, 34, 35, 36, 37, 38, 43, 44] a0 P Y42855 := EM.tr ha0 Xz42846 (Xy42858.mono (by decide))
        have e42865 := Xy42858.ref h42850 (by decide) e42847
        have e42866 := Xy42858.ref h42850 (by decide) e42848
        have e42867 := Xy42858.ref h42850 (by decide) e42849
        have h42868 := Xy42858.at h42850
        have h42869 := Xy42858.ar h42851
        have h42870 := Xy42858.ar h42852
        have h42871 := Xy42858.ar h42853
        have h42856 : True := h42856
        refine g_istore (lv' := [(8, .int r42854), (0, .ref a0), (1, .int a1), (2, .int a2), (3, .int a3), (4, .int a4), (5, .int v84_5), (6, .int v84_6), (7, .int v84_7)]) C dX12_degree_122 (by decide) rfl ?_
        refine g_aload_n C dX12_degree_124 rfl 1 rfl ?_
        refine g_getR C fi_X12_51 rfl e42867 (h42868).1 (h42868).2 dX12_degree_125 ?_
        refine g_bipush (v := 21) C dX12_degree_128 (by decide) ?_
        refine g_iload_n C dX12_degree_130 rfl 2 rfl ?_
        refine s_imul C dX12_degree_131 (by show -2147483648 ≤ 21 * a1.toInt ∧ 21 * a1.toInt ≤ 2147483647; omega) (fun z42872 h42873 => ?_)
        have h42873 : z42872.toInt = 21 * a1.toInt := h42873
        refine g_iload C dX12_degree_132 8 rfl ?_
        refine s_iadd C dX12_degree_134 (by show -2147483648 ≤ z42872.toInt + v84_7.toInt ∧ z42872.toInt + v84_7.toInt ≤ 2147483647; omega) (fun z42874 h42875 => ?_)
        have h42875 : z42874.toInt = z42872.toInt + v84_7.toInt := h42875
        refine g_iconst (v := (-1)) C dX12_degree_135 (by decide) ?_
        refine g_iast (j := (z42874.toInt.toNat)) C h42871.1 h42871.2.1 (ix_in h42871.2.2 (by omega)) dX12_degree_136 ?_
        refine gqW (ks := [12]) (Iy42857.setA e42867 h42871 (by decide) (arOk.none rfl)) (EM.setA Iy42857 e42867 rfl (by decide)) (fun Y42876 Iy42877 Xy42878 w42879 => ?_)
        have w42879 : (pI Y42876 b42813 (z42874.toInt.toNat)).toInt = (-1) := w42879
        have q42880 := Xy42878.keepF 0 (by decide)
        have q42881 := Xy42878.keepA e42865 (by decide) rfl (a1.toInt.toNat)
        have q42882 := Xy42878.keepA e42866 (by decide) rfl (a1.toInt.toNat)
        have W42883 := W42859.keep Iy42857 Xy42878 (by decide) (by decide) (by decide)
        have Xz42884 : EM [0, 12, 28, 29, 30, 31, 33, 34, 35, 36, 37, 38, 43, 44] a0 P Y42876 := EM.tr ha0 Xz42864 (Xy42878.mono (by decide))
        have e42885 := Xy42878.ref h42868 (by decide) e42865
        have e42886 := Xy42878.ref h42868 (by decide) e42866
        have e42887 := Xy42878.ref h42868 (by decide) e42867
        have h42888 := Xy42878.at h42868
        have h42889 := Xy42878.ar h42869
        have h42890 := Xy42878.ar h42870
        have h42891 := Xy42878.ar h42871
        refine g_iload C dX12_degree_137 0 rfl ?_
        refine g_iload C dX12_degree_139 7 rfl ?_
        have u42893 := ti_rng r42854
        have u42894 := ti_rng v84_6
        refine b_icmp_le C 152 dX12_degree_141 (by decide) (fun h42892 => ?_) (fun h42892 => ?_)
        · have h42892 : r42854.toInt ≤ v84_6.toInt := h42892
          refine g_lv (lv' := [(0, .ref a0), (1, .int a1), (2, .int a2), (3, .int a3), (4, .int a4), (5, .int v84_5), (6, .int v84_6), (7, .int v84_7)]) [1, 2, 3, 4, 5, 6, 7, 8] rfl ?_
          exact J152 Y42876 v84_5 v84_6 Iy42877 Xz42884 W42883 (by omega) (by omega) (by omega) (by omega) (by omega) (by omega) (by omega) (by omega) (fun b9 e9 => by rw [e42885] at e9; cases e9; omega)
        · have h42892 : v84_6.toInt < r42854.toInt := h42892
          refine g_iload C dX12_degree_144 0 rfl ?_
          refine g_istore (lv' := [(6, .int r42854), (8, .int r42854), (0, .ref a0), (1, .int a1), (2, .int a2), (3, .int a3), (4, .int a4), (5, .int v84_5), (7, .int v84_7)]) C dX12_degree_146 (by decide) rfl ?_
          refine g_iload C dX12_degree_148 8 rfl ?_
          refine g_istore (lv' := [(5, .int v84_7), (6, .int r42854), (8, .int r42854), (0, .ref a0), (1, .int a1), (2, .int a2), (3, .int a3), (4, .int a4), (7, .int v84_7)]) C dX12_degree_150 (by decide) rfl ?_
          refine g_lv (lv' := [(0, .ref a0), (1, .int a1), (2, .int a2), (3, .int a3), (4, .int a4), (5, .int v84_7), (6, .int r42854), (7, .int v84_7)]) [3, 4, 5, 6, 7, 0, 1, 8] rfl ?_
          exact J152 Y42876 v84_7 r42854 Iy42877 Xz42884 W42883 (by omega) (by omega) (by omega) (by omega) (by omega) (by omega) (by omega) (by omega) (fun b9 e9 => by rw [e42885] at e9; cases e9; omega)
  have J30 : ∀ (n30 : Nat) (P30 : PP) (v30_5 : Int32), (21 - v30_5.toInt).toNat < n30 → (IM P30 a0) → (EM [0, 12, 28, 29, 30, 31, 33, 34, 35, 36, 37, 38, 43, 44] a0 P P30) → (MW P30 a0) → (0 ≤ a1.toInt ∧ a1.toInt ≤ 1) → (1 ≤ a2.toInt ∧ a2.toInt ≤ 11) → (0 ≤ a3.toInt ∧ a3.toInt ≤ 11) → (0 ≤ a4.toInt ∧ a4.toInt ≤ 1) → (0 ≤ v30_5.toInt ∧ v30_5.toInt ≤ 21) → (0 ≤ (pI P30 a0 0).toInt ∧ (pI P30 a0 0).toInt ≤ 0) → (∀ b, pR P30 a0 10 = some b → 1 ≤ (pI P30 b (a1.toInt.toNat)).toInt ∧ (pI P30 b (a1.toInt.toNat)).toInt ≤ 16) → G E ({ frames := 7, cells := 0, slots := 0, locals := 448 } : Room) D cy 9 P30 0 0 30 [(0, .ref a0), (1, .int a1), (2, .int a2), (3, .int a3), (4, .int a4), (5, .int v30_5)] [] := by
    intro n30
    induction n30 with
    | zero => intro P30 v30_5 hm30 I30 X30 W30 hv30_1 hv30_2 hv30_3 hv30_4 hv30_5 hq30_0 hq30_1; omega
    | succ n30 ih30 =>
      intro P30 v30_5 hm30 I30 X30 W30 hv30_1 hv30_2 hv30_3 hv30_4 hv30_5 hq30_0 hq30_1
      have h42895 := X30.at ha0
      obtain ⟨b42896, e42897, h42898⟩ := I30.fld (h42895) 10 13 2 rfl
      have hq30_1 := hq30_1 b42896 e42897
      refine g_iload C dX12_degree_30 5 rfl ?_
      refine g_bipush (v := 21) C dX12_degree_32 (by decide) ?_
      refine b_icmp_ge C 75 dX12_degree_34 (by decide) (fun h42899 => ?_) (fun h42899 => ?_)
      · have h42899 : 21 ≤ v30_5.toInt := h42899
        refine g_iconst (v := (-1)) C dX12_degree_75 (by decide) ?_
        refine g_istore (lv' := [(5, .int (-1)), (0, .ref a0), (1, .int a1), (2, .int a2), (3, .int a3), (4, .int a4)]) C dX12_degree_76 (by decide) rfl ?_
        refine g_iconst (v := (-1)) C dX12_degree_78 (by decide) ?_
        refine g_istore (lv' := [(6, .int (-1)), (5, .int (-1)), (0, .ref a0), (1, .int a1), (2, .int a2), (3, .int a3), (4, .int a4)]) C dX12_degree_79 (by decide) rfl ?_
        refine g_iconst (v := 1) C dX12_degree_81 (by decide) ?_
        refine g_istore (lv' := [(7, .int 1), (6, .int (-1)), (5, .int (-1)), (0, .ref a0), (1, .int a1), (2, .int a2), (3, .int a3), (4, .int a4)]) C dX12_degree_82 (by decide) rfl ?_
        refine g_lv (lv' := [(0, .ref a0), (1, .int a1), (2, .int a2), (3, .int a3), (4, .int a4), (5, .int (-1)), (6, .int (-1)), (7, .int 1)]) [3, 4, 5, 6, 7, 2, 1, 0] rfl ?_
        exact J84 _ P30 (-1) (-1) 1 (Nat.lt_succ_self _) I30 X30 W30 (by omega) (by omega) (by omega) (by omega) (by decide) (by decide) (by decide) (by omega) (fun b9 e9 => by rw [e42897] at e9; cases e9; omega)
      · have h42899 : v30_5.toInt < 21 := h42899
        refine g_aload_n C dX12_degree_37 rfl 0 rfl ?_
        obtain ⟨b42900, e42901, h42902⟩ := I30.fld (h42895) 44 13 21 rfl
        refine g_getR C fi_X12_124 rfl e42901 (h42895).1 (h42895).2 dX12_degree_38 ?_
        refine g_iload C dX12_degree_41 5 rfl ?_
        refine g_aload_n C dX12_degree_43 rfl 0 rfl ?_
        obtain ⟨b42903, e42904, h42905⟩ := I30.fld (h42895) 12 13 63 rfl
        refine g_getR C fi_X12_51 rfl e42904 (h42895).1 (h42895).2 dX12_degree_44 ?_
        refine g_bipush (v := 21) C dX12_degree_47 (by decide) ?_
        refine g_iload_n C dX12_degree_49 rfl 1 rfl ?_
        refine s_imul C dX12_degree_50 (by show -2147483648 ≤ 21 * a1.toInt ∧ 21 * a1.toInt ≤ 2147483647; omega) (fun z42906 h42907 => ?_)
        have h42907 : z42906.toInt = 21 * a1.toInt := h42907
        refine g_iload C dX12_degree_51 5 rfl ?_
        refine s_iadd C dX12_degree_53 (by show -2147483648 ≤ z42906.toInt + v30_5.toInt ∧ z42906.toInt + v30_5.toInt ≤ 2147483647; omega) (fun z42908 h42909 => ?_)
        have h42909 : z42908.toInt = z42906.toInt + v30_5.toInt := h42909
        refine g_iald (j := (z42908.toInt.toNat)) C h42905.1 h42905.2.1 (ix_in h42905.2.2 (by omega)) dX12_degree_54 ?_
        refine g_iast (j := (v30_5.toInt.toNat)) C h42902.1 h42902.2.1 (ix_in h42902.2.2 (by omega)) dX12_degree_55 ?_
        refine gqW (ks := [44]) (I30.setA e42901 h42902 (by decide) (arOk.none rfl)) (EM.setA I30 e42901 rfl (by decide)) (fun Y42910 Iy42911 Xy42912 w42913 => ?_)
        have w42913 : (pI Y42910 b42900 (v30_5.toInt.toNat)).toInt = (pI P30 b42903 (z42908.toInt.toNat)).toInt := w42913
        have q42914 := Xy42912.keepF 0 (by decide)
        have q42915 := Xy42912.keepA e42897 (by decide) rfl (a1.toInt.toNat)
        have W42916 := W30.keep I30 Xy42912 (by decide) (by decide) (by decide)
        have Xz42917 : EM [0, 12, 28, 29, 30, 31, 33, 34, 35, 36, 37, 38, 43, 44] a0 P Y42910 := EM.tr ha0 X30 (Xy42912.mono (by decide))
        have e42918 := Xy42912.ref h42895 (by decide) e42897
        have e42919 := Xy42912.ref h42895 (by decide) e42901
        have h42920 := Xy42912.at h42895
        have h42921 := Xy42912.ar h42898
        have h42922 := Xy42912.ar h42902
        refine g_aload_n C dX12_degree_56 rfl 0 rfl ?_
        obtain ⟨b42923, e42924, h42925⟩ := Iy42911.fld (h42920) 12 13 63 rfl
        refine g_getR C fi_X12_51 rfl e42924 (h42920).1 (h42920).2 dX12_degree_57 ?_
        refine g_bipush (v := 21) C dX12_degree_60 (by decide) ?_
        refine g_iload_n C dX12_degree_62 rfl 1 rfl ?_
        refine s_imul C dX12_degree_63 (by show -2147483648 ≤ 21 * a1.toInt ∧ 21 * a1.toInt ≤ 2147483647; omega) (fun z42926 h42927 => ?_)
        have h42927 : z42926.toInt = 21 * a1.toInt := h42927
        refine g_iload C dX12_degree_64 5 rfl ?_
        refine s_iadd C dX12_degree_66 (by show -2147483648 ≤ z42926.toInt + v30_5.toInt ∧ z42926.toInt + v30_5.toInt ≤ 2147483647; omega) (fun z42928 h42929 => ?_)
        have h42929 : z42928.toInt = z42926.toInt + v30_5.toInt := h42929
        refine g_iconst (v := (-1)) C dX12_degree_67 (by decide) ?_
        refine g_iast (j := (z42928.toInt.toNat)) C h42925.1 h42925.2.1 (ix_in h42925.2.2 (by omega)) dX12_degree_68 ?_
        refine gqW (ks := [12]) (Iy42911.setA e42924 h42925 (by decide) (arOk.none rfl)) (EM.setA Iy42911 e42924 rfl (by decide)) (fun Y42930 Iy42931 Xy42932 w42933 => ?_)
        have w42933 : (pI Y42930 b42923 (z42928.toInt.toNat)).toInt = (-1) := w42933
        have q42934 := Xy42932.keepF 0 (by decide)
        have q42935 := Xy42932.keepA e42918 (by decide) rfl (a1.toInt.toNat)
        have q42936 := Xy42932.keepA e42919 (by decide) rfl (v30_5.toInt.toNat)
        have W42937 := W42916.keep Iy42911 Xy42932 (by decide) (by decide) (by decide)
        have Xz42938 : EM [0, 12, 28, 29, 30, 31, 33, 34, 35, 36, 37, 38, 43, 44] a0 P Y42930 := EM.tr ha0 Xz42917 (Xy42932.mono (by decide))
        have e42939 := Xy42932.ref h42920 (by decide) e42918
        have e42940 := Xy42932.ref h42920 (by decide) e42919
        have e42941 := Xy42932.ref h42920 (by decide) e42924
        have h42942 := Xy42932.at h42920
        have h42943 := Xy42932.ar h42921
        have h42944 := Xy42932.ar h42922
        have h42945 := Xy42932.ar h42925
        refine s_iinc (lv0 := [(0, .ref a0), (1, .int a1), (2, .int a2), (3, .int a3), (4, .int a4)]) (m := 1) C dX12_degree_69 5 rfl (by decide) rfl (by decide) (by omega) (fun z42946 h42947 => ?_)
        have h42947 : z42946.toInt = v30_5.toInt + 1 := h42947
        refine g_goto C 30 dX12_degree_72 (by decide) ?_
        refine g_lv (lv' := [(0, .ref a0), (1, .int a1), (2, .int a2), (3, .int a3), (4, .int a4), (5, .int z42946)]) [1, 2, 3, 4, 5, 0] rfl ?_
        exact ih30 Y42930 z42946 (by omega) Iy42931 Xz42938 W42937 (by omega) (by omega) (by omega) (by omega) (by omega) (by omega) (fun b9 e9 => by rw [e42939] at e9; cases e9; omega)
  have J25 : ∀ (P25 : PP), (IM P25 a0) → (EM [0, 12, 28, 29, 30, 31, 33, 34, 35, 36, 37, 38, 43, 44] a0 P P25) → (MW P25 a0) → (0 ≤ (pI P25 a0 0).toInt ∧ (pI P25 a0 0).toInt ≤ 0) → G E ({ frames := 7, cells := 0, slots := 0, locals := 448 } : Room) D cy 9 P25 0 0 25 [] [] := by
    intro P25 I25 X25 W25 hq25_0
    have h42948 := X25.at ha0
    refine g_iconst (v := (-1)) C dX12_degree_25 (by decide) ?_
    exact ret _ _ _ _ _ _ dX12_degree_26 rfl (by decide) (by decide) ⟨I25, X25, W25, (by decide)⟩
  refine g_aload_n C dX12_degree_0 rfl 0 rfl ?_
  refine g_iconst (v := 0) C dX12_degree_1 (by decide) ?_
  refine g_putI C fi_X12_1 rfl (ha0).1 (ha0).2 dX12_degree_2 ?_
  refine gqW (ks := [0]) (I.setI (rgOk.of rfl (by decide))) (EM.setI I (by decide)) (fun Y42949 Iy42950 Xy42951 w42952 => ?_)
  have w42952 : (pI Y42949 a0 0).toInt = 0 := w42952
  have W42953 := hW.keep I Xy42951 (by decide) (by decide) (by decide)
  have Xz42954 : EM [0, 12, 28, 29, 30, 31, 33, 34, 35, 36, 37, 38, 43, 44] a0 P Y42949 := Xy42951.mono (by decide)
  have h42955 := Xy42951.at ha0
  refine g_aload_n C dX12_degree_5 rfl 0 rfl ?_
  refine g_iload_n C dX12_degree_6 rfl 1 rfl ?_
  refine g_iload_n C dX12_degree_7 rfl 2 rfl ?_
  refine g_iload C dX12_degree_8 4 rfl ?_
  refine g_callVI (rest := []) C mv_X12_377 [.int a1, .int a2, .int a4] (s_X12_areChances Iy42950 W42953) (h42955).1 (h42955).2 rfl rfl (by decide) (Nat.le_of_ble_eq_true rfl) (by decide) dX12_degree_10 (fun r42956 Y42957 h42958 => ?_)
  obtain ⟨rfl, h42958⟩ := h42958
  obtain ⟨h42958, hi42959, hi42960⟩ := h42958
  have hi42959 : r42956.toInt = 0 ∨ (((0 : Int) ≤ a1.toInt ∧ a1.toInt ≤ (1 : Int)) ∧ ((1 : Int) ≤ a2.toInt ∧ a2.toInt ≤ (11 : Int)) ∧ ((0 : Int) ≤ a4.toInt ∧ a4.toInt ≤ (1 : Int))) := hi42959
  have h42958 : 0 ≤ r42956.toInt ∧ r42956.toInt ≤ 1 := h42958
  refine b_if_eq C 25 dX12_degree_13 (by decide) (fun h42961 => ?_) (fun h42961 => ?_)
  · have h42961 : r42956.toInt = 0 := congrArg Int32.toInt h42961
    clear hi42959
    refine g_lv (lv' := []) [] rfl ?_
    exact J25 Y42949 Iy42950 Xz42954 W42953 (by omega)
  · have h42961 : r42956.toInt ≠ 0 := ti_ne h42961
    replace hi42959 := hi42959.resolve_left (by omega)
    obtain ⟨b42962, e42963, h42964⟩ := Iy42950.fld (h42955) 10 13 2 rfl
    have hi42960 := (hi42960.resolve_left (by omega)) b42962 e42963
    have hi42960 : 0 < (pI Y42949 b42962 (a1.toInt.toNat)).toInt := hi42960
    have h42965 := Iy42950.arr e42963 rfl (a1.toInt.toNat)
    refine g_iload_n C dX12_degree_16 rfl 3 rfl ?_
    refine g_iconst (v := 0) C dX12_degree_17 (by decide) ?_
    refine g_iload_n C dX12_degree_18 rfl 2 rfl ?_
    refine g_callSI (b := 0) (ci := 0) (rest := []) C ms_X12_178 [.int a3, .int 0, .int a2] (s_X12_within Iy42950.1) rfl rfl (by decide) (Nat.le_of_ble_eq_true rfl) (by decide) dX12_degree_19 (fun r42966 Y42967 h42968 => ?_)
    obtain ⟨rfl, h42968⟩ := h42968
    obtain ⟨h42968, hi42969⟩ := h42968
    have hi42969 : r42966.toInt = 0 ∨ (0 ≤ a3.toInt ∧ a3.toInt ≤ a2.toInt) := hi42969
    have h42968 : 0 ≤ r42966.toInt ∧ r42966.toInt ≤ 1 := h42968
    refine b_if_ne C 27 dX12_degree_22 (by decide) (fun h42970 => ?_) (fun h42970 => ?_)
    · have h42970 : r42966.toInt ≠ 0 := ti_ne h42970
      replace hi42969 := hi42969.resolve_left (by omega)
      refine g_iconst (v := 0) C dX12_degree_27 (by decide) ?_
      refine g_istore (lv' := [(5, .int 0), (0, .ref a0), (1, .int a1), (2, .int a2), (3, .int a3), (4, .int a4)]) C dX12_degree_28 (by decide) rfl ?_
      refine g_lv (lv' := [(0, .ref a0), (1, .int a1), (2, .int a2), (3, .int a3), (4, .int a4), (5, .int 0)]) [1, 2, 3, 4, 5, 0] rfl ?_
      exact J30 _ Y42949 0 (Nat.lt_succ_self _) Iy42950 Xz42954 W42953 (by omega) (by omega) (by omega) (by omega) (by decide) (by omega) (fun b9 e9 => by rw [e42963] at e9; cases e9; omega)
    · have h42970 : r42966.toInt = 0 := congrArg Int32.toInt h42970
      clear hi42969
      refine g_lv (lv' := []) [] rfl ?_
      exact J25 Y42949 Iy42950 Xz42954 W42953 (by omega)
theorem dX12_doubles_0 : decode cX12_doubles 0 = .ok (.aload_n 0, 1) := by decide +kernel
theorem dX12_doubles_1 : decode cX12_doubles 1 = .ok (.iconst 0, 1) := by decide +kernel
theorem dX12_doubles_2 : decode cX12_doubles 2 = .ok (.putfield 1, 3) := by decide +kernel
theorem dX12_doubles_5 : decode cX12_doubles 5 = .ok (.aload_n 0, 1) := by decide +kernel
theorem dX12_doubles_6 : decode cX12_doubles 6 = .ok (.iload_n 1, 1) := by decide +kernel
theorem dX12_doubles_7 : decode cX12_doubles 7 = .ok (.iload_n 2, 1) := by decide +kernel
theorem dX12_doubles_8 : decode cX12_doubles 8 = .ok (.iload_n 3, 1) := by decide +kernel
theorem dX12_doubles_9 : decode cX12_doubles 9 = .ok (.invokevirtual 333, 3) := by decide +kernel
theorem dX12_isAsked_0 : decode cX12_isAsked 0 = .ok (.iload_n 1, 1) := by decide +kernel
theorem dX12_isAsked_1 : decode cX12_isAsked 1 = .ok (.invokestatic 278, 3) := by decide +kernel
theorem dX12_isAsked_4 : decode cX12_isAsked 4 = .ok (.ifCond .eq 24, 3) := by decide +kernel
theorem dX12_isAsked_7 : decode cX12_isAsked 7 = .ok (.aload_n 0, 1) := by decide +kernel
theorem dX12_isAsked_8 : decode cX12_isAsked 8 = .ok (.iload_n 2, 1) := by decide +kernel
theorem dX12_isAsked_9 : decode cX12_isAsked 9 = .ok (.invokevirtual 192, 3) := by decide +kernel
theorem dX12_isAsked_12 : decode cX12_isAsked 12 = .ok (.ifCond .eq 16, 3) := by decide +kernel
theorem dX12_isAsked_15 : decode cX12_isAsked 15 = .ok (.iload_n 3, 1) := by decide +kernel
theorem dX12_isAsked_16 : decode cX12_isAsked 16 = .ok (.iconst 0, 1) := by decide +kernel
theorem dX12_isAsked_17 : decode cX12_isAsked 17 = .ok (.iconst 1, 1) := by decide +kernel
theorem dX12_isAsked_18 : decode cX12_isAsked 18 = .ok (.invokestatic 178, 3) := by decide +kernel
theorem dX12_isAsked_21 : decode cX12_isAsked 21 = .ok (.ifCond .eq 7, 3) := by decide +kernel
theorem dX12_isAsked_24 : decode cX12_isAsked 24 = .ok (.iconst 1, 1) := by decide +kernel
theorem dX12_isAsked_25 : decode cX12_isAsked 25 = .ok (.goto 4, 3) := by decide +kernel
theorem dX12_isAsked_28 : decode cX12_isAsked 28 = .ok (.iconst 0, 1) := by decide +kernel
theorem dX12_isAsked_29 : decode cX12_isAsked 29 = .ok (.ireturn, 1) := by decide +kernel
set_option maxHeartbeats 4000000 in
set_option maxRecDepth 100000 in
theorem s_X12_isAsked {P : PP} {a0 : Nat} {a1 : Int32} {a2 : Int32} {a3 : Int32} (I : IM P a0) (hW : MW P a0) : CtrI yX12_isAsked cX12_isAsked 4 (some Jvm.ClassFile.FieldType.boolean) ({ frames := 3, cells := 0, slots := 0, locals := 192 } : Room) 0 0 P [.ref a0, .int a1, .int a2, .int a3] (fun r P2 => P = P2 ∧ (0 ≤ r.toInt ∧ r.toInt ≤ 1) ∧ (r.toInt = 0 ∨ (((0 : Int) ≤ a1.toInt ∧ a1.toInt ≤ (3 : Int)) ∧ ((0 : Int) ≤ a2.toInt ∧ a2.toInt ≤ (1 : Int)) ∧ ((0 : Int) ≤ a3.toInt ∧ a3.toInt ≤ (1 : Int)))) ∧ (r.toInt = 0 ∨ ∀ b, pR P2 a0 10 = some b → 0 < (pI P2 b (a2.toInt.toNat)).toInt)) := by
  refine enI (lv := [(0, .ref a0), (1, .int a1), (2, .int a2), (3, .int a3)]) (by decide) (Nat.le_of_ble_eq_true rfl) rfl (fun E D cy C Ci0 ret => ?_)
  have ha0 := I.2.1
  have J28 : G E ({ frames := 3, cells := 0, slots := 0, locals := 192 } : Room) D cy 4 P 0 0 28 [] [] := by
    refine g_iconst (v := 0) C dX12_isAsked_28 (by decide) ?_
    exact ret _ _ _ _ _ _ dX12_isAsked_29 rfl (by decide) (by decide) ⟨rfl, (by decide), Or.inl rfl, Or.inl rfl⟩
  refine g_iload_n C dX12_isAsked_0 rfl 1 rfl ?_
  refine g_callSI (b := 0) (ci := 0) (rest := []) C ms_X12_278 [.int a1] (s_X12_isQuarter I.1) rfl rfl (by decide) (Nat.le_of_ble_eq_true rfl) (by decide) dX12_isAsked_1 (fun r42998 Y42999 h43000 => ?_)
  obtain ⟨rfl, h43000⟩ := h43000
  obtain ⟨h43000, hi43001⟩ := h43000
  have hi43001 : r42998.toInt = 0 ∨ (((0 : Int) ≤ a1.toInt ∧ a1.toInt ≤ (3 : Int))) := hi43001
  have h43000 : 0 ≤ r42998.toInt ∧ r42998.toInt ≤ 1 := h43000
  refine b_if_eq C 28 dX12_isAsked_4 (by decide) (fun h43002 => ?_) (fun h43002 => ?_)
  · have h43002 : r42998.toInt = 0 := congrArg Int32.toInt h43002
    clear hi43001
    refine g_lv (lv' := []) [] rfl ?_
    exact J28 
  · have h43002 : r42998.toInt ≠ 0 := ti_ne h43002
    replace hi43001 := hi43001.resolve_left (by omega)
    refine g_aload_n C dX12_isAsked_7 rfl 0 rfl ?_
    refine g_iload_n C dX12_isAsked_8 rfl 2 rfl ?_
    refine g_callVI (rest := []) C mv_X12_192 [.int a2] (s_X12_isBook I hW) (ha0).1 (ha0).2 rfl rfl (by decide) (Nat.le_of_ble_eq_true rfl) (by decide) dX12_isAsked_9 (fun r43003 Y43004 h43005 => ?_)
    obtain ⟨rfl, h43005⟩ := h43005
    obtain ⟨h43005, hi43006, hi43007⟩ := h43005
    have hi43006 : r43003.toInt = 0 ∨ (((0 : Int) ≤ a2.toInt ∧ a2.toInt ≤ (1 : Int))) := hi43006
    have h43005 : 0 ≤ r43003.toInt ∧ r43003.toInt ≤ 1 := h43005
    refine b_if_eq C 28 dX12_isAsked_12 (by decide) (fun h43008 => ?_) (fun h43008 => ?_)
    · have h43008 : r43003.toInt = 0 := congrArg Int32.toInt h43008
      clear hi43006
      refine g_lv (lv' := []) [] rfl ?_
      exact J28 
    · have h43008 : r43003.toInt ≠ 0 := ti_ne h43008
      replace hi43006 := hi43006.resolve_left (by omega)
      obtain ⟨b43009, e43010, h43011⟩ := I.fld (ha0) 10 13 2 rfl
      have hi43007 := (hi43007.resolve_left (by omega)) b43009 e43010
      have hi43007 : 0 < (pI P b43009 (a2.toInt.toNat)).toInt := hi43007
      have h43012 := I.arr e43010 rfl (a2.toInt.toNat)
      refine g_iload_n C dX12_isAsked_15 rfl 3 rfl ?_
      refine g_iconst (v := 0) C dX12_isAsked_16 (by decide) ?_
      refine g_iconst (v := 1) C dX12_isAsked_17 (by decide) ?_
      refine g_callSI (b := 0) (ci := 0) (rest := []) C ms_X12_178 [.int a3, .int 0, .int 1] (s_X12_within I.1) rfl rfl (by decide) (Nat.le_of_ble_eq_true rfl) (by decide) dX12_isAsked_18 (fun r43013 Y43014 h43015 => ?_)
      obtain ⟨rfl, h43015⟩ := h43015
      obtain ⟨h43015, hi43016⟩ := h43015
      have hi43016 : r43013.toInt = 0 ∨ (0 ≤ a3.toInt ∧ a3.toInt ≤ 1) := hi43016
      have h43015 : 0 ≤ r43013.toInt ∧ r43013.toInt ≤ 1 := h43015
      refine b_if_eq C 28 dX12_isAsked_21 (by decide) (fun h43017 => ?_) (fun h43017 => ?_)
      · have h43017 : r43013.toInt = 0 := congrArg Int32.toInt h43017
        clear hi43016
        refine g_lv (lv' := []) [] rfl ?_
        exact J28 
      · have h43017 : r43013.toInt ≠ 0 := ti_ne h43017
        replace hi43016 := hi43016.resolve_left (by omega)
        refine g_iconst (v := 1) C dX12_isAsked_24 (by decide) ?_
        refine g_goto C 29 dX12_isAsked_25 (by decide) ?_
        exact ret _ _ _ _ _ _ dX12_isAsked_29 rfl (by decide) (by decide) ⟨rfl, (by decide), Or.inr (by omega), Or.inr (fun b9 e9 => by rw [e43010] at e9; cases e9; show 0 < (pI P b43009 (a2.toInt.toNat)).toInt; omega)⟩
theorem dX12_doubles_12 : decode cX12_doubles 12 = .ok (.ifCond .ne 5, 3) := by decide +kernel
theorem dX12_doubles_17 : decode cX12_doubles 17 = .ok (.aload_n 0, 1) := by decide +kernel
theorem dX12_doubles_18 : decode cX12_doubles 18 = .ok (.invokevirtual 336, 3) := by decide +kernel
theorem dX12_doubles_21 : decode cX12_doubles 21 = .ok (.aload_n 0, 1) := by decide +kernel
theorem dX12_doubles_22 : decode cX12_doubles 22 = .ok (.iload_n 1, 1) := by decide +kernel
theorem dX12_doubles_23 : decode cX12_doubles 23 = .ok (.iload_n 2, 1) := by decide +kernel
theorem dX12_doubles_24 : decode cX12_doubles 24 = .ok (.iload_n 3, 1) := by decide +kernel
theorem dX12_doubles_25 : decode cX12_doubles 25 = .ok (.aload_n 0, 1) := by decide +kernel
theorem dX12_doubles_26 : decode cX12_doubles 26 = .ok (.getfield 69, 3) := by decide +kernel
theorem dX12_doubles_29 : decode cX12_doubles 29 = .ok (.iload_n 1, 1) := by decide +kernel
theorem dX12_doubles_30 : decode cX12_doubles 30 = .ok (.iaload, 1) := by decide +kernel
theorem dX12_doubles_31 : decode cX12_doubles 31 = .ok (.invokevirtual 339, 3) := by decide +kernel
theorem dX12_gathers_0 : decode cX12_gathers 0 = .ok (.aload_n 0, 1) := by decide +kernel
theorem dX12_gathers_1 : decode cX12_gathers 1 = .ok (.iload_n 2, 1) := by decide +kernel
theorem dX12_gathers_2 : decode cX12_gathers 2 = .ok (.invokevirtual 312, 3) := by decide +kernel
theorem dX12_gathers_5 : decode cX12_gathers 5 = .ok (.iconst 0, 1) := by decide +kernel
theorem dX12_gathers_6 : decode cX12_gathers 6 = .ok (.istore 5, 2) := by decide +kernel
theorem dX12_gathers_8 : decode cX12_gathers 8 = .ok (.iload 5, 2) := by decide +kernel
theorem dX12_gathers_10 : decode cX12_gathers 10 = .ok (.iload 4, 2) := by decide +kernel
theorem dX12_gathers_12 : decode cX12_gathers 12 = .ok (.if_icmp .ge 83, 3) := by decide +kernel
theorem dX12_gathers_15 : decode cX12_gathers 15 = .ok (.bipush 40, 2) := by decide +kernel
theorem dX12_gathers_17 : decode cX12_gathers 17 = .ok (.iload_n 1, 1) := by decide +kernel
theorem dX12_gathers_18 : decode cX12_gathers 18 = .ok (.imul, 1) := by decide +kernel
theorem dX12_gathers_19 : decode cX12_gathers 19 = .ok (.iload 5, 2) := by decide +kernel
theorem dX12_gathers_21 : decode cX12_gathers 21 = .ok (.iadd, 1) := by decide +kernel
theorem dX12_gathers_22 : decode cX12_gathers 22 = .ok (.istore 6, 2) := by decide +kernel
theorem dX12_gathers_24 : decode cX12_gathers 24 = .ok (.aload_n 0, 1) := by decide +kernel
theorem dX12_gathers_25 : decode cX12_gathers 25 = .ok (.getfield 75, 3) := by decide +kernel
theorem dX12_gathers_28 : decode cX12_gathers 28 = .ok (.iload 6, 2) := by decide +kernel
theorem dX12_gathers_30 : decode cX12_gathers 30 = .ok (.iaload, 1) := by decide +kernel
theorem dX12_gathers_31 : decode cX12_gathers 31 = .ok (.iload_n 2, 1) := by decide +kernel
theorem dX12_gathers_32 : decode cX12_gathers 32 = .ok (.if_icmp .ne 57, 3) := by decide +kernel
theorem dX12_gathers_35 : decode cX12_gathers 35 = .ok (.aload_n 0, 1) := by decide +kernel
theorem dX12_gathers_36 : decode cX12_gathers 36 = .ok (.getfield 81, 3) := by decide +kernel
theorem dX12_gathers_39 : decode cX12_gathers 39 = .ok (.iload 6, 2) := by decide +kernel
theorem dX12_gathers_41 : decode cX12_gathers 41 = .ok (.iaload, 1) := by decide +kernel
theorem dX12_gathers_42 : decode cX12_gathers 42 = .ok (.iload_n 3, 1) := by decide +kernel
theorem dX12_gathers_43 : decode cX12_gathers 43 = .ok (.ishr, 1) := by decide +kernel
theorem dX12_gathers_44 : decode cX12_gathers 44 = .ok (.iconst 1, 1) := by decide +kernel
theorem dX12_gathers_45 : decode cX12_gathers 45 = .ok (.iand, 1) := by decide +kernel
theorem dX12_gathers_46 : decode cX12_gathers 46 = .ok (.iconst 1, 1) := by decide +kernel
theorem dX12_gathers_47 : decode cX12_gathers 47 = .ok (.if_icmp .ne 42, 3) := by decide +kernel
theorem dX12_gathers_50 : decode cX12_gathers 50 = .ok (.aload_n 0, 1) := by decide +kernel
theorem dX12_gathers_51 : decode cX12_gathers 51 = .ok (.getfield 100, 3) := by decide +kernel
theorem dX12_gathers_54 : decode cX12_gathers 54 = .ok (.iload 5, 2) := by decide +kernel
theorem dX12_gathers_56 : decode cX12_gathers 56 = .ok (.baload, 1) := by decide +kernel
theorem dX12_gathers_57 : decode cX12_gathers 57 = .ok (.ifCond .ne 32, 3) := by decide +kernel
theorem dX12_gathers_60 : decode cX12_gathers 60 = .ok (.aload_n 0, 1) := by decide +kernel
theorem dX12_gathers_61 : decode cX12_gathers 61 = .ok (.aload_n 0, 1) := by decide +kernel
theorem dX12_gathers_62 : decode cX12_gathers 62 = .ok (.iload_n 2, 1) := by decide +kernel
theorem dX12_gathers_63 : decode cX12_gathers 63 = .ok (.aload_n 0, 1) := by decide +kernel
theorem dX12_gathers_64 : decode cX12_gathers 64 = .ok (.getfield 72, 3) := by decide +kernel
theorem dX12_gathers_67 : decode cX12_gathers 67 = .ok (.iload 6, 2) := by decide +kernel
theorem dX12_gathers_69 : decode cX12_gathers 69 = .ok (.iaload, 1) := by decide +kernel
theorem dX12_gathers_70 : decode cX12_gathers 70 = .ok (.invokevirtual 261, 3) := by decide +kernel
theorem dX12_gathers_73 : decode cX12_gathers 73 = .ok (.aload_n 0, 1) := by decide +kernel
theorem dX12_gathers_74 : decode cX12_gathers 74 = .ok (.getfield 78, 3) := by decide +kernel
theorem dX12_gathers_77 : decode cX12_gathers 77 = .ok (.iload 6, 2) := by decide +kernel
theorem dX12_gathers_79 : decode cX12_gathers 79 = .ok (.iaload, 1) := by decide +kernel
theorem dX12_gathers_80 : decode cX12_gathers 80 = .ok (.iload_n 3, 1) := by decide +kernel
theorem dX12_gathers_81 : decode cX12_gathers 81 = .ok (.invokestatic 315, 3) := by decide +kernel
theorem dX12_gathers_84 : decode cX12_gathers 84 = .ok (.iload 5, 2) := by decide +kernel
theorem dX12_gathers_86 : decode cX12_gathers 86 = .ok (.invokevirtual 308, 3) := by decide +kernel
theorem dX12_gathers_89 : decode cX12_gathers 89 = .ok (.iinc 5 1, 3) := by decide +kernel
theorem dX12_gathers_92 : decode cX12_gathers 92 = .ok (.goto (-84), 3) := by decide +kernel
theorem dX12_gathers_95 : decode cX12_gathers 95 = .ok (.return_, 1) := by decide +kernel
set_option maxHeartbeats 4000000 in
set_option maxRecDepth 100000 in
theorem s_X12_gathers {P : PP} {a0 : Nat} {a1 : Int32} {a2 : Int32} {a3 : Int32} {a4 : Int32} (I : IM P a0) (ha1 : 0 ≤ a1.toInt ∧ a1.toInt ≤ 3) (ha2 : 0 ≤ a2.toInt ∧ a2.toInt ≤ 1) (ha4 : 0 ≤ a4.toInt ∧ a4.toInt ≤ 40) (hf0 : ∀ b, pR P a0 10 = some b → 1 ≤ (pI P b (a2.toInt.toNat)).toInt ∧ (pI P b (a2.toInt.toNat)).toInt ≤ 16) (hW : MW P a0) : CtrV yX12_gathers cX12_gathers 7 none ({ frames := 6, cells := 0, slots := 0, locals := 384 } : Room) 0 0 P [.ref a0, .int a1, .int a2, .int a3, .int a4] (fun P2 => IM P2 a0 ∧ EM [28, 29, 30, 31] a0 P P2 ∧ MW P2 a0 ∧ ((pI P2 a0 28).toInt ≤ 4 + a4.toInt)) := by
  refine enV (lv := [(0, .ref a0), (1, .int a1), (2, .int a2), (3, .int a3), (4, .int a4)]) (by decide) (Nat.le_of_ble_eq_true rfl) rfl (fun E D cy C Ci0 ret => ?_)
  have ha0 := I.2.1
  have J8 : ∀ (n8 : Nat) (P8 : PP) (v8_5 : Int32), (40 - v8_5.toInt).toNat < n8 → (IM P8 a0) → (EM [28, 29, 30, 31] a0 P P8) → (MW P8 a0) → (0 ≤ v8_5.toInt ∧ v8_5.toInt ≤ 40) → (∀ b, pR P8 a0 10 = some b → 1 ≤ (pI P8 b (a2.toInt.toNat)).toInt ∧ (pI P8 b (a2.toInt.toNat)).toInt ≤ 16) → ((pI P8 a0 28).toInt ≤ 4 + v8_5.toInt) → (v8_5.toInt ≤ a4.toInt) → G E ({ frames := 6, cells := 0, slots := 0, locals := 384 } : Room) D cy 7 P8 0 0 8 [(0, .ref a0), (1, .int a1), (2, .int a2), (3, .int a3), (4, .int a4), (5, .int v8_5)] [] := by
    intro n8
    induction n8 with
    | zero => intro P8 v8_5 hm8 I8 X8 W8 hv8_5 hq8_0 rel8_0 rel8_1; omega
    | succ n8 ih8 =>
      intro P8 v8_5 hm8 I8 X8 W8 hv8_5 hq8_0 rel8_0 rel8_1
      have h44564 := X8.at ha0
      obtain ⟨b44565, e44566, h44567⟩ := I8.fld (h44564) 10 13 2 rfl
      have hq8_0 := hq8_0 b44565 e44566
      have h44568 := I8.rg h44564 28 rfl
      have J89 : ∀ (P89 : PP), (IM P89 a0) → (EM [28, 29, 30, 31] a0 P P89) → (MW P89 a0) → (1 ≤ a4.toInt ∧ a4.toInt ≤ 40) → (0 ≤ v8_5.toInt ∧ v8_5.toInt ≤ 39) → (∀ b, pR P89 a0 10 = some b → 1 ≤ (pI P89 b (a2.toInt.toNat)).toInt ∧ (pI P89 b (a2.toInt.toNat)).toInt ≤ 16) → ((pI P89 a0 28).toInt ≤ 5 + v8_5.toInt) → (v8_5.toInt < a4.toInt) → G E ({ frames := 6, cells := 0, slots := 0, locals := 384 } : Room) D cy 7 P89 0 0 89 [(0, .ref a0), (1, .int a1), (2, .int a2), (3, .int a3), (4, .int a4), (5, .int v8_5)] [] := by
        intro P89 I89 X89 W89 hv89_4 hv89_5 hq89_0 rel89_0 rel89_1
        have h44569 := X89.at ha0
        obtain ⟨b44570, e44571, h44572⟩ := I89.fld (h44569) 10 13 2 rfl
        have hq89_0 := hq89_0 b44570 e44571
        have h44573 := I89.rg h44569 28 rfl
        refine s_iinc (lv0 := [(0, .ref a0), (1, .int a1), (2, .int a2), (3, .int a3), (4, .int a4)]) (m := 1) C dX12_gathers_89 5 rfl (by decide) rfl (by decide) (by omega) (fun z44574 h44575 => ?_)
        have h44575 : z44574.toInt = v8_5.toInt + 1 := h44575
        refine g_goto C 8 dX12_gathers_92 (by decide) ?_
        refine g_lv (lv' := [(0, .ref a0), (1, .int a1), (2, .int a2), (3, .int a3), (4, .int a4), (5, .int z44574)]) [1, 2, 3, 4, 5, 0] rfl ?_
        exact ih8 P89 z44574 (by omega) I89 X89 W89 (by omega) (fun b9 e9 => by rw [e44571] at e9; cases e9; omega) (by show (pI P89 a0 28).toInt ≤ 4 + z44574.toInt; omega) (by show z44574.toInt ≤ a4.toInt; omega)
      refine g_iload C dX12_gathers_8 5 rfl ?_
      refine g_iload C dX12_gathers_10 4 rfl ?_
      refine b_icmp_ge C 95 dX12_gathers_12 (by decide) (fun h44576 => ?_) (fun h44576 => ?_)
      · have h44576 : a4.toInt ≤ v8_5.toInt := h44576
        exact ret _ _ _ _ _ dX12_gathers_95 (by decide) (by decide) ⟨I8, X8, W8, (by show (pI P8 a0 28).toInt ≤ 4 + a4.toInt; omega)⟩
      · have h44576 : v8_5.toInt < a4.toInt := h44576
        refine g_bipush (v := 40) C dX12_gathers_15 (by decide) ?_
        refine g_iload_n C dX12_gathers_17 rfl 1 rfl ?_
        refine s_imul C dX12_gathers_18 (by show -2147483648 ≤ 40 * a1.toInt ∧ 40 * a1.toInt ≤ 2147483647; omega) (fun z44577 h44578 => ?_)
        have h44578 : z44577.toInt = 40 * a1.toInt := h44578
        refine g_iload C dX12_gathers_19 5 rfl ?_
        refine s_iadd C dX12_gathers_21 (by show -2147483648 ≤ z44577.toInt + v8_5.toInt ∧ z44577.toInt + v8_5.toInt ≤ 2147483647; omega) (fun z44579 h44580 => ?_)
        have h44580 : z44579.toInt = z44577.toInt + v8_5.toInt := h44580
        refine g_istore (lv' := [(6, .int z44579), (0, .ref a0), (1, .int a1), (2, .int a2), (3, .int a3), (4, .int a4), (5, .int v8_5)]) C dX12_gathers_22 (by decide) rfl ?_
        refine g_aload_n C dX12_gathers_24 rfl 1 rfl ?_
        obtain ⟨b44581, e44582, h44583⟩ := I8.fld (h44564) 22 13 800 rfl
        refine g_getR C fi_X12_75 rfl e44582 (h44564).1 (h44564).2 dX12_gathers_25 ?_
        refine g_iload C dX12_gathers_28 0 rfl ?_
        refine g_iald (j := (z44579.toInt.toNat)) C h44583.1 h44583.2.1 (ix_in h44583.2.2 (by omega)) dX12_gathers_30 ?_
        have h44584 := I8.arr e44582 rfl (z44579.toInt.toNat)
        refine g_iload_n C dX12_gathers_31 rfl 3 rfl ?_
        refine b_icmp_ne C 89 dX12_gathers_32 (by decide) (fun h44585 => ?_) (fun h44585 => ?_)
        · have h44585 : (pI P8 b44581 (z44579.toInt.toNat)).toInt ≠ a2.toInt := ti_ne h44585
          refine g_lv (lv' := [(0, .ref a0), (1, .int a1), (2, .int a2), (3, .int a3), (4, .int a4), (5, .int v8_5)]) [1, 2, 3, 4, 5, 6] rfl ?_
          exact J89 P8 I8 X8 W8 (by omega) (by omega) (fun b9 e9 => by rw [e44566] at e9; cases e9; omega) (by show (pI P8 a0 28).toInt ≤ 5 + v8_5.toInt; omega) (by show v8_5.toInt < a4.toInt; omega)
        · have h44585 : (pI P8 b44581 (z44579.toInt.toNat)).toInt = a2.toInt := congrArg Int32.toInt h44585
          refine g_aload_n C dX12_gathers_35 rfl 1 rfl ?_
          obtain ⟨b44586, e44587, h44588⟩ := I8.fld (h44564) 24 13 800 rfl
          refine g_getR C fi_X12_81 rfl e44587 (h44564).1 (h44564).2 dX12_gathers_36 ?_
          refine g_iload C dX12_gathers_39 0 rfl ?_
          refine g_iald (j := (z44579.toInt.toNat)) C h44588.1 h44588.2.1 (ix_in h44588.2.2 (by omega)) dX12_gathers_41 ?_
          refine g_iload_n C dX12_gathers_42 rfl 4 rfl ?_
          refine a_ishr C dX12_gathers_43 (fun z44589 => ?_)
          refine g_iconst (v := 1) C dX12_gathers_44 (by decide) ?_
          refine s_iand C dX12_gathers_45 (by show 0 ≤ 1; omega) (fun z44591 h44592 => ?_)
          have h44592 : 0 ≤ z44591.toInt ∧ z44591.toInt ≤ 1 := h44592
          refine g_iconst (v := 1) C dX12_gathers_46 (by decide) ?_
          refine b_icmp_ne C 89 dX12_gathers_47 (by decide) (fun h44593 => ?_) (fun h44593 => ?_)
          · have h44593 : z44591.toInt ≠ 1 := ti_ne h44593
            refine g_lv (lv' := [(0, .ref a0), (1, .int a1), (2, .int a2), (3, .int a3), (4, .int a4), (5, .int v8_5)]) [1, 2, 3, 4, 5, 6] rfl ?_
            exact J89 P8 I8 X8 W8 (by omega) (by omega) (fun b9 e9 => by rw [e44566] at e9; cases e9; omega) (by show (pI P8 a0 28).toInt ≤ 5 + v8_5.toInt; omega) (by show v8_5.toInt < a4.toInt; omega)
          · have h44593 : z44591.toInt = 1 := congrArg Int32.toInt h44593
            refine g_aload_n C dX12_gathers_50 rfl 1 rfl ?_
            obtain ⟨b44594, e44595, h44596⟩ := I8.fld (h44564) 32 15 40 rfl
            refine g_getR C fi_X12_100 rfl e44595 (h44564).1 (h44564).2 dX12_gathers_51 ?_
            refine g_iload C dX12_gathers_54 6 rfl ?_
            refine g_zald (j := (v8_5.toInt.toNat)) C h44596.1 h44596.2.1 (ix_in h44596.2.2 (by omega)) dX12_gathers_56 ?_
            have u44598 := ti_rng (pI P8 b44594 (v8_5.toInt.toNat))
            refine b_if_ne C 89 dX12_gathers_57 (by decide) (fun h44597 => ?_) (fun h44597 => ?_)
            · have h44597 : (pI P8 b44594 (v8_5.toInt.toNat)).toInt ≠ 0 := ti_ne h44597
              refine g_lv (lv' := [(0, .ref a0), (1, .int a1), (2, .int a2), (3, .int a3), (4, .int a4), (5, .int v8_5)]) [1, 2, 3, 4, 5, 6] rfl ?_
              exact J89 P8 I8 X8 W8 (by omega) (by omega) (fun b9 e9 => by rw [e44566] at e9; cases e9; omega) (by show (pI P8 a0 28).toInt ≤ 5 + v8_5.toInt; omega) (by show v8_5.toInt < a4.toInt; omega)
            · have h44597 : (pI P8 b44594 (v8_5.toInt.toNat)).toInt = 0 := congrArg Int32.toInt h44597
              refine g_aload_n C dX12_gathers_60 rfl 1 rfl ?_
              refine g_aload_n C dX12_gathers_61 rfl 1 rfl ?_
              refine g_iload_n C dX12_gathers_62 rfl 3 rfl ?_
              refine g_aload_n C dX12_gathers_63 rfl 1 rfl ?_
              obtain ⟨b44599, e44600, h44601⟩ := I8.fld (h44564) 21 13 800 rfl
              refine g_getR C fi_X12_72 rfl e44600 (h44564).1 (h44564).2 dX12_gathers_64 ?_
              refine g_iload C dX12_gathers_67 0 rfl ?_
              refine g_iald (j := (z44579.toInt.toNat)) C h44601.1 h44601.2.1 (ix_in h44601.2.2 (by omega)) dX12_gathers_69 ?_
              refine g_callVI (rest := [.ref a0]) C mv_X12_261 [.int a2, .int (pI P8 b44599 (z44579.toInt.toNat))] (s_X12_setOf I8 (by omega) (fun b9 e9 => by rw [e44566] at e9; cases e9; show 1 ≤ (pI P8 b44565 (a2.toInt.toNat)).toInt ∧ (pI P8 b44565 (a2.toInt.toNat)).toInt ≤ 16; omega) W8) (h44564).1 (h44564).2 rfl rfl (by decide) (Nat.le_of_ble_eq_true rfl) (by decide) dX12_gathers_70 (fun r44602 Y44603 h44604 => ?_)
              obtain ⟨Iy44605, Xy44606, W44607, h44604⟩ := h44604
              have q44608 := Xy44606.keepA e44566 (by decide) rfl (a2.toInt.toNat)
              have q44609 := Xy44606.keepF 28 (by decide)
              have q44610 := Xy44606.keepA e44582 (by decide) rfl (z44579.toInt.toNat)
              have q44611 := Xy44606.keepA e44595 (by decide) rfl (v8_5.toInt.toNat)
              have Xz44612 : EM [28, 29, 30, 31] a0 P Y44603 := EM.tr ha0 X8 (Xy44606.mono (by decide))
              have e44613 := Xy44606.ref h44564 (by decide) e44566
              have e44614 := Xy44606.ref h44564 (by decide) e44582
              have e44615 := Xy44606.ref h44564 (by decide) e44595
              have h44616 := Xy44606.at h44564
              have h44617 := Xy44606.ar h44567
              have h44618 := Xy44606.ar h44583
              have h44619 := Xy44606.ar h44596
              have h44604 : True := h44604
              refine g_aload_n C dX12_gathers_73 rfl 1 rfl ?_
              obtain ⟨b44620, e44621, h44622⟩ := Iy44605.fld (h44616) 23 13 800 rfl
              refine g_getR C fi_X12_78 rfl e44621 (h44616).1 (h44616).2 dX12_gathers_74 ?_
              refine g_iload C dX12_gathers_77 0 rfl ?_
              refine g_iald (j := (z44579.toInt.toNat)) C h44622.1 h44622.2.1 (ix_in h44622.2.2 (by omega)) dX12_gathers_79 ?_
              refine g_iload_n C dX12_gathers_80 rfl 4 rfl ?_
              refine g_callSI (b := 0) (ci := 0) (rest := [.int r44602, .ref a0]) C ms_X12_315 [.int (pI Y44603 b44620 (z44579.toInt.toNat)), .int a3] (s_X12_byteOf Iy44605.1) rfl rfl (by decide) (Nat.le_of_ble_eq_true rfl) (by decide) dX12_gathers_81 (fun r44623 Y44624 h44625 => ?_)
              obtain ⟨rfl, h44625⟩ := h44625
              have h44625 : 0 ≤ r44623.toInt ∧ r44623.toInt ≤ 255 := h44625
              refine g_iload C dX12_gathers_84 6 rfl ?_
              refine g_callVV (rest := []) C mv_X12_308 [.int r44602, .int r44623, .int v8_5] (s_X12_adds Iy44605 (by omega) W44607) (h44616).1 (h44616).2 rfl rfl (by decide) (Nat.le_of_ble_eq_true rfl) (by decide) dX12_gathers_86 (fun Y44627 h44628 => ?_)
              obtain ⟨Iy44629, Xy44630, W44631, p44632⟩ := h44628
              have p44632 : (pI Y44627 a0 28).toInt = (pI Y44603 a0 28).toInt + 1 := p44632
              have q44633 := Xy44630.keepA e44613 (by decide) rfl (a2.toInt.toNat)
              have q44634 := Xy44630.keepA e44614 (by decide) rfl (z44579.toInt.toNat)
              have q44635 := Xy44630.keepA e44615 (by decide) rfl (v8_5.toInt.toNat)
              have Xz44636 : EM [28, 29, 30, 31] a0 P Y44627 := EM.tr ha0 Xz44612 (Xy44630.mono (by decide))
              have e44637 := Xy44630.ref h44616 (by decide) e44613
              have e44638 := Xy44630.ref h44616 (by decide) e44614
              have e44639 := Xy44630.ref h44616 (by decide) e44615
              have h44640 := Xy44630.at h44616
              have h44641 := Xy44630.ar h44617
              have h44642 := Xy44630.ar h44618
              have h44643 := Xy44630.ar h44619
              have h44644 := Iy44629.rg h44640 28 rfl
              refine g_lv (lv' := [(0, .ref a0), (1, .int a1), (2, .int a2), (3, .int a3), (4, .int a4), (5, .int v8_5)]) [1, 2, 3, 4, 5, 6] rfl ?_
              exact J89 Y44627 Iy44629 Xz44636 W44631 (by omega) (by omega) (fun b9 e9 => by rw [e44637] at e9; cases e9; omega) (by show (pI Y44627 a0 28).toInt ≤ 5 + v8_5.toInt; omega) (by show v8_5.toInt < a4.toInt; omega)
  obtain ⟨b44645, e44646, h44647⟩ := I.fld (ha0) 10 13 2 rfl
  have hf0 := hf0 b44645 e44646
  refine g_aload_n C dX12_gathers_0 rfl 0 rfl ?_
  refine g_iload_n C dX12_gathers_1 rfl 2 rfl ?_
  refine g_callVV (rest := []) C mv_X12_312 [.int a2] (s_X12_begins I (by omega) hW) (ha0).1 (ha0).2 rfl rfl (by decide) (Nat.le_of_ble_eq_true rfl) (by decide) dX12_gathers_2 (fun Y44649 h44650 => ?_)
  obtain ⟨Iy44651, Xy44652, W44653, p44654⟩ := h44650
  have p44654 : (pI Y44649 a0 28).toInt ≤ 4 := p44654
  have q44655 := Xy44652.keepA e44646 (by decide) rfl (a2.toInt.toNat)
  have Xz44656 : EM [28, 29, 30, 31] a0 P Y44649 := Xy44652.mono (by decide)
  have e44657 := Xy44652.ref ha0 (by decide) e44646
  have h44658 := Xy44652.at ha0
  have h44659 := Xy44652.ar h44647
  have h44660 := Iy44651.rg h44658 28 rfl
  refine g_iconst (v := 0) C dX12_gathers_5 (by decide) ?_
  refine g_istore (lv' := [(5, .int 0), (0, .ref a0), (1, .int a1), (2, .int a2), (3, .int a3), (4, .int a4)]) C dX12_gathers_6 (by decide) rfl ?_
  refine g_lv (lv' := [(0, .ref a0), (1, .int a1), (2, .int a2), (3, .int a3), (4, .int a4), (5, .int 0)]) [1, 2, 3, 4, 5, 0] rfl ?_
  exact J8 _ Y44649 0 (Nat.lt_succ_self _) Iy44651 Xz44656 W44653 (by decide) (fun b9 e9 => by rw [e44657] at e9; cases e9; omega) (by show (pI Y44649 a0 28).toInt ≤ 4 + 0; omega) (by show 0 ≤ a4.toInt; omega)
theorem dX12_doubles_15 : decode cX12_doubles 15 = .ok (.iconst (-1), 1) := by decide +kernel
theorem dX12_doubles_16 : decode cX12_doubles 16 = .ok (.ireturn, 1) := by decide +kernel
theorem dX12_doubles_34 : decode cX12_doubles 34 = .ok (.aload_n 0, 1) := by decide +kernel
theorem dX12_doubles_35 : decode cX12_doubles 35 = .ok (.invokevirtual 346, 3) := by decide +kernel
theorem dX12_doubles_38 : decode cX12_doubles 38 = .ok (.aload_n 0, 1) := by decide +kernel
theorem dX12_doubles_39 : decode cX12_doubles 39 = .ok (.getfield 324, 3) := by decide +kernel
theorem dX12_doubles_42 : decode cX12_doubles 42 = .ok (.istore 4, 2) := by decide +kernel
theorem dX12_doubles_44 : decode cX12_doubles 44 = .ok (.iconst 0, 1) := by decide +kernel
theorem dX12_doubles_45 : decode cX12_doubles 45 = .ok (.istore 5, 2) := by decide +kernel
theorem dX12_doubles_47 : decode cX12_doubles 47 = .ok (.iconst 0, 1) := by decide +kernel
theorem dX12_doubles_48 : decode cX12_doubles 48 = .ok (.istore 6, 2) := by decide +kernel
theorem dX12_doubles_50 : decode cX12_doubles 50 = .ok (.iload 6, 2) := by decide +kernel
theorem dX12_doubles_52 : decode cX12_doubles 52 = .ok (.aload_n 0, 1) := by decide +kernel
theorem dX12_doubles_53 : decode cX12_doubles 53 = .ok (.getfield 69, 3) := by decide +kernel
theorem dX12_doubles_56 : decode cX12_doubles 56 = .ok (.iload_n 1, 1) := by decide +kernel
theorem dX12_doubles_57 : decode cX12_doubles 57 = .ok (.iaload, 1) := by decide +kernel
theorem dX12_doubles_58 : decode cX12_doubles 58 = .ok (.if_icmp .ge 96, 3) := by decide +kernel
theorem dX12_doubles_61 : decode cX12_doubles 61 = .ok (.bipush 40, 2) := by decide +kernel
theorem dX12_doubles_63 : decode cX12_doubles 63 = .ok (.iload_n 1, 1) := by decide +kernel
theorem dX12_doubles_64 : decode cX12_doubles 64 = .ok (.imul, 1) := by decide +kernel
theorem dX12_doubles_65 : decode cX12_doubles 65 = .ok (.iload 6, 2) := by decide +kernel
theorem dX12_doubles_67 : decode cX12_doubles 67 = .ok (.iadd, 1) := by decide +kernel
theorem dX12_doubles_68 : decode cX12_doubles 68 = .ok (.istore 7, 2) := by decide +kernel
theorem dX12_doubles_70 : decode cX12_doubles 70 = .ok (.aload_n 0, 1) := by decide +kernel
theorem dX12_doubles_71 : decode cX12_doubles 71 = .ok (.getfield 75, 3) := by decide +kernel
theorem dX12_doubles_74 : decode cX12_doubles 74 = .ok (.iload 7, 2) := by decide +kernel
theorem dX12_doubles_76 : decode cX12_doubles 76 = .ok (.iaload, 1) := by decide +kernel
theorem dX12_doubles_77 : decode cX12_doubles 77 = .ok (.iload_n 2, 1) := by decide +kernel
theorem dX12_doubles_78 : decode cX12_doubles 78 = .ok (.if_icmp .ne 70, 3) := by decide +kernel
theorem dX12_doubles_81 : decode cX12_doubles 81 = .ok (.aload_n 0, 1) := by decide +kernel
theorem dX12_doubles_82 : decode cX12_doubles 82 = .ok (.getfield 81, 3) := by decide +kernel
theorem dX12_doubles_85 : decode cX12_doubles 85 = .ok (.iload 7, 2) := by decide +kernel
theorem dX12_doubles_87 : decode cX12_doubles 87 = .ok (.iaload, 1) := by decide +kernel
theorem dX12_doubles_88 : decode cX12_doubles 88 = .ok (.iload_n 3, 1) := by decide +kernel
theorem dX12_doubles_89 : decode cX12_doubles 89 = .ok (.ishr, 1) := by decide +kernel
theorem dX12_doubles_90 : decode cX12_doubles 90 = .ok (.iconst 1, 1) := by decide +kernel
theorem dX12_doubles_91 : decode cX12_doubles 91 = .ok (.iand, 1) := by decide +kernel
theorem dX12_doubles_92 : decode cX12_doubles 92 = .ok (.iconst 1, 1) := by decide +kernel
theorem dX12_doubles_93 : decode cX12_doubles 93 = .ok (.if_icmp .ne 55, 3) := by decide +kernel
theorem dX12_doubles_96 : decode cX12_doubles 96 = .ok (.aload_n 0, 1) := by decide +kernel
theorem dX12_doubles_97 : decode cX12_doubles 97 = .ok (.getfield 100, 3) := by decide +kernel
theorem dX12_doubles_100 : decode cX12_doubles 100 = .ok (.iload 6, 2) := by decide +kernel
theorem dX12_doubles_102 : decode cX12_doubles 102 = .ok (.iconst 1, 1) := by decide +kernel
theorem dX12_doubles_103 : decode cX12_doubles 103 = .ok (.bastore, 1) := by decide +kernel
theorem dX12_doubles_104 : decode cX12_doubles 104 = .ok (.aload_n 0, 1) := by decide +kernel
theorem dX12_doubles_105 : decode cX12_doubles 105 = .ok (.iload_n 1, 1) := by decide +kernel
theorem dX12_doubles_106 : decode cX12_doubles 106 = .ok (.iload_n 2, 1) := by decide +kernel
theorem dX12_doubles_107 : decode cX12_doubles 107 = .ok (.iload_n 3, 1) := by decide +kernel
theorem dX12_doubles_108 : decode cX12_doubles 108 = .ok (.aload_n 0, 1) := by decide +kernel
theorem dX12_doubles_109 : decode cX12_doubles 109 = .ok (.getfield 69, 3) := by decide +kernel
theorem dX12_doubles_112 : decode cX12_doubles 112 = .ok (.iload_n 1, 1) := by decide +kernel
theorem dX12_doubles_113 : decode cX12_doubles 113 = .ok (.iaload, 1) := by decide +kernel
theorem dX12_doubles_114 : decode cX12_doubles 114 = .ok (.invokevirtual 339, 3) := by decide +kernel
theorem dX12_doubles_117 : decode cX12_doubles 117 = .ok (.aload_n 0, 1) := by decide +kernel
theorem dX12_doubles_118 : decode cX12_doubles 118 = .ok (.invokevirtual 346, 3) := by decide +kernel
theorem dX12_doubles_121 : decode cX12_doubles 121 = .ok (.iload 5, 2) := by decide +kernel
theorem dX12_doubles_123 : decode cX12_doubles 123 = .ok (.aload_n 0, 1) := by decide +kernel
theorem dX12_doubles_124 : decode cX12_doubles 124 = .ok (.getfield 324, 3) := by decide +kernel
theorem dX12_doubles_127 : decode cX12_doubles 127 = .ok (.iload 4, 2) := by decide +kernel
theorem dX12_doubles_129 : decode cX12_doubles 129 = .ok (.if_icmp .ne 7, 3) := by decide +kernel
theorem dX12_doubles_132 : decode cX12_doubles 132 = .ok (.iconst 1, 1) := by decide +kernel
theorem dX12_doubles_133 : decode cX12_doubles 133 = .ok (.goto 4, 3) := by decide +kernel
theorem dX12_doubles_136 : decode cX12_doubles 136 = .ok (.iconst 0, 1) := by decide +kernel
theorem dX12_doubles_137 : decode cX12_doubles 137 = .ok (.iadd, 1) := by decide +kernel
theorem dX12_doubles_138 : decode cX12_doubles 138 = .ok (.istore 5, 2) := by decide +kernel
theorem dX12_doubles_140 : decode cX12_doubles 140 = .ok (.aload_n 0, 1) := by decide +kernel
theorem dX12_doubles_141 : decode cX12_doubles 141 = .ok (.getfield 100, 3) := by decide +kernel
theorem dX12_doubles_144 : decode cX12_doubles 144 = .ok (.iload 6, 2) := by decide +kernel
theorem dX12_doubles_146 : decode cX12_doubles 146 = .ok (.iconst 0, 1) := by decide +kernel
theorem dX12_doubles_147 : decode cX12_doubles 147 = .ok (.bastore, 1) := by decide +kernel
theorem dX12_doubles_148 : decode cX12_doubles 148 = .ok (.iinc 6 1, 3) := by decide +kernel
theorem dX12_doubles_151 : decode cX12_doubles 151 = .ok (.goto (-101), 3) := by decide +kernel
theorem dX12_doubles_154 : decode cX12_doubles 154 = .ok (.iload 5, 2) := by decide +kernel
theorem dX12_doubles_156 : decode cX12_doubles 156 = .ok (.ireturn, 1) := by decide +kernel
set_option maxHeartbeats 4000000 in
set_option maxRecDepth 100000 in
theorem s_X12_doubles {P : PP} {a0 : Nat} {a1 : Int32} {a2 : Int32} {a3 : Int32} (I : IM P a0) (hW : MW P a0) : CtrI yX12_doubles cX12_doubles 8 (some Jvm.ClassFile.FieldType.int) ({ frames := 7, cells := 0, slots := 0, locals := 448 } : Room) 0 0 P [.ref a0, .int a1, .int a2, .int a3] (fun r P2 => IM P2 a0 ∧ EM [0, 28, 29, 30, 31, 32, 35, 36, 37, 38] a0 P P2 ∧ MW P2 a0 ∧ (True)) := by
  refine enI (lv := [(0, .ref a0), (1, .int a1), (2, .int a2), (3, .int a3)]) (by decide) (Nat.le_of_ble_eq_true rfl) rfl (fun E D cy C Ci0 ret => ?_)
  have ha0 := I.2.1
  have J50 : ∀ (n50 : Nat) (P50 : PP) (v50_4 : Int32) (v50_5 : Int32) (v50_6 : Int32), (40 - v50_6.toInt).toNat < n50 → (IM P50 a0) → (EM [0, 28, 29, 30, 31, 32, 35, 36, 37, 38] a0 P P50) → (MW P50 a0) → (0 ≤ a1.toInt ∧ a1.toInt ≤ 3) → (0 ≤ a2.toInt ∧ a2.toInt ≤ 1) → (0 ≤ a3.toInt ∧ a3.toInt ≤ 1) → (0 ≤ v50_6.toInt ∧ v50_6.toInt ≤ 40) → (0 ≤ (pI P50 a0 0).toInt ∧ (pI P50 a0 0).toInt ≤ 0) → (0 ≤ (pI P50 a0 28).toInt ∧ (pI P50 a0 28).toInt ≤ 44) → (∀ b, pR P50 a0 10 = some b → 1 ≤ (pI P50 b (a2.toInt.toNat)).toInt ∧ (pI P50 b (a2.toInt.toNat)).toInt ≤ 16) → G E ({ frames := 7, cells := 0, slots := 0, locals := 448 } : Room) D cy 8 P50 0 0 50 [(0, .ref a0), (1, .int a1), (2, .int a2), (3, .int a3), (4, .int v50_4), (5, .int v50_5), (6, .int v50_6)] [] := by
    intro n50
    induction n50 with
    | zero => intro P50 v50_4 v50_5 v50_6 hm50 I50 X50 W50 hv50_1 hv50_2 hv50_3 hv50_6 hq50_0 hq50_1 hq50_2; omega
    | succ n50 ih50 =>
      intro P50 v50_4 v50_5 v50_6 hm50 I50 X50 W50 hv50_1 hv50_2 hv50_3 hv50_6 hq50_0 hq50_1 hq50_2
      have h50399 := X50.at ha0
      obtain ⟨b50400, e50401, h50402⟩ := I50.fld (h50399) 10 13 2 rfl
      have hq50_2 := hq50_2 b50400 e50401
      have J148 : ∀ (P148 : PP) (v148_5 : Int32), (IM P148 a0) → (EM [0, 28, 29, 30, 31, 32, 35, 36, 37, 38] a0 P P148) → (MW P148 a0) → (0 ≤ a1.toInt ∧ a1.toInt ≤ 3) → (0 ≤ a2.toInt ∧ a2.toInt ≤ 1) → (0 ≤ a3.toInt ∧ a3.toInt ≤ 1) → (0 ≤ v50_6.toInt ∧ v50_6.toInt ≤ 39) → (0 ≤ (pI P148 a0 0).toInt ∧ (pI P148 a0 0).toInt ≤ 0) → (0 ≤ (pI P148 a0 28).toInt ∧ (pI P148 a0 28).toInt ≤ 44) → (∀ b, pR P148 a0 10 = some b → 1 ≤ (pI P148 b (a2.toInt.toNat)).toInt ∧ (pI P148 b (a2.toInt.toNat)).toInt ≤ 16) → (∀ b, pR P148 a0 20 = some b → 1 ≤ (pI P148 b (a1.toInt.toNat)).toInt ∧ (pI P148 b (a1.toInt.toNat)).toInt ≤ 40) → G E ({ frames := 7, cells := 0, slots := 0, locals := 448 } : Room) D cy 8 P148 0 0 148 [(0, .ref a0), (1, .int a1), (2, .int a2), (3, .int a3), (4, .int v50_4), (5, .int v148_5), (6, .int v50_6)] [] := by
        intro P148 v148_5 I148 X148 W148 hv148_1 hv148_2 hv148_3 hv148_6 hq148_0 hq148_1 hq148_2 hq148_3
        have h50403 := X148.at ha0
        obtain ⟨b50404, e50405, h50406⟩ := I148.fld (h50403) 10 13 2 rfl
        have hq148_2 := hq148_2 b50404 e50405
        obtain ⟨b50407, e50408, h50409⟩ := I148.fld (h50403) 20 13 20 rfl
        have hq148_3 := hq148_3 b50407 e50408
        refine s_iinc (lv0 := [(0, .ref a0), (1, .int a1), (2, .int a2), (3, .int a3), (4, .int v50_4), (5, .int v148_5)]) (m := 1) C dX12_doubles_148 6 rfl (by decide) rfl (by decide) (by omega) (fun z50410 h50411 => ?_)
        have h50411 : z50410.toInt = v50_6.toInt + 1 := h50411
        refine g_goto C 50 dX12_doubles_151 (by decide) ?_
        refine g_lv (lv' := [(0, .ref a0), (1, .int a1), (2, .int a2), (3, .int a3), (4, .int v50_4), (5, .int v148_5), (6, .int z50410)]) [1, 2, 3, 4, 5, 6, 0] rfl ?_
        exact ih50 P148 v50_4 v148_5 z50410 (by omega) I148 X148 W148 (by omega) (by omega) (by omega) (by omega) (by omega) (by omega) (fun b9 e9 => by rw [e50405] at e9; cases e9; omega)
      have J137 : ∀ (P137 : PP) (v137_s0 : Int32), (IM P137 a0) → (EM [0, 28, 29, 30, 31, 32, 35, 36, 37, 38] a0 P P137) → (MW P137 a0) → (0 ≤ a1.toInt ∧ a1.toInt ≤ 3) → (0 ≤ a2.toInt ∧ a2.toInt ≤ 1) → (0 ≤ a3.toInt ∧ a3.toInt ≤ 1) → (0 ≤ v50_6.toInt ∧ v50_6.toInt ≤ 39) → (0 ≤ v137_s0.toInt ∧ v137_s0.toInt ≤ 1) → (0 ≤ (pI P137 a0 0).toInt ∧ (pI P137 a0 0).toInt ≤ 0) → (0 ≤ (pI P137 a0 28).toInt ∧ (pI P137 a0 28).toInt ≤ 44) → (∀ b, pR P137 a0 10 = some b → 1 ≤ (pI P137 b (a2.toInt.toNat)).toInt ∧ (pI P137 b (a2.toInt.toNat)).toInt ≤ 16) → (∀ b, pR P137 a0 20 = some b → 1 ≤ (pI P137 b (a1.toInt.toNat)).toInt ∧ (pI P137 b (a1.toInt.toNat)).toInt ≤ 40) → (∀ b, pR P137 a0 32 = some b → 1 ≤ (pI P137 b (v50_6.toInt.toNat)).toInt ∧ (pI P137 b (v50_6.toInt.toNat)).toInt ≤ 1) → G E ({ frames := 7, cells := 0, slots := 0, locals := 448 } : Room) D cy 8 P137 0 0 137 [(0, .ref a0), (1, .int a1), (2, .int a2), (3, .int a3), (4, .int v50_4), (6, .int v50_6)] [.int v137_s0, .int v50_5] := by
        intro P137 v137_s0 I137 X137 W137 hv137_1 hv137_2 hv137_3 hv137_6 hv137_s0 hq137_0 hq137_1 hq137_2 hq137_3 hq137_4
        have h50412 := X137.at ha0
        obtain ⟨b50413, e50414, h50415⟩ := I137.fld (h50412) 10 13 2 rfl
        have hq137_2 := hq137_2 b50413 e50414
        obtain ⟨b50416, e50417, h50418⟩ := I137.fld (h50412) 20 13 20 rfl
        have hq137_3 := hq137_3 b50416 e50417
        obtain ⟨b50419, e50420, h50421⟩ := I137.fld (h50412) 32 15 40 rfl
        have hq137_4 := hq137_4 b50419 e50420
        refine a_iadd C dX12_doubles_137 (fun z50422 => ?_)
        refine g_istore (lv' := [(5, .int z50422), (0, .ref a0), (1, .int a1), (2, .int a2), (3, .int a3), (4, .int v50_4), (6, .int v50_6)]) C dX12_doubles_138 (by decide) rfl ?_
        refine g_aload_n C dX12_doubles_140 rfl 1 rfl ?_
        refine g_getR C fi_X12_100 rfl e50420 (h50412).1 (h50412).2 dX12_doubles_141 ?_
        refine g_iload C dX12_doubles_144 6 rfl ?_
        refine g_iconst (v := 0) C dX12_doubles_146 (by decide) ?_
        refine g_zast (j := (v50_6.toInt.toNat)) C h50421.1 h50421.2.1 (ix_in h50421.2.2 (by omega)) (Or.inl rfl) dX12_doubles_147 ?_
        refine gqW (ks := [32]) (I137.setA e50420 h50421 (by decide) (arOk.none rfl)) (EM.setA I137 e50420 rfl (by decide)) (fun Y50424 Iy50425 Xy50426 w50427 => ?_)
        have w50427 : (pI Y50424 b50419 (v50_6.toInt.toNat)).toInt = 0 := w50427
        have q50428 := Xy50426.keepF 0 (by decide)
        have q50429 := Xy50426.keepF 28 (by decide)
        have q50430 := Xy50426.keepA e50414 (by decide) rfl (a2.toInt.toNat)
        have q50431 := Xy50426.keepA e50417 (by decide) rfl (a1.toInt.toNat)
        have W50432 := W137.keep I137 Xy50426 (by decide) (by decide) (by decide)
        have Xz50433 : EM [0, 28, 29, 30, 31, 32, 35, 36, 37, 38] a0 P Y50424 := EM.tr ha0 X137 (Xy50426.mono (by decide))
        have e50434 := Xy50426.ref h50412 (by decide) e50414
        have e50435 := Xy50426.ref h50412 (by decide) e50417
        have e50436 := Xy50426.ref h50412 (by decide) e50420
        have h50437 := Xy50426.at h50412
        have h50438 := Xy50426.ar h50415
        have h50439 := Xy50426.ar h50418
        have h50440 := Xy50426.ar h50421
        refine g_lv (lv' := [(0, .ref a0), (1, .int a1), (2, .int a2), (3, .int a3), (4, .int v50_4), (5, .int z50422), (6, .int v50_6)]) [1, 2, 3, 4, 5, 0, 6] rfl ?_
        exact J148 Y50424 z50422 Iy50425 Xz50433 W50432 (by omega) (by omega) (by omega) (by omega) (by omega) (by omega) (fun b9 e9 => by rw [e50434] at e9; cases e9; omega) (fun b9 e9 => by rw [e50435] at e9; cases e9; omega)
      refine g_iload C dX12_doubles_50 6 rfl ?_
      refine g_aload_n C dX12_doubles_52 rfl 0 rfl ?_
      obtain ⟨b50441, e50442, h50443⟩ := I50.fld (h50399) 20 13 20 rfl
      refine g_getR C fi_X12_69 rfl e50442 (h50399).1 (h50399).2 dX12_doubles_53 ?_
      refine g_iload_n C dX12_doubles_56 rfl 1 rfl ?_
      refine g_iald (j := (a1.toInt.toNat)) C h50443.1 h50443.2.1 (ix_in h50443.2.2 (by omega)) dX12_doubles_57 ?_
      have h50444 := I50.arr e50442 rfl (a1.toInt.toNat)
      refine b_icmp_ge C 154 dX12_doubles_58 (by decide) (fun h50445 => ?_) (fun h50445 => ?_)
      · have h50445 : (pI P50 b50441 (a1.toInt.toNat)).toInt ≤ v50_6.toInt := h50445
        refine g_iload C dX12_doubles_154 5 rfl ?_
        exact ret _ _ _ _ _ _ dX12_doubles_156 rfl (by decide) (by decide) ⟨I50, X50, W50, trivial⟩
      · have h50445 : v50_6.toInt < (pI P50 b50441 (a1.toInt.toNat)).toInt := h50445
        refine g_bipush (v := 40) C dX12_doubles_61 (by decide) ?_
        refine g_iload_n C dX12_doubles_63 rfl 1 rfl ?_
        refine s_imul C dX12_doubles_64 (by show -2147483648 ≤ 40 * a1.toInt ∧ 40 * a1.toInt ≤ 2147483647; omega) (fun z50446 h50447 => ?_)
        have h50447 : z50446.toInt = 40 * a1.toInt := h50447
        refine g_iload C dX12_doubles_65 6 rfl ?_
        refine s_iadd C dX12_doubles_67 (by show -2147483648 ≤ z50446.toInt + v50_6.toInt ∧ z50446.toInt + v50_6.toInt ≤ 2147483647; omega) (fun z50448 h50449 => ?_)
        have h50449 : z50448.toInt = z50446.toInt + v50_6.toInt := h50449
        refine g_istore (lv' := [(7, .int z50448), (0, .ref a0), (1, .int a1), (2, .int a2), (3, .int a3), (4, .int v50_4), (5, .int v50_5), (6, .int v50_6)]) C dX12_doubles_68 (by decide) rfl ?_
        refine g_aload_n C dX12_doubles_70 rfl 1 rfl ?_
        obtain ⟨b50450, e50451, h50452⟩ := I50.fld (h50399) 22 13 800 rfl
        refine g_getR C fi_X12_75 rfl e50451 (h50399).1 (h50399).2 dX12_doubles_71 ?_
        refine g_iload C dX12_doubles_74 0 rfl ?_
        refine g_iald (j := (z50448.toInt.toNat)) C h50452.1 h50452.2.1 (ix_in h50452.2.2 (by omega)) dX12_doubles_76 ?_
        have h50453 := I50.arr e50451 rfl (z50448.toInt.toNat)
        refine g_iload_n C dX12_doubles_77 rfl 3 rfl ?_
        refine b_icmp_ne C 148 dX12_doubles_78 (by decide) (fun h50454 => ?_) (fun h50454 => ?_)
        · have h50454 : (pI P50 b50450 (z50448.toInt.toNat)).toInt ≠ a2.toInt := ti_ne h50454
          refine g_lv (lv' := [(0, .ref a0), (1, .int a1), (2, .int a2), (3, .int a3), (4, .int v50_4), (5, .int v50_5), (6, .int v50_6)]) [1, 2, 3, 4, 5, 6, 7] rfl ?_
          exact J148 P50 v50_5 I50 X50 W50 (by omega) (by omega) (by omega) (by omega) (by omega) (by omega) (fun b9 e9 => by rw [e50401] at e9; cases e9; omega) (fun b9 e9 => by rw [e50442] at e9; cases e9; omega)
        · have h50454 : (pI P50 b50450 (z50448.toInt.toNat)).toInt = a2.toInt := congrArg Int32.toInt h50454
          refine g_aload_n C dX12_doubles_81 rfl 1 rfl ?_
          obtain ⟨b50455, e50456, h50457⟩ := I50.fld (h50399) 24 13 800 rfl
          refine g_getR C fi_X12_81 rfl e50456 (h50399).1 (h50399).2 dX12_doubles_82 ?_
          refine g_iload C dX12_doubles_85 0 rfl ?_
          refine g_iald (j := (z50448.toInt.toNat)) C h50457.1 h50457.2.1 (ix_in h50457.2.2 (by omega)) dX12_doubles_87 ?_
          refine g_iload_n C dX12_doubles_88 rfl 4 rfl ?_
          refine a_ishr C dX12_doubles_89 (fun z50458 => ?_)
          refine g_iconst (v := 1) C dX12_doubles_90 (by decide) ?_
          refine s_iand C dX12_doubles_91 (by show 0 ≤ 1; omega) (fun z50460 h50461 => ?_)
          have h50461 : 0 ≤ z50460.toInt ∧ z50460.toInt ≤ 1 := h50461
          refine g_iconst (v := 1) C dX12_doubles_92 (by decide) ?_
          refine b_icmp_ne C 148 dX12_doubles_93 (by decide) (fun h50462 => ?_) (fun h50462 => ?_)
          · have h50462 : z50460.toInt ≠ 1 := ti_ne h50462
            refine g_lv (lv' := [(0, .ref a0), (1, .int a1), (2, .int a2), (3, .int a3), (4, .int v50_4), (5, .int v50_5), (6, .int v50_6)]) [1, 2, 3, 4, 5, 6, 7] rfl ?_
            exact J148 P50 v50_5 I50 X50 W50 (by omega) (by omega) (by omega) (by omega) (by omega) (by omega) (fun b9 e9 => by rw [e50401] at e9; cases e9; omega) (fun b9 e9 => by rw [e50442] at e9; cases e9; omega)
          · have h50462 : z50460.toInt = 1 := congrArg Int32.toInt h50462
            refine g_aload_n C dX12_doubles_96 rfl 1 rfl ?_
            obtain ⟨b50463, e50464, h50465⟩ := I50.fld (h50399) 32 15 40 rfl
            refine g_getR C fi_X12_100 rfl e50464 (h50399).1 (h50399).2 dX12_doubles_97 ?_
            refine g_iload C dX12_doubles_100 7 rfl ?_
            refine g_iconst (v := 1) C dX12_doubles_102 (by decide) ?_
            refine g_zast (j := (v50_6.toInt.toNat)) C h50465.1 h50465.2.1 (ix_in h50465.2.2 (by omega)) (Or.inr rfl) dX12_doubles_103 ?_
            refine gqW (ks := [32]) (I50.setA e50464 h50465 (by decide) (arOk.none rfl)) (EM.setA I50 e50464 rfl (by decide)) (fun Y50466 Iy50467 Xy50468 w50469 => ?_)
            have w50469 : (pI Y50466 b50463 (v50_6.toInt.toNat)).toInt = 1 := w50469
            have q50470 := Xy50468.keepF 0 (by decide)
            have q50471 := Xy50468.keepF 28 (by decide)
            have q50472 := Xy50468.keepA e50401 (by decide) rfl (a2.toInt.toNat)
            have q50473 := Xy50468.keepA e50442 (by decide) rfl (a1.toInt.toNat)
            have q50474 := Xy50468.keepA e50451 (by decide) rfl (z50448.toInt.toNat)
            have W50475 := W50.keep I50 Xy50468 (by decide) (by decide) (by decide)
            have Xz50476 : EM [0, 28, 29, 30, 31, 32, 35, 36, 37, 38] a0 P Y50466 := EM.tr ha0 X50 (Xy50468.mono (by decide))
            have e50477 := Xy50468.ref h50399 (by decide) e50401
            have e50478 := Xy50468.ref h50399 (by decide) e50442
            have e50479 := Xy50468.ref h50399 (by decide) e50451
            have e50480 := Xy50468.ref h50399 (by decide) e50464
            have h50481 := Xy50468.at h50399
            have h50482 := Xy50468.ar h50402
            have h50483 := Xy50468.ar h50443
            have h50484 := Xy50468.ar h50452
            have h50485 := Xy50468.ar h50465
            refine g_aload_n C dX12_doubles_104 rfl 1 rfl ?_
            refine g_iload_n C dX12_doubles_105 rfl 2 rfl ?_
            refine g_iload_n C dX12_doubles_106 rfl 3 rfl ?_
            refine g_iload_n C dX12_doubles_107 rfl 4 rfl ?_
            refine g_aload_n C dX12_doubles_108 rfl 1 rfl ?_
            refine g_getR C fi_X12_69 rfl e50478 (h50481).1 (h50481).2 dX12_doubles_109 ?_
            refine g_iload_n C dX12_doubles_112 rfl 2 rfl ?_
            refine g_iald (j := (a1.toInt.toNat)) C h50483.1 h50483.2.1 (ix_in h50483.2.2 (by omega)) dX12_doubles_113 ?_
            refine g_callVV (rest := []) C mv_X12_339 [.int a1, .int a2, .int a3, .int (pI Y50466 b50441 (a1.toInt.toNat))] (s_X12_gathers Iy50467 (by omega) (by omega) (by omega) (fun b9 e9 => by rw [e50477] at e9; cases e9; show 1 ≤ (pI Y50466 b50400 (a2.toInt.toNat)).toInt ∧ (pI Y50466 b50400 (a2.toInt.toNat)).toInt ≤ 16; omega) W50475) (h50481).1 (h50481).2 rfl rfl (by decide) (Nat.le_of_ble_eq_true rfl) (by decide) dX12_doubles_114 (fun Y50487 h50488 => ?_)
            obtain ⟨Iy50489, Xy50490, W50491, p50492⟩ := h50488
            have p50492 : (pI Y50487 a0 28).toInt ≤ 4 + (pI Y50466 b50441 (a1.toInt.toNat)).toInt := p50492
            have q50493 := Xy50490.keepF 0 (by decide)
            have q50494 := Xy50490.keepA e50477 (by decide) rfl (a2.toInt.toNat)
            have q50495 := Xy50490.keepA e50478 (by decide) rfl (a1.toInt.toNat)
            have q50496 := Xy50490.keepA e50479 (by decide) rfl (z50448.toInt.toNat)
            have q50497 := Xy50490.keepA e50480 (by decide) rfl (v50_6.toInt.toNat)
            have Xz50498 : EM [0, 28, 29, 30, 31, 32, 35, 36, 37, 38] a0 P Y50487 := EM.tr ha0 Xz50476 (Xy50490.mono (by decide))
            have e50499 := Xy50490.ref h50481 (by decide) e50477
            have e50500 := Xy50490.ref h50481 (by decide) e50478
            have e50501 := Xy50490.ref h50481 (by decide) e50479
            have e50502 := Xy50490.ref h50481 (by decide) e50480
            have h50503 := Xy50490.at h50481
            have h50504 := Xy50490.ar h50482
            have h50505 := Xy50490.ar h50483
            have h50506 := Xy50490.ar h50484
            have h50507 := Xy50490.ar h50485
            have h50508 := Iy50489.rg h50503 28 rfl
            refine g_aload_n C dX12_doubles_117 rfl 1 rfl ?_
            refine g_callVV (rest := []) C mv_X12_346 [] (s_X12_findSolved Iy50489 W50491) (h50503).1 (h50503).2 rfl rfl (by decide) (Nat.le_of_ble_eq_true rfl) (by decide) dX12_doubles_118 (fun Y50510 h50511 => ?_)
            obtain ⟨Iy50512, Xy50513, W50514⟩ := h50511
            have q50515 := Xy50513.keepF 0 (by decide)
            have q50516 := Xy50513.keepA e50499 (by decide) rfl (a2.toInt.toNat)
            have q50517 := Xy50513.keepA e50500 (by decide) rfl (a1.toInt.toNat)
            have q50518 := Xy50513.keepA e50501 (by decide) rfl (z50448.toInt.toNat)
            have q50519 := Xy50513.keepA e50502 (by decide) rfl (v50_6.toInt.toNat)
            have q50520 := Xy50513.keepF 28 (by decide)
            have Xz50521 : EM [0, 28, 29, 30, 31, 32, 35, 36, 37, 38] a0 P Y50510 := EM.tr ha0 Xz50498 (Xy50513.mono (by decide))
            have e50522 := Xy50513.ref h50503 (by decide) e50499
            have e50523 := Xy50513.ref h50503 (by decide) e50500
            have e50524 := Xy50513.ref h50503 (by decide) e50501
            have e50525 := Xy50513.ref h50503 (by decide) e50502
            have h50526 := Xy50513.at h50503
            have h50527 := Xy50513.ar h50504
            have h50528 := Xy50513.ar h50505
            have h50529 := Xy50513.ar h50506
            have h50530 := Xy50513.ar h50507
            refine g_iload C dX12_doubles_121 6 rfl ?_
            refine g_aload_n C dX12_doubles_123 rfl 1 rfl ?_
            refine g_getI C fi_X12_324 (by decide) (h50526).1 (h50526).2 dX12_doubles_124 ?_
            refine g_iload C dX12_doubles_127 5 rfl ?_
            have u50532 := ti_rng (pI Y50510 a0 35)
            have u50533 := ti_rng v50_4
            refine b_icmp_ne C 136 dX12_doubles_129 (by decide) (fun h50531 => ?_) (fun h50531 => ?_)
            · have h50531 : (pI Y50510 a0 35).toInt ≠ v50_4.toInt := ti_ne h50531
              refine g_iconst (v := 0) C dX12_doubles_136 (by decide) ?_
              refine g_lv (lv' := [(0, .ref a0), (1, .int a1), (2, .int a2), (3, .int a3), (4, .int v50_4), (6, .int v50_6)]) [1, 2, 3, 4, 5, 7] rfl ?_
              exact J137 Y50510 0 Iy50512 Xz50521 W50514 (by omega) (by omega) (by omega) (by omega) (by decide) (by omega) (by omega) (fun b9 e9 => by rw [e50522] at e9; cases e9; omega) (fun b9 e9 => by rw [e50523] at e9; cases e9; omega) (fun b9 e9 => by rw [e50525] at e9; cases e9; omega)
            · have h50531 : (pI Y50510 a0 35).toInt = v50_4.toInt := congrArg Int32.toInt h50531
              refine g_iconst (v := 1) C dX12_doubles_132 (by decide) ?_
              refine g_goto C 137 dX12_doubles_133 (by decide) ?_
              refine g_lv (lv' := [(0, .ref a0), (1, .int a1), (2, .int a2), (3, .int a3), (4, .int v50_4), (6, .int v50_6)]) [1, 2, 3, 4, 5, 7] rfl ?_
              exact J137 Y50510 1 Iy50512 Xz50521 W50514 (by omega) (by omega) (by omega) (by omega) (by decide) (by omega) (by omega) (fun b9 e9 => by rw [e50522] at e9; cases e9; omega) (fun b9 e9 => by rw [e50523] at e9; cases e9; omega) (fun b9 e9 => by rw [e50525] at e9; cases e9; omega)
  refine g_aload_n C dX12_doubles_0 rfl 0 rfl ?_
  refine g_iconst (v := 0) C dX12_doubles_1 (by decide) ?_
  refine g_putI C fi_X12_1 rfl (ha0).1 (ha0).2 dX12_doubles_2 ?_
  refine gqW (ks := [0]) (I.setI (rgOk.of rfl (by decide))) (EM.setI I (by decide)) (fun Y50534 Iy50535 Xy50536 w50537 => ?_)
  have w50537 : (pI Y50534 a0 0).toInt = 0 := w50537
  have W50538 := hW.keep I Xy50536 (by decide) (by decide) (by decide)
  have Xz50539 : EM [0, 28, 29, 30, 31, 32, 35, 36, 37, 38] a0 P Y50534 := Xy50536.mono (by decide)
  have h50540 := Xy50536.at ha0
  refine g_aload_n C dX12_doubles_5 rfl 0 rfl ?_
  refine g_iload_n C dX12_doubles_6 rfl 1 rfl ?_
  refine g_iload_n C dX12_doubles_7 rfl 2 rfl ?_
  refine g_iload_n C dX12_doubles_8 rfl 3 rfl ?_
  refine g_callVI (rest := []) C mv_X12_333 [.int a1, .int a2, .int a3] (s_X12_isAsked Iy50535 W50538) (h50540).1 (h50540).2 rfl rfl (by decide) (Nat.le_of_ble_eq_true rfl) (by decide) dX12_doubles_9 (fun r50541 Y50542 h50543 => ?_)
  obtain ⟨rfl, h50543⟩ := h50543
  obtain ⟨h50543, hi50544, hi50545⟩ := h50543
  have hi50544 : r50541.toInt = 0 ∨ (((0 : Int) ≤ a1.toInt ∧ a1.toInt ≤ (3 : Int)) ∧ ((0 : Int) ≤ a2.toInt ∧ a2.toInt ≤ (1 : Int)) ∧ ((0 : Int) ≤ a3.toInt ∧ a3.toInt ≤ (1 : Int))) := hi50544
  have h50543 : 0 ≤ r50541.toInt ∧ r50541.toInt ≤ 1 := h50543
  refine b_if_ne C 17 dX12_doubles_12 (by decide) (fun h50546 => ?_) (fun h50546 => ?_)
  · have h50546 : r50541.toInt ≠ 0 := ti_ne h50546
    replace hi50544 := hi50544.resolve_left (by omega)
    obtain ⟨b50547, e50548, h50549⟩ := Iy50535.fld (h50540) 10 13 2 rfl
    have hi50545 := (hi50545.resolve_left (by omega)) b50547 e50548
    have hi50545 : 0 < (pI Y50534 b50547 (a2.toInt.toNat)).toInt := hi50545
    have h50550 := Iy50535.arr e50548 rfl (a2.toInt.toNat)
    refine g_aload_n C dX12_doubles_17 rfl 0 rfl ?_
    refine g_callVV (rest := []) C mv_X12_336 [] (s_X12_leavesNone Iy50535 W50538) (h50540).1 (h50540).2 rfl rfl (by decide) (Nat.le_of_ble_eq_true rfl) (by decide) dX12_doubles_18 (fun Y50552 h50553 => ?_)
    obtain ⟨Iy50554, Xy50555, W50556⟩ := h50553
    have q50557 := Xy50555.keepF 0 (by decide)
    have q50558 := Xy50555.keepA e50548 (by decide) rfl (a2.toInt.toNat)
    have Xz50559 : EM [0, 28, 29, 30, 31, 32, 35, 36, 37, 38] a0 P Y50552 := EM.tr ha0 Xz50539 (Xy50555.mono (by decide))
    have e50560 := Xy50555.ref h50540 (by decide) e50548
    have h50561 := Xy50555.at h50540
    have h50562 := Xy50555.ar h50549
    refine g_aload_n C dX12_doubles_21 rfl 0 rfl ?_
    refine g_iload_n C dX12_doubles_22 rfl 1 rfl ?_
    refine g_iload_n C dX12_doubles_23 rfl 2 rfl ?_
    refine g_iload_n C dX12_doubles_24 rfl 3 rfl ?_
    refine g_aload_n C dX12_doubles_25 rfl 0 rfl ?_
    obtain ⟨b50563, e50564, h50565⟩ := Iy50554.fld (h50561) 20 13 20 rfl
    refine g_getR C fi_X12_69 rfl e50564 (h50561).1 (h50561).2 dX12_doubles_26 ?_
    refine g_iload_n C dX12_doubles_29 rfl 1 rfl ?_
    refine g_iald (j := (a1.toInt.toNat)) C h50565.1 h50565.2.1 (ix_in h50565.2.2 (by omega)) dX12_doubles_30 ?_
    have h50566 := Iy50554.arr e50564 rfl (a1.toInt.toNat)
    refine g_callVV (rest := []) C mv_X12_339 [.int a1, .int a2, .int a3, .int (pI Y50552 b50563 (a1.toInt.toNat))] (s_X12_gathers Iy50554 (by omega) (by omega) (by omega) (fun b9 e9 => by rw [e50560] at e9; cases e9; show 1 ≤ (pI Y50552 b50547 (a2.toInt.toNat)).toInt ∧ (pI Y50552 b50547 (a2.toInt.toNat)).toInt ≤ 16; omega) W50556) (h50561).1 (h50561).2 rfl rfl (by decide) (Nat.le_of_ble_eq_true rfl) (by decide) dX12_doubles_31 (fun Y50568 h50569 => ?_)
    obtain ⟨Iy50570, Xy50571, W50572, p50573⟩ := h50569
    have p50573 : (pI Y50568 a0 28).toInt ≤ 4 + (pI Y50552 b50563 (a1.toInt.toNat)).toInt := p50573
    have q50574 := Xy50571.keepF 0 (by decide)
    have q50575 := Xy50571.keepA e50560 (by decide) rfl (a2.toInt.toNat)
    have q50576 := Xy50571.keepA e50564 (by decide) rfl (a1.toInt.toNat)
    have Xz50577 : EM [0, 28, 29, 30, 31, 32, 35, 36, 37, 38] a0 P Y50568 := EM.tr ha0 Xz50559 (Xy50571.mono (by decide))
    have e50578 := Xy50571.ref h50561 (by decide) e50560
    have e50579 := Xy50571.ref h50561 (by decide) e50564
    have h50580 := Xy50571.at h50561
    have h50581 := Xy50571.ar h50562
    have h50582 := Xy50571.ar h50565
    have h50583 := Iy50570.rg h50580 28 rfl
    refine g_aload_n C dX12_doubles_34 rfl 0 rfl ?_
    refine g_callVV (rest := []) C mv_X12_346 [] (s_X12_findSolved Iy50570 W50572) (h50580).1 (h50580).2 rfl rfl (by decide) (Nat.le_of_ble_eq_true rfl) (by decide) dX12_doubles_35 (fun Y50585 h50586 => ?_)
    obtain ⟨Iy50587, Xy50588, W50589⟩ := h50586
    have q50590 := Xy50588.keepF 0 (by decide)
    have q50591 := Xy50588.keepA e50578 (by decide) rfl (a2.toInt.toNat)
    have q50592 := Xy50588.keepA e50579 (by decide) rfl (a1.toInt.toNat)
    have q50593 := Xy50588.keepF 28 (by decide)
    have Xz50594 : EM [0, 28, 29, 30, 31, 32, 35, 36, 37, 38] a0 P Y50585 := EM.tr ha0 Xz50577 (Xy50588.mono (by decide))
    have e50595 := Xy50588.ref h50580 (by decide) e50578
    have e50596 := Xy50588.ref h50580 (by decide) e50579
    have h50597 := Xy50588.at h50580
    have h50598 := Xy50588.ar h50581
    have h50599 := Xy50588.ar h50582
    refine g_aload_n C dX12_doubles_38 rfl 0 rfl ?_
    refine g_getI C fi_X12_324 (by decide) (h50597).1 (h50597).2 dX12_doubles_39 ?_
    refine g_topi (fun z50600 h50601 => ?_)
    have h50601 : z50600.toInt = (pI Y50585 a0 35).toInt := congrArg Int32.toInt h50601
    refine g_istore (lv' := [(4, .int z50600), (0, .ref a0), (1, .int a1), (2, .int a2), (3, .int a3)]) C dX12_doubles_42 (by decide) rfl ?_
    refine g_iconst (v := 0) C dX12_doubles_44 (by decide) ?_
    refine g_istore (lv' := [(5, .int 0), (4, .int z50600), (0, .ref a0), (1, .int a1), (2, .int a2), (3, .int a3)]) C dX12_doubles_45 (by decide) rfl ?_
    refine g_iconst (v := 0) C dX12_doubles_47 (by decide) ?_
    refine g_istore (lv' := [(6, .int 0), (5, .int 0), (4, .int z50600), (0, .ref a0), (1, .int a1), (2, .int a2), (3, .int a3)]) C dX12_doubles_48 (by decide) rfl ?_
    refine g_lv (lv' := [(0, .ref a0), (1, .int a1), (2, .int a2), (3, .int a3), (4, .int z50600), (5, .int 0), (6, .int 0)]) [3, 4, 5, 6, 2, 1, 0] rfl ?_
    exact J50 _ Y50585 z50600 0 0 (Nat.lt_succ_self _) Iy50587 Xz50594 W50589 (by omega) (by omega) (by omega) (by decide) (by omega) (by omega) (fun b9 e9 => by rw [e50595] at e9; cases e9; omega)
  · have h50546 : r50541.toInt = 0 := congrArg Int32.toInt h50546
    clear hi50544
    refine g_iconst (v := (-1)) C dX12_doubles_15 (by decide) ?_
    exact ret _ _ _ _ _ _ dX12_doubles_16 rfl (by decide) (by decide) ⟨Iy50535, Xz50539, W50538, trivial⟩
theorem s_X12_draw {P : PP} {a0 : Nat} {a1 : Int32} (I : IM P a0) (hW : MW P a0) : CtrI yX12_draw cX12_draw 3 (some .int) ({ frames := 7, cells := 0, slots := 0, locals := 448 } : Room) 0 0 P [.ref a0, .int a1] (fun r P2 => IM P2 a0 ∧ EM [0, 2, 3, 4, 5, 7, 8, 12, 13, 14, 15, 16, 17, 18, 26] a0 P P2 ∧ MW P2 a0 ∧ (True)) := by
  sorry
theorem dX12_drawn_0 : decode cX12_drawn 0 = .ok (.aload_n 0, 1) := by decide +kernel
theorem dX12_drawn_1 : decode cX12_drawn 1 = .ok (.aload_n 0, 1) := by decide +kernel
theorem dX12_drawn_2 : decode cX12_drawn 2 = .ok (.getfield 226, 3) := by decide +kernel
theorem dX12_drawn_5 : decode cX12_drawn 5 = .ok (.ldc2_w 230, 3) := by decide +kernel
theorem dX12_drawn_8 : decode cX12_drawn 8 = .ok (.lmul, 1) := by decide +kernel
theorem dX12_drawn_9 : decode cX12_drawn 9 = .ok (.ldc2_w 232, 3) := by decide +kernel
theorem dX12_drawn_12 : decode cX12_drawn 12 = .ok (.ladd, 1) := by decide +kernel
theorem dX12_drawn_13 : decode cX12_drawn 13 = .ok (.ldc2_w 234, 3) := by decide +kernel
theorem dX12_drawn_16 : decode cX12_drawn 16 = .ok (.lrem, 1) := by decide +kernel
theorem dX12_drawn_17 : decode cX12_drawn 17 = .ok (.putfield 226, 3) := by decide +kernel
theorem dX12_drawn_20 : decode cX12_drawn 20 = .ok (.aload_n 0, 1) := by decide +kernel
theorem dX12_drawn_21 : decode cX12_drawn 21 = .ok (.getfield 226, 3) := by decide +kernel
theorem dX12_drawn_24 : decode cX12_drawn 24 = .ok (.ldc2_w 236, 3) := by decide +kernel
theorem dX12_drawn_27 : decode cX12_drawn 27 = .ok (.ldiv, 1) := by decide +kernel
theorem dX12_drawn_28 : decode cX12_drawn 28 = .ok (.l2i, 1) := by decide +kernel
theorem dX12_drawn_29 : decode cX12_drawn 29 = .ok (.ireturn, 1) := by decide +kernel
set_option maxHeartbeats 4000000 in
set_option maxRecDepth 100000 in
theorem s_X12_drawn {P : PP} {a0 : Nat} (I : IM P a0) (hW : MW P a0) : CtrI yX12_drawn cX12_drawn 1 (some Jvm.ClassFile.FieldType.int) ({ frames := 1, cells := 0, slots := 0, locals := 64 } : Room) 0 0 P [.ref a0] (fun r P2 => IM P2 a0 ∧ EM [] a0 P P2 ∧ MW P2 a0 ∧ (True)) := by
  refine enI (lv := [(0, .ref a0)]) (by decide) (Nat.le_of_ble_eq_true rfl) rfl (fun E D cy C Ci0 ret => ?_)
  have ha0 := I.2.1
  refine g_aload_n C dX12_drawn_0 rfl 0 rfl ?_
  refine g_aload_n C dX12_drawn_1 rfl 0 rfl ?_
  refine g_getJ C fi_X12_226 rfl (ha0).1 (ha0).2 dX12_drawn_2 ?_
  refine g_topl (fun l50619 _ => ?_)
  refine g_ldc2 (v := 1103515245) C kl_X12_230 dX12_drawn_5 ?_
  refine g_topl (fun l50620 el50620 => ?_)
  have hz_l50620 : ¬ l50620 = 0 := by rw [el50620]; decide
  refine a_lmul C dX12_drawn_8 (fun l50621 => ?_)
  refine g_ldc2 (v := 12345) C kl_X12_232 dX12_drawn_9 ?_
  refine g_topl (fun l50622 el50622 => ?_)
  have hz_l50622 : ¬ l50622 = 0 := by rw [el50622]; decide
  refine a_ladd C dX12_drawn_12 (fun l50623 => ?_)
  refine g_ldc2 (v := 2147483648) C kl_X12_234 dX12_drawn_13 ?_
  refine g_topl (fun l50624 el50624 => ?_)
  have hz_l50624 : ¬ l50624 = 0 := by rw [el50624]; decide
  refine a_lrem C dX12_drawn_16 hz_l50624 (fun l50625 => ?_)
  refine g_putJ C fi_X12_226 rfl (ha0).1 (ha0).2 dX12_drawn_17 ?_
  refine gq (ks := []) (I.setJ) (EM.setJ) (fun Y50626 Iy50627 Xy50628 => ?_)
  have W50629 := hW.keep I Xy50628 (by decide) (by decide) (by decide)
  have Xz50630 : EM [] a0 P Y50626 := Xy50628.mono (by decide)
  have h50631 := Xy50628.at ha0
  refine g_aload_n C dX12_drawn_20 rfl 0 rfl ?_
  refine g_getJ C fi_X12_226 rfl (h50631).1 (h50631).2 dX12_drawn_21 ?_
  refine g_topl (fun l50632 _ => ?_)
  refine g_ldc2 (v := 65536) C kl_X12_236 dX12_drawn_24 ?_
  refine g_topl (fun l50633 el50633 => ?_)
  have hz_l50633 : ¬ l50633 = 0 := by rw [el50633]; decide
  refine a_ldiv C dX12_drawn_27 hz_l50633 (fun l50634 => ?_)
  refine a_l2i C dX12_drawn_28 (fun z50635 => ?_)
  exact ret _ _ _ _ _ _ dX12_drawn_29 rfl (by decide) (by decide) ⟨Iy50627, Xz50630, W50629, trivial⟩
theorem dX12_enough_0 : decode cX12_enough 0 = .ok (.aload_n 0, 1) := by decide +kernel
theorem dX12_enough_1 : decode cX12_enough 1 = .ok (.iconst 0, 1) := by decide +kernel
theorem dX12_enough_2 : decode cX12_enough 2 = .ok (.putfield 1, 3) := by decide +kernel
theorem dX12_enough_5 : decode cX12_enough 5 = .ok (.aload_n 0, 1) := by decide +kernel
theorem dX12_enough_6 : decode cX12_enough 6 = .ok (.iload_n 1, 1) := by decide +kernel
theorem dX12_enough_7 : decode cX12_enough 7 = .ok (.iload_n 2, 1) := by decide +kernel
theorem dX12_enough_8 : decode cX12_enough 8 = .ok (.iload_n 3, 1) := by decide +kernel
theorem dX12_enough_9 : decode cX12_enough 9 = .ok (.invokevirtual 377, 3) := by decide +kernel
theorem dX12_enough_12 : decode cX12_enough 12 = .ok (.ifCond .ne 5, 3) := by decide +kernel
theorem dX12_enough_15 : decode cX12_enough 15 = .ok (.iconst (-1), 1) := by decide +kernel
theorem dX12_enough_16 : decode cX12_enough 16 = .ok (.ireturn, 1) := by decide +kernel
theorem dX12_enough_17 : decode cX12_enough 17 = .ok (.aload_n 0, 1) := by decide +kernel
theorem dX12_enough_18 : decode cX12_enough 18 = .ok (.iload_n 1, 1) := by decide +kernel
theorem dX12_enough_19 : decode cX12_enough 19 = .ok (.iload_n 2, 1) := by decide +kernel
theorem dX12_enough_20 : decode cX12_enough 20 = .ok (.invokevirtual 380, 3) := by decide +kernel
theorem dX12_enough_23 : decode cX12_enough 23 = .ok (.iconst 0, 1) := by decide +kernel
theorem dX12_enough_24 : decode cX12_enough 24 = .ok (.istore 5, 2) := by decide +kernel
theorem dX12_enough_26 : decode cX12_enough 26 = .ok (.iload 5, 2) := by decide +kernel
theorem dX12_enough_28 : decode cX12_enough 28 = .ok (.iload_n 2, 1) := by decide +kernel
theorem dX12_enough_29 : decode cX12_enough 29 = .ok (.if_icmp .gt 55, 3) := by decide +kernel
theorem dX12_enough_32 : decode cX12_enough 32 = .ok (.aload_n 0, 1) := by decide +kernel
theorem dX12_enough_33 : decode cX12_enough 33 = .ok (.iload_n 1, 1) := by decide +kernel
theorem dX12_enough_34 : decode cX12_enough 34 = .ok (.iload_n 2, 1) := by decide +kernel
theorem dX12_enough_35 : decode cX12_enough 35 = .ok (.iload 5, 2) := by decide +kernel
theorem dX12_enough_37 : decode cX12_enough 37 = .ok (.iload_n 3, 1) := by decide +kernel
theorem dX12_enough_38 : decode cX12_enough 38 = .ok (.invokevirtual 383, 3) := by decide +kernel
theorem dX12_enough_41 : decode cX12_enough 41 = .ok (.istore 6, 2) := by decide +kernel
theorem dX12_enough_43 : decode cX12_enough 43 = .ok (.iload 4, 2) := by decide +kernel
theorem dX12_enough_45 : decode cX12_enough 45 = .ok (.ifCond .eq 19, 3) := by decide +kernel
theorem dX12_enough_48 : decode cX12_enough 48 = .ok (.iconst 2, 1) := by decide +kernel
theorem dX12_enough_49 : decode cX12_enough 49 = .ok (.iload 6, 2) := by decide +kernel
theorem dX12_enough_51 : decode cX12_enough 51 = .ok (.imul, 1) := by decide +kernel
theorem dX12_enough_52 : decode cX12_enough 52 = .ok (.iload_n 2, 1) := by decide +kernel
theorem dX12_enough_53 : decode cX12_enough 53 = .ok (.iload 5, 2) := by decide +kernel
theorem dX12_enough_55 : decode cX12_enough 55 = .ok (.invokestatic 387, 3) := by decide +kernel
theorem dX12_enough_58 : decode cX12_enough 58 = .ok (.if_icmp .lt 20, 3) := by decide +kernel
theorem dX12_enough_61 : decode cX12_enough 61 = .ok (.goto 14, 3) := by decide +kernel
theorem dX12_enough_64 : decode cX12_enough 64 = .ok (.iload 6, 2) := by decide +kernel
theorem dX12_enough_66 : decode cX12_enough 66 = .ok (.iload_n 2, 1) := by decide +kernel
theorem dX12_enough_67 : decode cX12_enough 67 = .ok (.iload 5, 2) := by decide +kernel
theorem dX12_enough_69 : decode cX12_enough 69 = .ok (.invokestatic 387, 3) := by decide +kernel
theorem dX12_enough_72 : decode cX12_enough 72 = .ok (.if_icmp .ne 6, 3) := by decide +kernel
theorem dX12_enough_75 : decode cX12_enough 75 = .ok (.iload 5, 2) := by decide +kernel
theorem dX12_enough_77 : decode cX12_enough 77 = .ok (.ireturn, 1) := by decide +kernel
theorem dX12_enough_78 : decode cX12_enough 78 = .ok (.iinc 5 1, 3) := by decide +kernel
theorem dX12_enough_81 : decode cX12_enough 81 = .ok (.goto (-55), 3) := by decide +kernel
theorem dX12_enough_84 : decode cX12_enough 84 = .ok (.iconst (-1), 1) := by decide +kernel
theorem dX12_enough_85 : decode cX12_enough 85 = .ok (.ireturn, 1) := by decide +kernel
set_option maxHeartbeats 4000000 in
set_option maxRecDepth 100000 in
theorem s_X12_enough {P : PP} {a0 : Nat} {a1 : Int32} {a2 : Int32} {a3 : Int32} {a4 : Int32} (I : IM P a0) (ha4 : 0 ≤ a4.toInt ∧ a4.toInt ≤ 1) (hW : MW P a0) : CtrI yX12_enough cX12_enough 7 (some Jvm.ClassFile.FieldType.int) ({ frames := 7, cells := 0, slots := 0, locals := 448 } : Room) 0 0 P [.ref a0, .int a1, .int a2, .int a3, .int a4] (fun r P2 => IM P2 a0 ∧ EM [0, 28, 29, 30, 31, 33, 34, 35, 36, 37, 38, 43] a0 P P2 ∧ MW P2 a0 ∧ (-1 ≤ r.toInt ∧ r.toInt ≤ 11)) := by
  refine enI (lv := [(0, .ref a0), (1, .int a1), (2, .int a2), (3, .int a3), (4, .int a4)]) (by decide) (Nat.le_of_ble_eq_true rfl) rfl (fun E D cy C Ci0 ret => ?_)
  have ha0 := I.2.1
  have J75 : ∀ (P75 : PP) (v75_5 : Int32), (IM P75 a0) → (EM [0, 28, 29, 30, 31, 33, 34, 35, 36, 37, 38, 43] a0 P P75) → (MW P75 a0) → (0 ≤ v75_5.toInt ∧ v75_5.toInt ≤ 11) → (0 ≤ (pI P75 a0 0).toInt ∧ (pI P75 a0 0).toInt ≤ 0) → (∀ b, pR P75 a0 10 = some b → 1 ≤ (pI P75 b (a1.toInt.toNat)).toInt ∧ (pI P75 b (a1.toInt.toNat)).toInt ≤ 16) → G E ({ frames := 7, cells := 0, slots := 0, locals := 448 } : Room) D cy 7 P75 0 0 75 [(5, .int v75_5)] [] := by
    intro P75 v75_5 I75 X75 W75 hv75_5 hq75_0 hq75_1
    have h51075 := X75.at ha0
    obtain ⟨b51076, e51077, h51078⟩ := I75.fld (h51075) 10 13 2 rfl
    have hq75_1 := hq75_1 b51076 e51077
    refine g_iload C dX12_enough_75 0 rfl ?_
    exact ret _ _ _ _ _ _ dX12_enough_77 rfl (by decide) (by decide) ⟨I75, X75, W75, (by omega)⟩
  have J26 : ∀ (n26 : Nat) (P26 : PP) (v26_5 : Int32), (12 - v26_5.toInt).toNat < n26 → (IM P26 a0) → (EM [0, 28, 29, 30, 31, 33, 34, 35, 36, 37, 38, 43] a0 P P26) → (MW P26 a0) → (0 ≤ a1.toInt ∧ a1.toInt ≤ 1) → (1 ≤ a2.toInt ∧ a2.toInt ≤ 11) → (0 ≤ a3.toInt ∧ a3.toInt ≤ 1) → (0 ≤ v26_5.toInt ∧ v26_5.toInt ≤ 12) → (0 ≤ (pI P26 a0 0).toInt ∧ (pI P26 a0 0).toInt ≤ 0) → (∀ b, pR P26 a0 10 = some b → 1 ≤ (pI P26 b (a1.toInt.toNat)).toInt ∧ (pI P26 b (a1.toInt.toNat)).toInt ≤ 16) → G E ({ frames := 7, cells := 0, slots := 0, locals := 448 } : Room) D cy 7 P26 0 0 26 [(0, .ref a0), (1, .int a1), (2, .int a2), (3, .int a3), (4, .int a4), (5, .int v26_5)] [] := by
    intro n26
    induction n26 with
    | zero => intro P26 v26_5 hm26 I26 X26 W26 hv26_1 hv26_2 hv26_3 hv26_5 hq26_0 hq26_1; omega
    | succ n26 ih26 =>
      intro P26 v26_5 hm26 I26 X26 W26 hv26_1 hv26_2 hv26_3 hv26_5 hq26_0 hq26_1
      have h51079 := X26.at ha0
      obtain ⟨b51080, e51081, h51082⟩ := I26.fld (h51079) 10 13 2 rfl
      have hq26_1 := hq26_1 b51080 e51081
      have J78 : ∀ (P78 : PP), (IM P78 a0) → (EM [0, 28, 29, 30, 31, 33, 34, 35, 36, 37, 38, 43] a0 P P78) → (MW P78 a0) → (0 ≤ a1.toInt ∧ a1.toInt ≤ 1) → (1 ≤ a2.toInt ∧ a2.toInt ≤ 11) → (0 ≤ a3.toInt ∧ a3.toInt ≤ 1) → (0 ≤ v26_5.toInt ∧ v26_5.toInt ≤ 11) → (0 ≤ (pI P78 a0 0).toInt ∧ (pI P78 a0 0).toInt ≤ 0) → (∀ b, pR P78 a0 10 = some b → 1 ≤ (pI P78 b (a1.toInt.toNat)).toInt ∧ (pI P78 b (a1.toInt.toNat)).toInt ≤ 16) → G E ({ frames := 7, cells := 0, slots := 0, locals := 448 } : Room) D cy 7 P78 0 0 78 [(0, .ref a0), (1, .int a1), (2, .int a2), (3, .int a3), (4, .int a4), (5, .int v26_5)] [] := by
        intro P78 I78 X78 W78 hv78_1 hv78_2 hv78_3 hv78_5 hq78_0 hq78_1
        have h51083 := X78.at ha0
        obtain ⟨b51084, e51085, h51086⟩ := I78.fld (h51083) 10 13 2 rfl
        have hq78_1 := hq78_1 b51084 e51085
        refine s_iinc (lv0 := [(0, .ref a0), (1, .int a1), (2, .int a2), (3, .int a3), (4, .int a4)]) (m := 1) C dX12_enough_78 5 rfl (by decide) rfl (by decide) (by omega) (fun z51087 h51088 => ?_)
        have h51088 : z51087.toInt = v26_5.toInt + 1 := h51088
        refine g_goto C 26 dX12_enough_81 (by decide) ?_
        refine g_lv (lv' := [(0, .ref a0), (1, .int a1), (2, .int a2), (3, .int a3), (4, .int a4), (5, .int z51087)]) [1, 2, 3, 4, 5, 0] rfl ?_
        exact ih26 P78 z51087 (by omega) I78 X78 W78 (by omega) (by omega) (by omega) (by omega) (by omega) (fun b9 e9 => by rw [e51085] at e9; cases e9; omega)
      refine g_iload C dX12_enough_26 5 rfl ?_
      refine g_iload_n C dX12_enough_28 rfl 2 rfl ?_
      refine b_icmp_gt C 84 dX12_enough_29 (by decide) (fun h51089 => ?_) (fun h51089 => ?_)
      · have h51089 : a2.toInt < v26_5.toInt := h51089
        refine g_iconst (v := (-1)) C dX12_enough_84 (by decide) ?_
        exact ret _ _ _ _ _ _ dX12_enough_85 rfl (by decide) (by decide) ⟨I26, X26, W26, (by decide)⟩
      · have h51089 : v26_5.toInt ≤ a2.toInt := h51089
        refine g_aload_n C dX12_enough_32 rfl 0 rfl ?_
        refine g_iload_n C dX12_enough_33 rfl 1 rfl ?_
        refine g_iload_n C dX12_enough_34 rfl 2 rfl ?_
        refine g_iload C dX12_enough_35 5 rfl ?_
        refine g_iload_n C dX12_enough_37 rfl 3 rfl ?_
        refine g_callVI (rest := []) C mv_X12_383 [.int a1, .int a2, .int v26_5, .int a3] (s_X12_chancesOf I26 (by omega) (by omega) (fun b9 e9 => by rw [e51081] at e9; cases e9; show 1 ≤ (pI P26 b51080 (a1.toInt.toNat)).toInt ∧ (pI P26 b51080 (a1.toInt.toNat)).toInt ≤ 16; omega) W26) (h51079).1 (h51079).2 rfl rfl (by decide) (Nat.le_of_ble_eq_true rfl) (by decide) dX12_enough_38 (fun r51090 Y51091 h51092 => ?_)
        obtain ⟨Iy51093, Xy51094, W51095, h51092⟩ := h51092
        have q51096 := Xy51094.keepF 0 (by decide)
        have q51097 := Xy51094.keepA e51081 (by decide) rfl (a1.toInt.toNat)
        have Xz51098 : EM [0, 28, 29, 30, 31, 33, 34, 35, 36, 37, 38, 43] a0 P Y51091 := EM.tr ha0 X26 (Xy51094.mono (by decide))
        have e51099 := Xy51094.ref h51079 (by decide) e51081
        have h51100 := Xy51094.at h51079
        have h51101 := Xy51094.ar h51082
        have h51092 : True := h51092
        refine g_istore (lv' := [(6, .int r51090), (0, .ref a0), (1, .int a1), (2, .int a2), (3, .int a3), (4, .int a4), (5, .int v26_5)]) C dX12_enough_41 (by decide) rfl ?_
        refine g_iload C dX12_enough_43 5 rfl ?_
        refine b_if_eq C 64 dX12_enough_45 (by decide) (fun h51102 => ?_) (fun h51102 => ?_)
        · have h51102 : a4.toInt = 0 := congrArg Int32.toInt h51102
          refine g_iload C dX12_enough_64 0 rfl ?_
          refine g_iload_n C dX12_enough_66 rfl 3 rfl ?_
          refine g_iload C dX12_enough_67 6 rfl ?_
          refine g_callSI (b := 0) (ci := 0) (rest := [.int r51090]) C ms_X12_387 [.int a2, .int v26_5] (s_X12_choices Iy51093.1 (by omega) (by omega)) rfl rfl (by decide) (Nat.le_of_ble_eq_true rfl) (by decide) dX12_enough_69 (fun r51103 Y51104 h51105 => ?_)
          obtain ⟨rfl, h51105⟩ := h51105
          have h51105 : True := h51105
          have u51107 := ti_rng r51090
          have u51108 := ti_rng r51103
          refine b_icmp_ne C 78 dX12_enough_72 (by decide) (fun h51106 => ?_) (fun h51106 => ?_)
          · have h51106 : r51090.toInt ≠ r51103.toInt := ti_ne h51106
            refine g_lv (lv' := [(0, .ref a0), (1, .int a1), (2, .int a2), (3, .int a3), (4, .int a4), (5, .int v26_5)]) [1, 2, 3, 4, 5, 6] rfl ?_
            exact J78 Y51091 Iy51093 Xz51098 W51095 (by omega) (by omega) (by omega) (by omega) (by omega) (fun b9 e9 => by rw [e51099] at e9; cases e9; omega)
          · have h51106 : r51090.toInt = r51103.toInt := congrArg Int32.toInt h51106
            refine g_lv (lv' := [(5, .int v26_5)]) [6] rfl ?_
            exact J75 Y51091 v26_5 Iy51093 Xz51098 W51095 (by omega) (by omega) (fun b9 e9 => by rw [e51099] at e9; cases e9; omega)
        · have h51102 : a4.toInt ≠ 0 := ti_ne h51102
          refine g_iconst (v := 2) C dX12_enough_48 (by decide) ?_
          refine g_iload C dX12_enough_49 0 rfl ?_
          refine a_imul C dX12_enough_51 (fun z51109 => ?_)
          refine g_iload_n C dX12_enough_52 rfl 3 rfl ?_
          refine g_iload C dX12_enough_53 6 rfl ?_
          refine g_callSI (b := 0) (ci := 0) (rest := [.int z51109]) C ms_X12_387 [.int a2, .int v26_5] (s_X12_choices Iy51093.1 (by omega) (by omega)) rfl rfl (by decide) (Nat.le_of_ble_eq_true rfl) (by decide) dX12_enough_55 (fun r51111 Y51112 h51113 => ?_)
          obtain ⟨rfl, h51113⟩ := h51113
          have h51113 : True := h51113
          have u51115 := ti_rng z51109
          have u51116 := ti_rng r51111
          refine b_icmp_lt C 78 dX12_enough_58 (by decide) (fun h51114 => ?_) (fun h51114 => ?_)
          · have h51114 : z51109.toInt < r51111.toInt := h51114
            refine g_lv (lv' := [(0, .ref a0), (1, .int a1), (2, .int a2), (3, .int a3), (4, .int a4), (5, .int v26_5)]) [1, 2, 3, 4, 5, 6] rfl ?_
            exact J78 Y51091 Iy51093 Xz51098 W51095 (by omega) (by omega) (by omega) (by omega) (by omega) (fun b9 e9 => by rw [e51099] at e9; cases e9; omega)
          · have h51114 : r51111.toInt ≤ z51109.toInt := h51114
            refine g_goto C 75 dX12_enough_61 (by decide) ?_
            refine g_lv (lv' := [(5, .int v26_5)]) [6] rfl ?_
            exact J75 Y51091 v26_5 Iy51093 Xz51098 W51095 (by omega) (by omega) (fun b9 e9 => by rw [e51099] at e9; cases e9; omega)
  refine g_aload_n C dX12_enough_0 rfl 0 rfl ?_
  refine g_iconst (v := 0) C dX12_enough_1 (by decide) ?_
  refine g_putI C fi_X12_1 rfl (ha0).1 (ha0).2 dX12_enough_2 ?_
  refine gqW (ks := [0]) (I.setI (rgOk.of rfl (by decide))) (EM.setI I (by decide)) (fun Y51117 Iy51118 Xy51119 w51120 => ?_)
  have w51120 : (pI Y51117 a0 0).toInt = 0 := w51120
  have W51121 := hW.keep I Xy51119 (by decide) (by decide) (by decide)
  have Xz51122 : EM [0, 28, 29, 30, 31, 33, 34, 35, 36, 37, 38, 43] a0 P Y51117 := Xy51119.mono (by decide)
  have h51123 := Xy51119.at ha0
  refine g_aload_n C dX12_enough_5 rfl 0 rfl ?_
  refine g_iload_n C dX12_enough_6 rfl 1 rfl ?_
  refine g_iload_n C dX12_enough_7 rfl 2 rfl ?_
  refine g_iload_n C dX12_enough_8 rfl 3 rfl ?_
  refine g_callVI (rest := []) C mv_X12_377 [.int a1, .int a2, .int a3] (s_X12_areChances Iy51118 W51121) (h51123).1 (h51123).2 rfl rfl (by decide) (Nat.le_of_ble_eq_true rfl) (by decide) dX12_enough_9 (fun r51124 Y51125 h51126 => ?_)
  obtain ⟨rfl, h51126⟩ := h51126
  obtain ⟨h51126, hi51127, hi51128⟩ := h51126
  have hi51127 : r51124.toInt = 0 ∨ (((0 : Int) ≤ a1.toInt ∧ a1.toInt ≤ (1 : Int)) ∧ ((1 : Int) ≤ a2.toInt ∧ a2.toInt ≤ (11 : Int)) ∧ ((0 : Int) ≤ a3.toInt ∧ a3.toInt ≤ (1 : Int))) := hi51127
  have h51126 : 0 ≤ r51124.toInt ∧ r51124.toInt ≤ 1 := h51126
  refine b_if_ne C 17 dX12_enough_12 (by decide) (fun h51129 => ?_) (fun h51129 => ?_)
  · have h51129 : r51124.toInt ≠ 0 := ti_ne h51129
    replace hi51127 := hi51127.resolve_left (by omega)
    obtain ⟨b51130, e51131, h51132⟩ := Iy51118.fld (h51123) 10 13 2 rfl
    have hi51128 := (hi51128.resolve_left (by omega)) b51130 e51131
    have hi51128 : 0 < (pI Y51117 b51130 (a1.toInt.toNat)).toInt := hi51128
    have h51133 := Iy51118.arr e51131 rfl (a1.toInt.toNat)
    refine g_aload_n C dX12_enough_17 rfl 0 rfl ?_
    refine g_iload_n C dX12_enough_18 rfl 1 rfl ?_
    refine g_iload_n C dX12_enough_19 rfl 2 rfl ?_
    refine g_callVV (rest := []) C mv_X12_380 [.int a1, .int a2] (s_X12_keepsSets Iy51118 (by omega) (by omega) (fun b9 e9 => by rw [e51131] at e9; cases e9; show 1 ≤ (pI Y51117 b51130 (a1.toInt.toNat)).toInt ∧ (pI Y51117 b51130 (a1.toInt.toNat)).toInt ≤ 16; omega) W51121) (h51123).1 (h51123).2 rfl rfl (by decide) (Nat.le_of_ble_eq_true rfl) (by decide) dX12_enough_20 (fun Y51135 h51136 => ?_)
    obtain ⟨Iy51137, Xy51138, W51139⟩ := h51136
    have q51140 := Xy51138.keepF 0 (by decide)
    have q51141 := Xy51138.keepA e51131 (by decide) rfl (a1.toInt.toNat)
    have Xz51142 : EM [0, 28, 29, 30, 31, 33, 34, 35, 36, 37, 38, 43] a0 P Y51135 := EM.tr ha0 Xz51122 (Xy51138.mono (by decide))
    have e51143 := Xy51138.ref h51123 (by decide) e51131
    have h51144 := Xy51138.at h51123
    have h51145 := Xy51138.ar h51132
    refine g_iconst (v := 0) C dX12_enough_23 (by decide) ?_
    refine g_istore (lv' := [(5, .int 0), (0, .ref a0), (1, .int a1), (2, .int a2), (3, .int a3), (4, .int a4)]) C dX12_enough_24 (by decide) rfl ?_
    refine g_lv (lv' := [(0, .ref a0), (1, .int a1), (2, .int a2), (3, .int a3), (4, .int a4), (5, .int 0)]) [1, 2, 3, 4, 5, 0] rfl ?_
    exact J26 _ Y51135 0 (Nat.lt_succ_self _) Iy51137 Xz51142 W51139 (by omega) (by omega) (by omega) (by decide) (by omega) (fun b9 e9 => by rw [e51143] at e9; cases e9; omega)
  · have h51129 : r51124.toInt = 0 := congrArg Int32.toInt h51129
    clear hi51127
    refine g_iconst (v := (-1)) C dX12_enough_15 (by decide) ?_
    exact ret _ _ _ _ _ _ dX12_enough_16 rfl (by decide) (by decide) ⟨Iy51118, Xz51122, W51121, (by decide)⟩
theorem dX12_falls_0 : decode cX12_falls 0 = .ok (.iload_n 3, 1) := by decide +kernel
theorem dX12_falls_1 : decode cX12_falls 1 = .ok (.bipush 37, 2) := by decide +kernel
theorem dX12_falls_3 : decode cX12_falls 3 = .ok (.imul, 1) := by decide +kernel
theorem dX12_falls_4 : decode cX12_falls 4 = .ok (.bipush 11, 2) := by decide +kernel
theorem dX12_falls_6 : decode cX12_falls 6 = .ok (.iload_n 2, 1) := by decide +kernel
theorem dX12_falls_7 : decode cX12_falls 7 = .ok (.imul, 1) := by decide +kernel
theorem dX12_falls_8 : decode cX12_falls 8 = .ok (.iadd, 1) := by decide +kernel
theorem dX12_falls_9 : decode cX12_falls 9 = .ok (.bipush 101, 2) := by decide +kernel
theorem dX12_falls_11 : decode cX12_falls 11 = .ok (.iload_n 1, 1) := by decide +kernel
theorem dX12_falls_12 : decode cX12_falls 12 = .ok (.imul, 1) := by decide +kernel
theorem dX12_falls_13 : decode cX12_falls 13 = .ok (.iadd, 1) := by decide +kernel
theorem dX12_falls_14 : decode cX12_falls 14 = .ok (.bipush 13, 2) := by decide +kernel
theorem dX12_falls_16 : decode cX12_falls 16 = .ok (.iadd, 1) := by decide +kernel
theorem dX12_falls_17 : decode cX12_falls 17 = .ok (.bipush 7, 2) := by decide +kernel
theorem dX12_falls_19 : decode cX12_falls 19 = .ok (.imul, 1) := by decide +kernel
theorem dX12_falls_20 : decode cX12_falls 20 = .ok (.bipush 100, 2) := by decide +kernel
theorem dX12_falls_22 : decode cX12_falls 22 = .ok (.irem, 1) := by decide +kernel
theorem dX12_falls_23 : decode cX12_falls 23 = .ok (.aload_n 0, 1) := by decide +kernel
theorem dX12_falls_24 : decode cX12_falls 24 = .ok (.getfield 127, 3) := by decide +kernel
theorem dX12_falls_27 : decode cX12_falls 27 = .ok (.iload_n 1, 1) := by decide +kernel
theorem dX12_falls_28 : decode cX12_falls 28 = .ok (.iaload, 1) := by decide +kernel
theorem dX12_falls_29 : decode cX12_falls 29 = .ok (.if_icmp .lt 7, 3) := by decide +kernel
theorem dX12_falls_32 : decode cX12_falls 32 = .ok (.iconst 1, 1) := by decide +kernel
theorem dX12_falls_33 : decode cX12_falls 33 = .ok (.goto 4, 3) := by decide +kernel
theorem dX12_falls_36 : decode cX12_falls 36 = .ok (.iconst 0, 1) := by decide +kernel
theorem dX12_falls_37 : decode cX12_falls 37 = .ok (.ireturn, 1) := by decide +kernel
set_option maxHeartbeats 4000000 in
set_option maxRecDepth 100000 in
theorem s_X12_falls {P : PP} {a0 : Nat} {a1 : Int32} {a2 : Int32} {a3 : Int32} (I : IM P a0) (ha1 : 0 ≤ a1.toInt ∧ a1.toInt ≤ 3) (hW : MW P a0) : CtrI yX12_falls cX12_falls 4 (some Jvm.ClassFile.FieldType.boolean) ({ frames := 1, cells := 0, slots := 0, locals := 64 } : Room) 0 0 P [.ref a0, .int a1, .int a2, .int a3] (fun r P2 => P = P2 ∧ (0 ≤ r.toInt ∧ r.toInt ≤ 1)) := by
  refine enI (lv := [(0, .ref a0), (1, .int a1), (2, .int a2), (3, .int a3)]) (by decide) (Nat.le_of_ble_eq_true rfl) rfl (fun E D cy C Ci0 ret => ?_)
  have ha0 := I.2.1
  refine g_iload_n C dX12_falls_0 rfl 3 rfl ?_
  refine g_bipush (v := 37) C dX12_falls_1 (by decide) ?_
  refine a_imul C dX12_falls_3 (fun z51168 => ?_)
  refine g_bipush (v := 11) C dX12_falls_4 (by decide) ?_
  refine g_iload_n C dX12_falls_6 rfl 2 rfl ?_
  refine a_imul C dX12_falls_7 (fun z51170 => ?_)
  refine a_iadd C dX12_falls_8 (fun z51172 => ?_)
  refine g_bipush (v := 101) C dX12_falls_9 (by decide) ?_
  refine g_iload_n C dX12_falls_11 rfl 1 rfl ?_
  refine s_imul C dX12_falls_12 (by show -2147483648 ≤ 101 * a1.toInt ∧ 101 * a1.toInt ≤ 2147483647; omega) (fun z51174 h51175 => ?_)
  have h51175 : z51174.toInt = 101 * a1.toInt := h51175
  refine a_iadd C dX12_falls_13 (fun z51176 => ?_)
  refine g_bipush (v := 13) C dX12_falls_14 (by decide) ?_
  refine a_iadd C dX12_falls_16 (fun z51178 => ?_)
  refine g_bipush (v := 7) C dX12_falls_17 (by decide) ?_
  refine a_imul C dX12_falls_19 (fun z51180 => ?_)
  refine g_bipush (v := 100) C dX12_falls_20 (by decide) ?_
  refine a_irem C dX12_falls_22 (by show 100 ≠ 0; omega) (fun z51182 => ?_)
  refine g_aload_n C dX12_falls_23 rfl 0 rfl ?_
  obtain ⟨b51184, e51185, h51186⟩ := I.fld (ha0) 45 13 4 rfl
  refine g_getR C fi_X12_127 rfl e51185 (ha0).1 (ha0).2 dX12_falls_24 ?_
  refine g_iload_n C dX12_falls_27 rfl 1 rfl ?_
  refine g_iald (j := (a1.toInt.toNat)) C h51186.1 h51186.2.1 (ix_in h51186.2.2 (by omega)) dX12_falls_28 ?_
  have u51188 := ti_rng z51182
  have u51189 := ti_rng (pI P b51184 (a1.toInt.toNat))
  refine b_icmp_lt C 36 dX12_falls_29 (by decide) (fun h51187 => ?_) (fun h51187 => ?_)
  · have h51187 : z51182.toInt < (pI P b51184 (a1.toInt.toNat)).toInt := h51187
    refine g_iconst (v := 0) C dX12_falls_36 (by decide) ?_
    exact ret _ _ _ _ _ _ dX12_falls_37 rfl (by decide) (by decide) ⟨rfl, (by decide)⟩
  · have h51187 : (pI P b51184 (a1.toInt.toNat)).toInt ≤ z51182.toInt := h51187
    refine g_iconst (v := 1) C dX12_falls_32 (by decide) ?_
    refine g_goto C 37 dX12_falls_33 (by decide) ?_
    exact ret _ _ _ _ _ _ dX12_falls_37 rfl (by decide) (by decide) ⟨rfl, (by decide)⟩
theorem dX12_feed_0 : decode cX12_feed 0 = .ok (.aload_n 0, 1) := by decide +kernel
theorem dX12_feed_1 : decode cX12_feed 1 = .ok (.iconst 0, 1) := by decide +kernel
theorem dX12_feed_2 : decode cX12_feed 2 = .ok (.putfield 1, 3) := by decide +kernel
theorem dX12_feed_5 : decode cX12_feed 5 = .ok (.aload_n 0, 1) := by decide +kernel
theorem dX12_feed_6 : decode cX12_feed 6 = .ok (.lload_n 1, 1) := by decide +kernel
theorem dX12_feed_7 : decode cX12_feed 7 = .ok (.invokevirtual 7, 3) := by decide +kernel
theorem dX12_lay_0 : decode cX12_lay 0 = .ok (.bipush 56, 2) := by decide +kernel
theorem dX12_lay_2 : decode cX12_lay 2 = .ok (.istore_n 3, 1) := by decide +kernel
theorem dX12_lay_3 : decode cX12_lay 3 = .ok (.iload_n 3, 1) := by decide +kernel
theorem dX12_lay_4 : decode cX12_lay 4 = .ok (.ifCond .lt 71, 3) := by decide +kernel
theorem dX12_lay_7 : decode cX12_lay 7 = .ok (.lload_n 1, 1) := by decide +kernel
theorem dX12_lay_8 : decode cX12_lay 8 = .ok (.iload_n 3, 1) := by decide +kernel
theorem dX12_lay_9 : decode cX12_lay 9 = .ok (.lshr, 1) := by decide +kernel
theorem dX12_lay_10 : decode cX12_lay 10 = .ok (.l2i, 1) := by decide +kernel
theorem dX12_lay_11 : decode cX12_lay 11 = .ok (.sipush 255, 3) := by decide +kernel
theorem dX12_lay_14 : decode cX12_lay 14 = .ok (.iand, 1) := by decide +kernel
theorem dX12_lay_15 : decode cX12_lay 15 = .ok (.istore 4, 2) := by decide +kernel
theorem dX12_lay_17 : decode cX12_lay 17 = .ok (.iload 4, 2) := by decide +kernel
theorem dX12_lay_19 : decode cX12_lay 19 = .ok (.bipush 10, 2) := by decide +kernel
theorem dX12_lay_21 : decode cX12_lay 21 = .ok (.if_icmp .eq 17, 3) := by decide +kernel
theorem dX12_lay_24 : decode cX12_lay 24 = .ok (.iload 4, 2) := by decide +kernel
theorem dX12_lay_26 : decode cX12_lay 26 = .ok (.bipush 32, 2) := by decide +kernel
theorem dX12_lay_28 : decode cX12_lay 28 = .ok (.if_icmp .lt 41, 3) := by decide +kernel
theorem dX12_lay_31 : decode cX12_lay 31 = .ok (.iload 4, 2) := by decide +kernel
theorem dX12_lay_33 : decode cX12_lay 33 = .ok (.bipush 126, 2) := by decide +kernel
theorem dX12_lay_35 : decode cX12_lay 35 = .ok (.if_icmp .gt 34, 3) := by decide +kernel
theorem dX12_lay_38 : decode cX12_lay 38 = .ok (.aload_n 0, 1) := by decide +kernel
theorem dX12_lay_39 : decode cX12_lay 39 = .ok (.getfield 11, 3) := by decide +kernel
theorem dX12_lay_42 : decode cX12_lay 42 = .ok (.sipush 1000, 3) := by decide +kernel
theorem dX12_lay_45 : decode cX12_lay 45 = .ok (.if_icmp .ge 24, 3) := by decide +kernel
theorem dX12_lay_48 : decode cX12_lay 48 = .ok (.aload_n 0, 1) := by decide +kernel
theorem dX12_lay_49 : decode cX12_lay 49 = .ok (.getfield 14, 3) := by decide +kernel
theorem dX12_lay_52 : decode cX12_lay 52 = .ok (.aload_n 0, 1) := by decide +kernel
theorem dX12_lay_53 : decode cX12_lay 53 = .ok (.getfield 11, 3) := by decide +kernel
theorem dX12_lay_56 : decode cX12_lay 56 = .ok (.iload 4, 2) := by decide +kernel
theorem dX12_lay_58 : decode cX12_lay 58 = .ok (.iastore, 1) := by decide +kernel
theorem dX12_lay_59 : decode cX12_lay 59 = .ok (.aload_n 0, 1) := by decide +kernel
theorem dX12_lay_60 : decode cX12_lay 60 = .ok (.dup, 1) := by decide +kernel
theorem dX12_lay_61 : decode cX12_lay 61 = .ok (.getfield 11, 3) := by decide +kernel
theorem dX12_lay_64 : decode cX12_lay 64 = .ok (.iconst 1, 1) := by decide +kernel
theorem dX12_lay_65 : decode cX12_lay 65 = .ok (.iadd, 1) := by decide +kernel
theorem dX12_lay_66 : decode cX12_lay 66 = .ok (.putfield 11, 3) := by decide +kernel
theorem dX12_lay_69 : decode cX12_lay 69 = .ok (.iinc 3 (-8), 3) := by decide +kernel
theorem dX12_lay_72 : decode cX12_lay 72 = .ok (.goto (-69), 3) := by decide +kernel
theorem dX12_lay_75 : decode cX12_lay 75 = .ok (.return_, 1) := by decide +kernel
set_option maxHeartbeats 4000000 in
set_option maxRecDepth 100000 in
theorem s_X12_lay {P : PP} {a0 : Nat} {a1 : Int64} (I : IM P a0) (hW : MW P a0) : CtrV yX12_lay cX12_lay 5 none ({ frames := 1, cells := 0, slots := 0, locals := 64 } : Room) 0 0 P [.ref a0, .long a1] (fun P2 => IM P2 a0 ∧ EM [1, 2] a0 P P2 ∧ MW P2 a0) := by
  refine enV (lv := [(0, .ref a0), (1, .long a1)]) (by decide) (Nat.le_of_ble_eq_true rfl) rfl (fun E D cy C Ci0 ret => ?_)
  have ha0 := I.2.1
  have J3 : ∀ (n3 : Nat) (P3 : PP) (v3_3 : Int32), (v3_3.toInt - (-8)).toNat < n3 → (IM P3 a0) → (EM [1, 2] a0 P P3) → (MW P3 a0) → (-8 ≤ v3_3.toInt ∧ v3_3.toInt ≤ 56) → G E ({ frames := 1, cells := 0, slots := 0, locals := 64 } : Room) D cy 5 P3 0 0 3 [(0, .ref a0), (1, .long a1), (3, .int v3_3)] [] := by
    intro n3
    induction n3 with
    | zero => intro P3 v3_3 hm3 I3 X3 W3 hv3_3; omega
    | succ n3 ih3 =>
      intro P3 v3_3 hm3 I3 X3 W3 hv3_3
      have h51440 := X3.at ha0
      have J69 : ∀ (P69 : PP), (IM P69 a0) → (EM [1, 2] a0 P P69) → (MW P69 a0) → (0 ≤ v3_3.toInt ∧ v3_3.toInt ≤ 56) → G E ({ frames := 1, cells := 0, slots := 0, locals := 64 } : Room) D cy 5 P69 0 0 69 [(0, .ref a0), (1, .long a1), (3, .int v3_3)] [] := by
        intro P69 I69 X69 W69 hv69_3
        have h51441 := X69.at ha0
        refine s_iinc (lv0 := [(0, .ref a0), (1, .long a1)]) (m := -8) C dX12_lay_69 2 rfl (by decide) rfl (by decide) (by omega) (fun z51442 h51443 => ?_)
        have h51443 : z51442.toInt = v3_3.toInt + (-8) := h51443
        refine g_goto C 3 dX12_lay_72 (by decide) ?_
        refine g_lv (lv' := [(0, .ref a0), (1, .long a1), (3, .int z51442)]) [1, 2, 0] rfl ?_
        exact ih3 P69 z51442 (by omega) I69 X69 W69 (by omega)
      have J38 : ∀ (v38_4 : Int32), (0 ≤ v3_3.toInt ∧ v3_3.toInt ≤ 56) → (10 ≤ v38_4.toInt ∧ v38_4.toInt ≤ 126) → G E ({ frames := 1, cells := 0, slots := 0, locals := 64 } : Room) D cy 5 P3 0 0 38 [(0, .ref a0), (1, .long a1), (3, .int v3_3), (4, .int v38_4)] [] := by
        intro v38_4 hv38_3 hv38_4
        have h51444 := X3.at ha0
        refine g_aload_n C dX12_lay_38 rfl 0 rfl ?_
        refine g_getI C fi_X12_11 (by decide) (h51444).1 (h51444).2 dX12_lay_39 ?_
        have h51445 := I3.rg (h51444) 2 rfl
        refine g_sipush (v := 1000) C dX12_lay_42 (by decide) ?_
        refine b_icmp_ge C 69 dX12_lay_45 (by decide) (fun h51446 => ?_) (fun h51446 => ?_)
        · have h51446 : 1000 ≤ (pI P3 a0 2).toInt := h51446
          refine g_lv (lv' := [(0, .ref a0), (1, .long a1), (3, .int v3_3)]) [0, 1, 2] rfl ?_
          exact J69 P3 I3 X3 W3 (by omega)
        · have h51446 : (pI P3 a0 2).toInt < 1000 := h51446
          refine g_aload_n C dX12_lay_48 rfl 0 rfl ?_
          obtain ⟨b51447, e51448, h51449⟩ := I3.fld (h51444) 1 13 1000 rfl
          refine g_getR C fi_X12_14 rfl e51448 (h51444).1 (h51444).2 dX12_lay_49 ?_
          refine g_aload_n C dX12_lay_52 rfl 0 rfl ?_
          refine g_getI C fi_X12_11 (by decide) (h51444).1 (h51444).2 dX12_lay_53 ?_
          refine g_iload C dX12_lay_56 3 rfl ?_
          refine g_iast (j := ((pI P3 a0 2).toInt.toNat)) C h51449.1 h51449.2.1 (ix_in h51449.2.2 (by omega)) dX12_lay_58 ?_
          refine gqW (ks := [1]) (I3.setA e51448 h51449 (by decide) (arOk.none rfl)) (EM.setA I3 e51448 rfl (by decide)) (fun Y51450 Iy51451 Xy51452 w51453 => ?_)
          have w51453 : (pI Y51450 b51447 ((pI P3 a0 2).toInt.toNat)).toInt = v38_4.toInt := w51453
          have q51454 := Xy51452.keepF 2 (by decide)
          have W51455 := W3.keep I3 Xy51452 (by decide) (by decide) (by decide)
          have Xz51456 : EM [1, 2] a0 P Y51450 := EM.tr ha0 X3 (Xy51452.mono (by decide))
          have h51457 := Xy51452.at h51444
          refine g_aload_n C dX12_lay_59 rfl 0 rfl ?_
          refine g_dup C dX12_lay_60 rfl ?_
          refine g_getI C fi_X12_11 (by decide) (h51457).1 (h51457).2 dX12_lay_61 ?_
          refine g_iconst (v := 1) C dX12_lay_64 (by decide) ?_
          refine s_iadd C dX12_lay_65 (by show -2147483648 ≤ (pI Y51450 a0 2).toInt + 1 ∧ (pI Y51450 a0 2).toInt + 1 ≤ 2147483647; omega) (fun z51458 h51459 => ?_)
          have h51459 : z51458.toInt = (pI Y51450 a0 2).toInt + 1 := h51459
          refine g_putI C fi_X12_11 rfl (h51457).1 (h51457).2 dX12_lay_66 ?_
          refine gqW (ks := [2]) (Iy51451.setI (rgOk.of rfl (by omega))) (EM.setI Iy51451 (by decide)) (fun Y51460 Iy51461 Xy51462 w51463 => ?_)
          have w51463 : (pI Y51460 a0 2).toInt = z51458.toInt := w51463
          have W51464 := W51455.keep Iy51451 Xy51462 (by decide) (by decide) (by decide)
          have Xz51465 : EM [1, 2] a0 P Y51460 := EM.tr ha0 Xz51456 (Xy51462.mono (by decide))
          have h51466 := Xy51462.at h51457
          refine g_lv (lv' := [(0, .ref a0), (1, .long a1), (3, .int v3_3)]) [0, 1, 2] rfl ?_
          exact J69 Y51460 Iy51461 Xz51465 W51464 (by omega)
      refine g_iload_n C dX12_lay_3 rfl 2 rfl ?_
      refine b_if_lt C 75 dX12_lay_4 (by decide) (fun h51467 => ?_) (fun h51467 => ?_)
      · have h51467 : v3_3.toInt < 0 := h51467
        exact ret _ _ _ _ _ dX12_lay_75 (by decide) (by decide) ⟨I3, X3, W3⟩
      · have h51467 : 0 ≤ v3_3.toInt := h51467
        refine g_lload_n C dX12_lay_7 rfl 1 rfl ?_
        refine g_iload_n C dX12_lay_8 rfl 2 rfl ?_
        refine a_lshr C dX12_lay_9 (fun l51468 => ?_)
        refine a_l2i C dX12_lay_10 (fun z51469 => ?_)
        refine g_sipush (v := 255) C dX12_lay_11 (by decide) ?_
        refine s_iand C dX12_lay_14 (by show 0 ≤ 255; omega) (fun z51470 h51471 => ?_)
        have h51471 : 0 ≤ z51470.toInt ∧ z51470.toInt ≤ 255 := h51471
        refine g_istore (lv' := [(4, .int z51470), (0, .ref a0), (1, .long a1), (3, .int v3_3)]) C dX12_lay_15 (by decide) rfl ?_
        refine g_iload C dX12_lay_17 0 rfl ?_
        refine g_bipush (v := 10) C dX12_lay_19 (by decide) ?_
        refine b_icmp_eq C 38 dX12_lay_21 (by decide) (fun h51472 => ?_) (fun h51472 => ?_)
        · have h51472 : z51470.toInt = 10 := congrArg Int32.toInt h51472
          refine g_lv (lv' := [(0, .ref a0), (1, .long a1), (3, .int v3_3), (4, .int z51470)]) [1, 2, 3, 0] rfl ?_
          exact J38 z51470 (by omega) (by omega)
        · have h51472 : z51470.toInt ≠ 10 := ti_ne h51472
          refine g_iload C dX12_lay_24 0 rfl ?_
          refine g_bipush (v := 32) C dX12_lay_26 (by decide) ?_
          refine b_icmp_lt C 69 dX12_lay_28 (by decide) (fun h51473 => ?_) (fun h51473 => ?_)
          · have h51473 : z51470.toInt < 32 := h51473
            refine g_lv (lv' := [(0, .ref a0), (1, .long a1), (3, .int v3_3)]) [1, 2, 3] rfl ?_
            exact J69 P3 I3 X3 W3 (by omega)
          · have h51473 : 32 ≤ z51470.toInt := h51473
            refine g_iload C dX12_lay_31 0 rfl ?_
            refine g_bipush (v := 126) C dX12_lay_33 (by decide) ?_
            refine b_icmp_gt C 69 dX12_lay_35 (by decide) (fun h51474 => ?_) (fun h51474 => ?_)
            · have h51474 : 126 < z51470.toInt := h51474
              refine g_lv (lv' := [(0, .ref a0), (1, .long a1), (3, .int v3_3)]) [1, 2, 3] rfl ?_
              exact J69 P3 I3 X3 W3 (by omega)
            · have h51474 : z51470.toInt ≤ 126 := h51474
              refine g_lv (lv' := [(0, .ref a0), (1, .long a1), (3, .int v3_3), (4, .int z51470)]) [1, 2, 3, 0] rfl ?_
              exact J38 z51470 (by omega) (by omega)
  refine g_bipush (v := 56) C dX12_lay_0 (by decide) ?_
  refine g_istore_n (lv' := [(3, .int 56), (0, .ref a0), (1, .long a1)]) C dX12_lay_2 rfl (by decide) rfl ?_
  refine g_lv (lv' := [(0, .ref a0), (1, .long a1), (3, .int 56)]) [1, 2, 0] rfl ?_
  exact J3 _ P 56 (Nat.lt_succ_self _) I EM.rf hW (by decide)
theorem dX12_feed_10 : decode cX12_feed 10 = .ok (.aload_n 0, 1) := by decide +kernel
theorem dX12_feed_11 : decode cX12_feed 11 = .ok (.lload_n 3, 1) := by decide +kernel
theorem dX12_feed_12 : decode cX12_feed 12 = .ok (.invokevirtual 7, 3) := by decide +kernel
theorem dX12_feed_15 : decode cX12_feed 15 = .ok (.aload_n 0, 1) := by decide +kernel
theorem dX12_feed_16 : decode cX12_feed 16 = .ok (.lload 5, 2) := by decide +kernel
theorem dX12_feed_18 : decode cX12_feed 18 = .ok (.invokevirtual 7, 3) := by decide +kernel
theorem dX12_feed_21 : decode cX12_feed 21 = .ok (.aload_n 0, 1) := by decide +kernel
theorem dX12_feed_22 : decode cX12_feed 22 = .ok (.getfield 11, 3) := by decide +kernel
theorem dX12_feed_25 : decode cX12_feed 25 = .ok (.ireturn, 1) := by decide +kernel
set_option maxHeartbeats 4000000 in
set_option maxRecDepth 100000 in
theorem s_X12_feed {P : PP} {a0 : Nat} {a1 : Int64} {a2 : Int64} {a3 : Int64} (I : IM P a0) (hW : MW P a0) : CtrI yX12_feed cX12_feed 7 (some Jvm.ClassFile.FieldType.int) ({ frames := 2, cells := 0, slots := 0, locals := 128 } : Room) 0 0 P [.ref a0, .long a1, .long a2, .long a3] (fun r P2 => IM P2 a0 ∧ EM [0, 1, 2] a0 P P2 ∧ MW P2 a0 ∧ (0 ≤ r.toInt ∧ r.toInt ≤ 1000)) := by
  refine enI (lv := [(0, .ref a0), (1, .long a1), (3, .long a2), (5, .long a3)]) (by decide) (Nat.le_of_ble_eq_true rfl) rfl (fun E D cy C Ci0 ret => ?_)
  have ha0 := I.2.1
  refine g_aload_n C dX12_feed_0 rfl 0 rfl ?_
  refine g_iconst (v := 0) C dX12_feed_1 (by decide) ?_
  refine g_putI C fi_X12_1 rfl (ha0).1 (ha0).2 dX12_feed_2 ?_
  refine gqW (ks := [0]) (I.setI (rgOk.of rfl (by decide))) (EM.setI I (by decide)) (fun Y51510 Iy51511 Xy51512 w51513 => ?_)
  have w51513 : (pI Y51510 a0 0).toInt = 0 := w51513
  have W51514 := hW.keep I Xy51512 (by decide) (by decide) (by decide)
  have Xz51515 : EM [0, 1, 2] a0 P Y51510 := Xy51512.mono (by decide)
  have h51516 := Xy51512.at ha0
  refine g_aload_n C dX12_feed_5 rfl 0 rfl ?_
  refine g_lload_n C dX12_feed_6 rfl 1 rfl ?_
  refine g_callVV (rest := []) C mv_X12_7 [.long a1] (s_X12_lay Iy51511 W51514) (h51516).1 (h51516).2 rfl rfl (by decide) (Nat.le_of_ble_eq_true rfl) (by decide) dX12_feed_7 (fun Y51518 h51519 => ?_)
  obtain ⟨Iy51520, Xy51521, W51522⟩ := h51519
  have q51523 := Xy51521.keepF 0 (by decide)
  have Xz51524 : EM [0, 1, 2] a0 P Y51518 := EM.tr ha0 Xz51515 (Xy51521.mono (by decide))
  have h51525 := Xy51521.at h51516
  refine g_aload_n C dX12_feed_10 rfl 0 rfl ?_
  refine g_lload_n C dX12_feed_11 rfl 2 rfl ?_
  refine g_callVV (rest := []) C mv_X12_7 [.long a2] (s_X12_lay Iy51520 W51522) (h51525).1 (h51525).2 rfl rfl (by decide) (Nat.le_of_ble_eq_true rfl) (by decide) dX12_feed_12 (fun Y51527 h51528 => ?_)
  obtain ⟨Iy51529, Xy51530, W51531⟩ := h51528
  have q51532 := Xy51530.keepF 0 (by decide)
  have Xz51533 : EM [0, 1, 2] a0 P Y51527 := EM.tr ha0 Xz51524 (Xy51530.mono (by decide))
  have h51534 := Xy51530.at h51525
  refine g_aload_n C dX12_feed_15 rfl 0 rfl ?_
  refine g_lload C dX12_feed_16 3 rfl ?_
  refine g_callVV (rest := []) C mv_X12_7 [.long a3] (s_X12_lay Iy51529 W51531) (h51534).1 (h51534).2 rfl rfl (by decide) (Nat.le_of_ble_eq_true rfl) (by decide) dX12_feed_18 (fun Y51536 h51537 => ?_)
  obtain ⟨Iy51538, Xy51539, W51540⟩ := h51537
  have q51541 := Xy51539.keepF 0 (by decide)
  have Xz51542 : EM [0, 1, 2] a0 P Y51536 := EM.tr ha0 Xz51533 (Xy51539.mono (by decide))
  have h51543 := Xy51539.at h51534
  refine g_aload_n C dX12_feed_21 rfl 0 rfl ?_
  refine g_getI C fi_X12_11 (by decide) (h51543).1 (h51543).2 dX12_feed_22 ?_
  have h51544 := Iy51538.rg (h51543) 2 rfl
  exact ret _ _ _ _ _ _ dX12_feed_25 rfl (by decide) (by decide) ⟨Iy51538, Xz51542, W51540, (by omega)⟩
