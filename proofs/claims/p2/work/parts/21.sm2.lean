theorem dX12_readLine_131 : decode cX12_readLine 131 = .ok (.aload_n 0, 1) := by decide +kernel
theorem dX12_readLine_132 : decode cX12_readLine 132 = .ok (.invokevirtual 208, 3) := by decide +kernel
theorem dX12_readLine_146 : decode cX12_readLine 146 = .ok (.aload_n 0, 1) := by decide +kernel
theorem dX12_readLine_147 : decode cX12_readLine 147 = .ok (.getfield 54, 3) := by decide +kernel
theorem dX12_readLine_150 : decode cX12_readLine 150 = .ok (.iconst 2, 1) := by decide +kernel
theorem dX12_readLine_151 : decode cX12_readLine 151 = .ok (.aload_n 0, 1) := by decide +kernel
theorem dX12_readLine_152 : decode cX12_readLine 152 = .ok (.iconst 1, 1) := by decide +kernel
theorem dX12_readLine_153 : decode cX12_readLine 153 = .ok (.bipush 16, 2) := by decide +kernel
theorem dX12_readLine_155 : decode cX12_readLine 155 = .ok (.invokevirtual 211, 3) := by decide +kernel
theorem dX12_readLine_158 : decode cX12_readLine 158 = .ok (.iastore, 1) := by decide +kernel
theorem dX12_readLine_159 : decode cX12_readLine 159 = .ok (.aload_n 0, 1) := by decide +kernel
theorem dX12_readLine_160 : decode cX12_readLine 160 = .ok (.getfield 57, 3) := by decide +kernel
theorem dX12_readLine_163 : decode cX12_readLine 163 = .ok (.iconst 2, 1) := by decide +kernel
theorem dX12_readLine_164 : decode cX12_readLine 164 = .ok (.aload_n 0, 1) := by decide +kernel
theorem dX12_readLine_165 : decode cX12_readLine 165 = .ok (.iconst 2, 1) := by decide +kernel
theorem dX12_readLine_166 : decode cX12_readLine 166 = .ok (.bipush 9, 2) := by decide +kernel
theorem dX12_readLine_168 : decode cX12_readLine 168 = .ok (.invokevirtual 211, 3) := by decide +kernel
theorem dX12_readLine_171 : decode cX12_readLine 171 = .ok (.iastore, 1) := by decide +kernel
theorem dX12_readLine_172 : decode cX12_readLine 172 = .ok (.goto 42, 3) := by decide +kernel
theorem dX12_readLine_187 : decode cX12_readLine 187 = .ok (.goto 27, 3) := by decide +kernel
theorem dX12_readOdds_0 : decode cX12_readOdds 0 = .ok (.aload_n 0, 1) := by decide +kernel
theorem dX12_readOdds_1 : decode cX12_readOdds 1 = .ok (.getfield 24, 3) := by decide +kernel
theorem dX12_readOdds_4 : decode cX12_readOdds 4 = .ok (.aload_n 0, 1) := by decide +kernel
theorem dX12_readOdds_5 : decode cX12_readOdds 5 = .ok (.getfield 159, 3) := by decide +kernel
theorem dX12_readOdds_8 : decode cX12_readOdds 8 = .ok (.iaload, 1) := by decide +kernel
theorem dX12_readOdds_9 : decode cX12_readOdds 9 = .ok (.iconst 2, 1) := by decide +kernel
theorem dX12_readOdds_10 : decode cX12_readOdds 10 = .ok (.if_icmp .ne 59, 3) := by decide +kernel
theorem dX12_readOdds_13 : decode cX12_readOdds 13 = .ok (.aload_n 0, 1) := by decide +kernel
theorem dX12_readOdds_14 : decode cX12_readOdds 14 = .ok (.getfield 30, 3) := by decide +kernel
theorem dX12_readOdds_17 : decode cX12_readOdds 17 = .ok (.aload_n 0, 1) := by decide +kernel
theorem dX12_readOdds_18 : decode cX12_readOdds 18 = .ok (.getfield 159, 3) := by decide +kernel
theorem dX12_readOdds_21 : decode cX12_readOdds 21 = .ok (.laload, 1) := by decide +kernel
theorem dX12_readOdds_22 : decode cX12_readOdds 22 = .ok (.lconst 1, 1) := by decide +kernel
theorem dX12_readOdds_23 : decode cX12_readOdds 23 = .ok (.lcmp, 1) := by decide +kernel
theorem dX12_readOdds_24 : decode cX12_readOdds 24 = .ok (.ifCond .lt 45, 3) := by decide +kernel
theorem dX12_readOdds_27 : decode cX12_readOdds 27 = .ok (.aload_n 0, 1) := by decide +kernel
theorem dX12_readOdds_28 : decode cX12_readOdds 28 = .ok (.getfield 30, 3) := by decide +kernel
theorem dX12_readOdds_31 : decode cX12_readOdds 31 = .ok (.aload_n 0, 1) := by decide +kernel
theorem dX12_readOdds_32 : decode cX12_readOdds 32 = .ok (.getfield 159, 3) := by decide +kernel
theorem dX12_readOdds_35 : decode cX12_readOdds 35 = .ok (.laload, 1) := by decide +kernel
theorem dX12_readOdds_36 : decode cX12_readOdds 36 = .ok (.ldc2_w 221, 3) := by decide +kernel
theorem dX12_readOdds_39 : decode cX12_readOdds 39 = .ok (.lcmp, 1) := by decide +kernel
theorem dX12_readOdds_40 : decode cX12_readOdds 40 = .ok (.ifCond .gt 29, 3) := by decide +kernel
theorem dX12_readOdds_43 : decode cX12_readOdds 43 = .ok (.aload_n 0, 1) := by decide +kernel
theorem dX12_readOdds_44 : decode cX12_readOdds 44 = .ok (.getfield 51, 3) := by decide +kernel
theorem dX12_readOdds_47 : decode cX12_readOdds 47 = .ok (.bipush 42, 2) := by decide +kernel
theorem dX12_readOdds_49 : decode cX12_readOdds 49 = .ok (.aload_n 0, 1) := by decide +kernel
theorem dX12_readOdds_50 : decode cX12_readOdds 50 = .ok (.getfield 30, 3) := by decide +kernel
theorem dX12_readOdds_53 : decode cX12_readOdds 53 = .ok (.aload_n 0, 1) := by decide +kernel
theorem dX12_readOdds_54 : decode cX12_readOdds 54 = .ok (.getfield 159, 3) := by decide +kernel
theorem dX12_readOdds_57 : decode cX12_readOdds 57 = .ok (.laload, 1) := by decide +kernel
theorem dX12_readOdds_58 : decode cX12_readOdds 58 = .ok (.l2i, 1) := by decide +kernel
theorem dX12_readOdds_59 : decode cX12_readOdds 59 = .ok (.iadd, 1) := by decide +kernel
theorem dX12_readOdds_60 : decode cX12_readOdds 60 = .ok (.iaload, 1) := by decide +kernel
theorem dX12_readOdds_61 : decode cX12_readOdds 61 = .ok (.ifCond .lt 8, 3) := by decide +kernel
theorem dX12_readOdds_64 : decode cX12_readOdds 64 = .ok (.aload_n 0, 1) := by decide +kernel
theorem dX12_readOdds_65 : decode cX12_readOdds 65 = .ok (.iconst 3, 1) := by decide +kernel
theorem dX12_readOdds_66 : decode cX12_readOdds 66 = .ok (.invokevirtual 168, 3) := by decide +kernel
theorem dX12_readOdds_69 : decode cX12_readOdds 69 = .ok (.aload_n 0, 1) := by decide +kernel
theorem dX12_readOdds_70 : decode cX12_readOdds 70 = .ok (.iconst 1, 1) := by decide +kernel
theorem dX12_readOdds_71 : decode cX12_readOdds 71 = .ok (.bipush 20, 2) := by decide +kernel
theorem dX12_readOdds_73 : decode cX12_readOdds 73 = .ok (.invokevirtual 211, 3) := by decide +kernel
theorem dX12_readOdds_76 : decode cX12_readOdds 76 = .ok (.istore_n 1, 1) := by decide +kernel
theorem dX12_readOdds_77 : decode cX12_readOdds 77 = .ok (.aload_n 0, 1) := by decide +kernel
theorem dX12_readOdds_78 : decode cX12_readOdds 78 = .ok (.iconst 0, 1) := by decide +kernel
theorem dX12_readOdds_79 : decode cX12_readOdds 79 = .ok (.sipush 999, 3) := by decide +kernel
theorem dX12_readOdds_82 : decode cX12_readOdds 82 = .ok (.invokevirtual 211, 3) := by decide +kernel
theorem dX12_readOdds_85 : decode cX12_readOdds 85 = .ok (.istore_n 2, 1) := by decide +kernel
theorem dX12_readOdds_86 : decode cX12_readOdds 86 = .ok (.aload_n 0, 1) := by decide +kernel
theorem dX12_readOdds_87 : decode cX12_readOdds 87 = .ok (.getfield 162, 3) := by decide +kernel
theorem dX12_readOdds_90 : decode cX12_readOdds 90 = .ok (.ifCond .ne 13, 3) := by decide +kernel
theorem dX12_readOdds_93 : decode cX12_readOdds 93 = .ok (.aload_n 0, 1) := by decide +kernel
theorem dX12_readOdds_94 : decode cX12_readOdds 94 = .ok (.getfield 51, 3) := by decide +kernel
theorem dX12_readOdds_97 : decode cX12_readOdds 97 = .ok (.bipush 42, 2) := by decide +kernel
theorem dX12_readOdds_99 : decode cX12_readOdds 99 = .ok (.iload_n 1, 1) := by decide +kernel
theorem dX12_readOdds_100 : decode cX12_readOdds 100 = .ok (.iadd, 1) := by decide +kernel
theorem dX12_readOdds_101 : decode cX12_readOdds 101 = .ok (.iload_n 2, 1) := by decide +kernel
theorem dX12_readOdds_102 : decode cX12_readOdds 102 = .ok (.iastore, 1) := by decide +kernel
theorem dX12_readOdds_103 : decode cX12_readOdds 103 = .ok (.return_, 1) := by decide +kernel
set_option maxHeartbeats 4000000 in
set_option maxRecDepth 100000 in
theorem s_X12_readOdds {P : PP} {a0 : Nat} (I : IM P a0) (hW : MW P a0) : CtrV yX12_readOdds cX12_readOdds 3 none ({ frames := 3, cells := 0, slots := 0, locals := 192 } : Room) 0 0 P [.ref a0] (fun P2 => IM P2 a0 ∧ EM [7, 8, 12] a0 P P2 ∧ MW P2 a0 ∧ ((pI P a0 7).toInt ≤ (pI P2 a0 7).toInt) ∧ ((pI P a0 8).toInt ≤ (pI P2 a0 8).toInt)) := by
  refine enV (lv := [(0, .ref a0)]) (by decide) (Nat.le_of_ble_eq_true rfl) rfl (fun E D cy C Ci0 ret => ?_)
  have ha0 := I.2.1
  have h25207 := I.rg ha0 7 rfl
  have h25208 := I.rg ha0 8 rfl
  refine g_aload_n C dX12_readOdds_0 rfl 0 rfl ?_
  obtain ⟨b25209, e25210, h25211⟩ := I.fld (ha0) 4 13 1002 rfl
  refine g_getR C fi_X12_24 rfl e25210 (ha0).1 (ha0).2 dX12_readOdds_1 ?_
  refine g_aload_n C dX12_readOdds_4 rfl 0 rfl ?_
  refine g_getI C fi_X12_159 (by decide) (ha0).1 (ha0).2 dX12_readOdds_5 ?_
  refine g_iald (j := ((pI P a0 7).toInt.toNat)) C h25211.1 h25211.2.1 (ix_in h25211.2.2 (by omega)) dX12_readOdds_8 ?_
  have h25212 := I.arr e25210 rfl ((pI P a0 7).toInt.toNat)
  refine g_iconst (v := 2) C dX12_readOdds_9 (by decide) ?_
  refine b_icmp_ne C 69 dX12_readOdds_10 (by decide) (fun h25213 => ?_) (fun h25213 => ?_)
  · have h25213 : (pI P b25209 ((pI P a0 7).toInt.toNat)).toInt ≠ 2 := ti_ne h25213
    refine g_aload_n C dX12_readOdds_69 rfl 0 rfl ?_
    refine g_iconst (v := 1) C dX12_readOdds_70 (by decide) ?_
    refine g_bipush (v := 20) C dX12_readOdds_71 (by decide) ?_
    refine g_callVI (rest := []) C mv_X12_211 [.int 1, .int 20] (s_X12_takeNumber I (by decide) (by decide) hW) (ha0).1 (ha0).2 rfl rfl (by decide) (Nat.le_of_ble_eq_true rfl) (by decide) dX12_readOdds_73 (fun r25214 Y25215 h25216 => ?_)
    obtain ⟨Iy25217, Xy25218, W25219, p25220, p25221, p25222, h25216⟩ := h25216
    have p25220 : (pI P a0 7).toInt ≤ (pI Y25215 a0 7).toInt := p25220
    have p25221 : (pI P a0 8).toInt ≤ (pI Y25215 a0 8).toInt := p25221
    have p25222 : 1 ≤ (pI Y25215 a0 8).toInt ∨ (pI Y25215 a0 7).toInt = (pI P a0 7).toInt + 1 := p25222
    have Xz25223 : EM [7, 8, 12] a0 P Y25215 := Xy25218.mono (by decide)
    have h25224 := Xy25218.at ha0
    have h25225 := Iy25217.rg h25224 7 rfl
    have h25226 := Iy25217.rg h25224 8 rfl
    have h25227 := Iy25217.rg h25224 7 rfl
    have h25228 := Iy25217.rg h25224 8 rfl
    obtain ⟨h25216, hi25229⟩ := h25216
    have hi25229 : (1 ≤ (pI Y25215 a0 8).toInt ∧ r25214.toInt = 0) ∨ (1 ≤ r25214.toInt ∧ r25214.toInt ≤ 20) := hi25229
    have h25216 : 0 ≤ r25214.toInt ∧ r25214.toInt ≤ 999 := h25216
    refine g_istore_n (lv' := [(1, .int r25214), (0, .ref a0)]) C dX12_readOdds_76 rfl (by decide) rfl ?_
    refine g_aload_n C dX12_readOdds_77 rfl 1 rfl ?_
    refine g_iconst (v := 0) C dX12_readOdds_78 (by decide) ?_
    refine g_sipush (v := 999) C dX12_readOdds_79 (by decide) ?_
    refine g_callVI (rest := []) C mv_X12_211 [.int 0, .int 999] (s_X12_takeNumber Iy25217 (by decide) (by decide) W25219) (h25224).1 (h25224).2 rfl rfl (by decide) (Nat.le_of_ble_eq_true rfl) (by decide) dX12_readOdds_82 (fun r25230 Y25231 h25232 => ?_)
    obtain ⟨Iy25233, Xy25234, W25235, p25236, p25237, p25238, h25232⟩ := h25232
    have p25236 : (pI Y25215 a0 7).toInt ≤ (pI Y25231 a0 7).toInt := p25236
    have p25237 : (pI Y25215 a0 8).toInt ≤ (pI Y25231 a0 8).toInt := p25237
    have p25238 : 1 ≤ (pI Y25231 a0 8).toInt ∨ (pI Y25231 a0 7).toInt = (pI Y25215 a0 7).toInt + 1 := p25238
    have Xz25239 : EM [7, 8, 12] a0 P Y25231 := EM.tr ha0 Xz25223 (Xy25234.mono (by decide))
    have h25240 := Xy25234.at h25224
    have h25241 := Iy25233.rg h25240 7 rfl
    have h25242 := Iy25233.rg h25240 8 rfl
    have h25243 := Iy25233.rg h25240 7 rfl
    have h25244 := Iy25233.rg h25240 8 rfl
    obtain ⟨h25232, hi25245⟩ := h25232
    have hi25245 : (1 ≤ (pI Y25231 a0 8).toInt ∧ r25230.toInt = 0) ∨ (0 ≤ r25230.toInt ∧ r25230.toInt ≤ 999) := hi25245
    have h25232 : 0 ≤ r25230.toInt ∧ r25230.toInt ≤ 999 := h25232
    refine g_istore_n (lv' := [(2, .int r25230), (1, .int r25214), (0, .ref a0)]) C dX12_readOdds_85 rfl (by decide) rfl ?_
    refine g_aload_n C dX12_readOdds_86 rfl 2 rfl ?_
    refine g_getI C fi_X12_162 (by decide) (h25240).1 (h25240).2 dX12_readOdds_87 ?_
    refine b_if_ne C 103 dX12_readOdds_90 (by decide) (fun h25246 => ?_) (fun h25246 => ?_)
    · have h25246 : (pI Y25231 a0 8).toInt ≠ 0 := ti_ne h25246
      exact ret _ _ _ _ _ dX12_readOdds_103 (by decide) (by decide) ⟨Iy25233, Xz25239, W25235, (by show (pI P a0 7).toInt ≤ (pI Y25231 a0 7).toInt; omega), (by show (pI P a0 8).toInt ≤ (pI Y25231 a0 8).toInt; omega)⟩
    · have h25246 : (pI Y25231 a0 8).toInt = 0 := congrArg Int32.toInt h25246
      refine g_aload_n C dX12_readOdds_93 rfl 2 rfl ?_
      obtain ⟨b25247, e25248, h25249⟩ := Iy25233.fld (h25240) 12 13 63 rfl
      refine g_getR C fi_X12_51 rfl e25248 (h25240).1 (h25240).2 dX12_readOdds_94 ?_
      refine g_bipush (v := 42) C dX12_readOdds_97 (by decide) ?_
      refine g_iload_n C dX12_readOdds_99 rfl 1 rfl ?_
      refine s_iadd C dX12_readOdds_100 (by show -2147483648 ≤ 42 + r25214.toInt ∧ 42 + r25214.toInt ≤ 2147483647; omega) (fun z25250 h25251 => ?_)
      have h25251 : z25250.toInt = 42 + r25214.toInt := h25251
      refine g_iload_n C dX12_readOdds_101 rfl 0 rfl ?_
      refine g_iast (j := (z25250.toInt.toNat)) C h25249.1 h25249.2.1 (ix_in h25249.2.2 (by omega)) dX12_readOdds_102 ?_
      refine gqW (ks := [12]) (Iy25233.setA e25248 h25249 (by decide) (arOk.of rfl (by omega))) (EM.setA Iy25233 e25248 rfl (by decide)) (fun Y25252 Iy25253 Xy25254 w25255  => ?_)
      have w25255 : (pI Y25252 b25247 (z25250.toInt.toNat)).toInt = r25230.toInt := w25255
      have q25256 := Xy25254.keepF 7 (by decide)
      have q25257 := Xy25254.keepF 8 (by decide)
      have W25258 := W25235.keep Iy25233 Xy25254 (by decide) (by decide) (by decide)
      have Xz25259 : EM [7, 8, 12] a0 P Y25252 := EM.tr ha0 Xz25239 (Xy25254.mono (by decide))
      have e25260 := Xy25254.ref h25240 (by decide) e25248
      have h25261 := Xy25254.at h25240
      have h25262 := Xy25254.ar h25249
      exact ret _ _ _ _ _ dX12_readOdds_103 (by decide) (by decide) ⟨Iy25253, Xz25259, W25258, (by show (pI P a0 7).toInt ≤ (pI Y25252 a0 7).toInt; omega), (by show (pI P a0 8).toInt ≤ (pI Y25252 a0 8).toInt; omega)⟩
  · have h25213 : (pI P b25209 ((pI P a0 7).toInt.toNat)).toInt = 2 := congrArg Int32.toInt h25213
    refine g_aload_n C dX12_readOdds_13 rfl 0 rfl ?_
    obtain ⟨b25263, e25264, h25265⟩ := I.fld (ha0) 6 14 1002 rfl
    refine g_getR C fi_X12_30 rfl e25264 (ha0).1 (ha0).2 dX12_readOdds_14 ?_
    refine g_aload_n C dX12_readOdds_17 rfl 0 rfl ?_
    refine g_getI C fi_X12_159 (by decide) (ha0).1 (ha0).2 dX12_readOdds_18 ?_
    refine g_lald (j := ((pI P a0 7).toInt.toNat)) C h25265.1 h25265.2.1 (ix_in h25265.2.2 (by omega)) dX12_readOdds_21 ?_
    refine g_topl (fun l25266 h25267 => ?_)
    have hl25268 : l25266.toInt = (pJ P b25263 ((pI P a0 7).toInt.toNat)).toInt := congrArg Int64.toInt h25267
    refine g_lconst (v := 1) C dX12_readOdds_22 (by decide) ?_
    refine g_lcmp C dX12_readOdds_23 ?_
    refine g_topi (fun z25269 h25270 => ?_)
    have hc25271 : (z25269.toInt < 0 ∧ l25266.toInt < 1) ∨ (z25269.toInt = 0 ∧ l25266.toInt = 1) ∨ (0 < z25269.toInt ∧ 1 < l25266.toInt) := cmp_or h25270
    have h25272 := cmp_rg h25270
    refine b_if_lt C 69 dX12_readOdds_24 (by decide) (fun h25273 => ?_) (fun h25273 => ?_)
    · have h25273 : z25269.toInt < 0 := h25273
      refine g_aload_n C dX12_readOdds_69 rfl 0 rfl ?_
      refine g_iconst (v := 1) C dX12_readOdds_70 (by decide) ?_
      refine g_bipush (v := 20) C dX12_readOdds_71 (by decide) ?_
      refine g_callVI (rest := []) C mv_X12_211 [.int 1, .int 20] (s_X12_takeNumber I (by decide) (by decide) hW) (ha0).1 (ha0).2 rfl rfl (by decide) (Nat.le_of_ble_eq_true rfl) (by decide) dX12_readOdds_73 (fun r25274 Y25275 h25276 => ?_)
      obtain ⟨Iy25277, Xy25278, W25279, p25280, p25281, p25282, h25276⟩ := h25276
      have p25280 : (pI P a0 7).toInt ≤ (pI Y25275 a0 7).toInt := p25280
      have p25281 : (pI P a0 8).toInt ≤ (pI Y25275 a0 8).toInt := p25281
      have p25282 : 1 ≤ (pI Y25275 a0 8).toInt ∨ (pI Y25275 a0 7).toInt = (pI P a0 7).toInt + 1 := p25282
      have Xz25283 : EM [7, 8, 12] a0 P Y25275 := Xy25278.mono (by decide)
      have h25284 := Xy25278.at ha0
      have h25285 := Iy25277.rg h25284 7 rfl
      have h25286 := Iy25277.rg h25284 8 rfl
      have h25287 := Iy25277.rg h25284 7 rfl
      have h25288 := Iy25277.rg h25284 8 rfl
      obtain ⟨h25276, hi25289⟩ := h25276
      have hi25289 : (1 ≤ (pI Y25275 a0 8).toInt ∧ r25274.toInt = 0) ∨ (1 ≤ r25274.toInt ∧ r25274.toInt ≤ 20) := hi25289
      have h25276 : 0 ≤ r25274.toInt ∧ r25274.toInt ≤ 999 := h25276
      refine g_istore_n (lv' := [(1, .int r25274), (0, .ref a0)]) C dX12_readOdds_76 rfl (by decide) rfl ?_
      refine g_aload_n C dX12_readOdds_77 rfl 1 rfl ?_
      refine g_iconst (v := 0) C dX12_readOdds_78 (by decide) ?_
      refine g_sipush (v := 999) C dX12_readOdds_79 (by decide) ?_
      refine g_callVI (rest := []) C mv_X12_211 [.int 0, .int 999] (s_X12_takeNumber Iy25277 (by decide) (by decide) W25279) (h25284).1 (h25284).2 rfl rfl (by decide) (Nat.le_of_ble_eq_true rfl) (by decide) dX12_readOdds_82 (fun r25290 Y25291 h25292 => ?_)
      obtain ⟨Iy25293, Xy25294, W25295, p25296, p25297, p25298, h25292⟩ := h25292
      have p25296 : (pI Y25275 a0 7).toInt ≤ (pI Y25291 a0 7).toInt := p25296
      have p25297 : (pI Y25275 a0 8).toInt ≤ (pI Y25291 a0 8).toInt := p25297
      have p25298 : 1 ≤ (pI Y25291 a0 8).toInt ∨ (pI Y25291 a0 7).toInt = (pI Y25275 a0 7).toInt + 1 := p25298
      have Xz25299 : EM [7, 8, 12] a0 P Y25291 := EM.tr ha0 Xz25283 (Xy25294.mono (by decide))
      have h25300 := Xy25294.at h25284
      have h25301 := Iy25293.rg h25300 7 rfl
      have h25302 := Iy25293.rg h25300 8 rfl
      have h25303 := Iy25293.rg h25300 7 rfl
      have h25304 := Iy25293.rg h25300 8 rfl
      obtain ⟨h25292, hi25305⟩ := h25292
      have hi25305 : (1 ≤ (pI Y25291 a0 8).toInt ∧ r25290.toInt = 0) ∨ (0 ≤ r25290.toInt ∧ r25290.toInt ≤ 999) := hi25305
      have h25292 : 0 ≤ r25290.toInt ∧ r25290.toInt ≤ 999 := h25292
      refine g_istore_n (lv' := [(2, .int r25290), (1, .int r25274), (0, .ref a0)]) C dX12_readOdds_85 rfl (by decide) rfl ?_
      refine g_aload_n C dX12_readOdds_86 rfl 2 rfl ?_
      refine g_getI C fi_X12_162 (by decide) (h25300).1 (h25300).2 dX12_readOdds_87 ?_
      refine b_if_ne C 103 dX12_readOdds_90 (by decide) (fun h25306 => ?_) (fun h25306 => ?_)
      · have h25306 : (pI Y25291 a0 8).toInt ≠ 0 := ti_ne h25306
        exact ret _ _ _ _ _ dX12_readOdds_103 (by decide) (by decide) ⟨Iy25293, Xz25299, W25295, (by show (pI P a0 7).toInt ≤ (pI Y25291 a0 7).toInt; omega), (by show (pI P a0 8).toInt ≤ (pI Y25291 a0 8).toInt; omega)⟩
      · have h25306 : (pI Y25291 a0 8).toInt = 0 := congrArg Int32.toInt h25306
        refine g_aload_n C dX12_readOdds_93 rfl 2 rfl ?_
        obtain ⟨b25307, e25308, h25309⟩ := Iy25293.fld (h25300) 12 13 63 rfl
        refine g_getR C fi_X12_51 rfl e25308 (h25300).1 (h25300).2 dX12_readOdds_94 ?_
        refine g_bipush (v := 42) C dX12_readOdds_97 (by decide) ?_
        refine g_iload_n C dX12_readOdds_99 rfl 1 rfl ?_
        refine s_iadd C dX12_readOdds_100 (by show -2147483648 ≤ 42 + r25274.toInt ∧ 42 + r25274.toInt ≤ 2147483647; omega) (fun z25310 h25311 => ?_)
        have h25311 : z25310.toInt = 42 + r25274.toInt := h25311
        refine g_iload_n C dX12_readOdds_101 rfl 0 rfl ?_
        refine g_iast (j := (z25310.toInt.toNat)) C h25309.1 h25309.2.1 (ix_in h25309.2.2 (by omega)) dX12_readOdds_102 ?_
        refine gqW (ks := [12]) (Iy25293.setA e25308 h25309 (by decide) (arOk.of rfl (by omega))) (EM.setA Iy25293 e25308 rfl (by decide)) (fun Y25312 Iy25313 Xy25314 w25315  => ?_)
        have w25315 : (pI Y25312 b25307 (z25310.toInt.toNat)).toInt = r25290.toInt := w25315
        have q25316 := Xy25314.keepF 7 (by decide)
        have q25317 := Xy25314.keepF 8 (by decide)
        have W25318 := W25295.keep Iy25293 Xy25314 (by decide) (by decide) (by decide)
        have Xz25319 : EM [7, 8, 12] a0 P Y25312 := EM.tr ha0 Xz25299 (Xy25314.mono (by decide))
        have e25320 := Xy25314.ref h25300 (by decide) e25308
        have h25321 := Xy25314.at h25300
        have h25322 := Xy25314.ar h25309
        exact ret _ _ _ _ _ dX12_readOdds_103 (by decide) (by decide) ⟨Iy25313, Xz25319, W25318, (by show (pI P a0 7).toInt ≤ (pI Y25312 a0 7).toInt; omega), (by show (pI P a0 8).toInt ≤ (pI Y25312 a0 8).toInt; omega)⟩
    · have h25273 : 0 ≤ z25269.toInt := h25273
      refine g_aload_n C dX12_readOdds_27 rfl 0 rfl ?_
      refine g_getR C fi_X12_30 rfl e25264 (ha0).1 (ha0).2 dX12_readOdds_28 ?_
      refine g_aload_n C dX12_readOdds_31 rfl 0 rfl ?_
      refine g_getI C fi_X12_159 (by decide) (ha0).1 (ha0).2 dX12_readOdds_32 ?_
      refine g_lald (j := ((pI P a0 7).toInt.toNat)) C h25265.1 h25265.2.1 (ix_in h25265.2.2 (by omega)) dX12_readOdds_35 ?_
      refine g_topl (fun l25323 h25324 => ?_)
      have hl25325 : l25323.toInt = (pJ P b25263 ((pI P a0 7).toInt.toNat)).toInt := congrArg Int64.toInt h25324
      refine g_ldc2 (v := 20) C kl_X12_221 dX12_readOdds_36 ?_
      refine g_topl (fun l25326 el25326 => ?_)
      have hz_l25326 : ¬ l25326 = 0 := by rw [el25326]; decide
      refine g_lcmp C dX12_readOdds_39 ?_
      refine g_topi (fun z25327 h25328 => ?_)
      have hl25329 : l25326.toInt = 20 := congrArg Int64.toInt el25326
      have hc25330 := cmp_or h25328
      have h25331 := cmp_rg h25328
      refine b_if_gt C 69 dX12_readOdds_40 (by decide) (fun h25332 => ?_) (fun h25332 => ?_)
      · have h25332 : 0 < z25327.toInt := h25332
        refine g_aload_n C dX12_readOdds_69 rfl 0 rfl ?_
        refine g_iconst (v := 1) C dX12_readOdds_70 (by decide) ?_
        refine g_bipush (v := 20) C dX12_readOdds_71 (by decide) ?_
        refine g_callVI (rest := []) C mv_X12_211 [.int 1, .int 20] (s_X12_takeNumber I (by decide) (by decide) hW) (ha0).1 (ha0).2 rfl rfl (by decide) (Nat.le_of_ble_eq_true rfl) (by decide) dX12_readOdds_73 (fun r25333 Y25334 h25335 => ?_)
        obtain ⟨Iy25336, Xy25337, W25338, p25339, p25340, p25341, h25335⟩ := h25335
        have p25339 : (pI P a0 7).toInt ≤ (pI Y25334 a0 7).toInt := p25339
        have p25340 : (pI P a0 8).toInt ≤ (pI Y25334 a0 8).toInt := p25340
        have p25341 : 1 ≤ (pI Y25334 a0 8).toInt ∨ (pI Y25334 a0 7).toInt = (pI P a0 7).toInt + 1 := p25341
        have Xz25342 : EM [7, 8, 12] a0 P Y25334 := Xy25337.mono (by decide)
        have h25343 := Xy25337.at ha0
        have h25344 := Iy25336.rg h25343 7 rfl
        have h25345 := Iy25336.rg h25343 8 rfl
        have h25346 := Iy25336.rg h25343 7 rfl
        have h25347 := Iy25336.rg h25343 8 rfl
        obtain ⟨h25335, hi25348⟩ := h25335
        have hi25348 : (1 ≤ (pI Y25334 a0 8).toInt ∧ r25333.toInt = 0) ∨ (1 ≤ r25333.toInt ∧ r25333.toInt ≤ 20) := hi25348
        have h25335 : 0 ≤ r25333.toInt ∧ r25333.toInt ≤ 999 := h25335
        refine g_istore_n (lv' := [(1, .int r25333), (0, .ref a0)]) C dX12_readOdds_76 rfl (by decide) rfl ?_
        refine g_aload_n C dX12_readOdds_77 rfl 1 rfl ?_
        refine g_iconst (v := 0) C dX12_readOdds_78 (by decide) ?_
        refine g_sipush (v := 999) C dX12_readOdds_79 (by decide) ?_
        refine g_callVI (rest := []) C mv_X12_211 [.int 0, .int 999] (s_X12_takeNumber Iy25336 (by decide) (by decide) W25338) (h25343).1 (h25343).2 rfl rfl (by decide) (Nat.le_of_ble_eq_true rfl) (by decide) dX12_readOdds_82 (fun r25349 Y25350 h25351 => ?_)
        obtain ⟨Iy25352, Xy25353, W25354, p25355, p25356, p25357, h25351⟩ := h25351
        have p25355 : (pI Y25334 a0 7).toInt ≤ (pI Y25350 a0 7).toInt := p25355
        have p25356 : (pI Y25334 a0 8).toInt ≤ (pI Y25350 a0 8).toInt := p25356
        have p25357 : 1 ≤ (pI Y25350 a0 8).toInt ∨ (pI Y25350 a0 7).toInt = (pI Y25334 a0 7).toInt + 1 := p25357
        have Xz25358 : EM [7, 8, 12] a0 P Y25350 := EM.tr ha0 Xz25342 (Xy25353.mono (by decide))
        have h25359 := Xy25353.at h25343
        have h25360 := Iy25352.rg h25359 7 rfl
        have h25361 := Iy25352.rg h25359 8 rfl
        have h25362 := Iy25352.rg h25359 7 rfl
        have h25363 := Iy25352.rg h25359 8 rfl
        obtain ⟨h25351, hi25364⟩ := h25351
        have hi25364 : (1 ≤ (pI Y25350 a0 8).toInt ∧ r25349.toInt = 0) ∨ (0 ≤ r25349.toInt ∧ r25349.toInt ≤ 999) := hi25364
        have h25351 : 0 ≤ r25349.toInt ∧ r25349.toInt ≤ 999 := h25351
        refine g_istore_n (lv' := [(2, .int r25349), (1, .int r25333), (0, .ref a0)]) C dX12_readOdds_85 rfl (by decide) rfl ?_
        refine g_aload_n C dX12_readOdds_86 rfl 2 rfl ?_
        refine g_getI C fi_X12_162 (by decide) (h25359).1 (h25359).2 dX12_readOdds_87 ?_
        refine b_if_ne C 103 dX12_readOdds_90 (by decide) (fun h25365 => ?_) (fun h25365 => ?_)
        · have h25365 : (pI Y25350 a0 8).toInt ≠ 0 := ti_ne h25365
          exact ret _ _ _ _ _ dX12_readOdds_103 (by decide) (by decide) ⟨Iy25352, Xz25358, W25354, (by show (pI P a0 7).toInt ≤ (pI Y25350 a0 7).toInt; omega), (by show (pI P a0 8).toInt ≤ (pI Y25350 a0 8).toInt; omega)⟩
        · have h25365 : (pI Y25350 a0 8).toInt = 0 := congrArg Int32.toInt h25365
          refine g_aload_n C dX12_readOdds_93 rfl 2 rfl ?_
          obtain ⟨b25366, e25367, h25368⟩ := Iy25352.fld (h25359) 12 13 63 rfl
          refine g_getR C fi_X12_51 rfl e25367 (h25359).1 (h25359).2 dX12_readOdds_94 ?_
          refine g_bipush (v := 42) C dX12_readOdds_97 (by decide) ?_
          refine g_iload_n C dX12_readOdds_99 rfl 1 rfl ?_
          refine s_iadd C dX12_readOdds_100 (by show -2147483648 ≤ 42 + r25333.toInt ∧ 42 + r25333.toInt ≤ 2147483647; omega) (fun z25369 h25370 => ?_)
          have h25370 : z25369.toInt = 42 + r25333.toInt := h25370
          refine g_iload_n C dX12_readOdds_101 rfl 0 rfl ?_
          refine g_iast (j := (z25369.toInt.toNat)) C h25368.1 h25368.2.1 (ix_in h25368.2.2 (by omega)) dX12_readOdds_102 ?_
          refine gqW (ks := [12]) (Iy25352.setA e25367 h25368 (by decide) (arOk.of rfl (by omega))) (EM.setA Iy25352 e25367 rfl (by decide)) (fun Y25371 Iy25372 Xy25373 w25374  => ?_)
          have w25374 : (pI Y25371 b25366 (z25369.toInt.toNat)).toInt = r25349.toInt := w25374
          have q25375 := Xy25373.keepF 7 (by decide)
          have q25376 := Xy25373.keepF 8 (by decide)
          have W25377 := W25354.keep Iy25352 Xy25373 (by decide) (by decide) (by decide)
          have Xz25378 : EM [7, 8, 12] a0 P Y25371 := EM.tr ha0 Xz25358 (Xy25373.mono (by decide))
          have e25379 := Xy25373.ref h25359 (by decide) e25367
          have h25380 := Xy25373.at h25359
          have h25381 := Xy25373.ar h25368
          exact ret _ _ _ _ _ dX12_readOdds_103 (by decide) (by decide) ⟨Iy25372, Xz25378, W25377, (by show (pI P a0 7).toInt ≤ (pI Y25371 a0 7).toInt; omega), (by show (pI P a0 8).toInt ≤ (pI Y25371 a0 8).toInt; omega)⟩
      · have h25332 : z25327.toInt ≤ 0 := h25332
        refine g_aload_n C dX12_readOdds_43 rfl 0 rfl ?_
        obtain ⟨b25382, e25383, h25384⟩ := I.fld (ha0) 12 13 63 rfl
        refine g_getR C fi_X12_51 rfl e25383 (ha0).1 (ha0).2 dX12_readOdds_44 ?_
        refine g_bipush (v := 42) C dX12_readOdds_47 (by decide) ?_
        refine g_aload_n C dX12_readOdds_49 rfl 0 rfl ?_
        refine g_getR C fi_X12_30 rfl e25264 (ha0).1 (ha0).2 dX12_readOdds_50 ?_
        refine g_aload_n C dX12_readOdds_53 rfl 0 rfl ?_
        refine g_getI C fi_X12_159 (by decide) (ha0).1 (ha0).2 dX12_readOdds_54 ?_
        refine g_lald (j := ((pI P a0 7).toInt.toNat)) C h25265.1 h25265.2.1 (ix_in h25265.2.2 (by omega)) dX12_readOdds_57 ?_
        refine g_topl (fun l25385 h25386 => ?_)
        have hl25387 : l25385.toInt = (pJ P b25263 ((pI P a0 7).toInt.toNat)).toInt := congrArg Int64.toInt h25386
        refine g_l2i C dX12_readOdds_58 rfl ?_
        refine g_topi (fun z25388 h25389 => ?_)
        have hl25390 := l2i_val h25389 (by omega)
        refine s_iadd C dX12_readOdds_59 (by show -2147483648 ≤ 42 + z25388.toInt ∧ 42 + z25388.toInt ≤ 2147483647; omega) (fun z25391 h25392 => ?_)
        have h25392 : z25391.toInt = 42 + z25388.toInt := h25392
        refine g_iald (j := (z25391.toInt.toNat)) C h25384.1 h25384.2.1 (ix_in h25384.2.2 (by omega)) dX12_readOdds_60 ?_
        have h25393 := I.arr e25383 rfl (z25391.toInt.toNat)
        refine b_if_lt C 69 dX12_readOdds_61 (by decide) (fun h25394 => ?_) (fun h25394 => ?_)
        · have h25394 : (pI P b25382 (z25391.toInt.toNat)).toInt < 0 := h25394
          refine g_aload_n C dX12_readOdds_69 rfl 0 rfl ?_
          refine g_iconst (v := 1) C dX12_readOdds_70 (by decide) ?_
          refine g_bipush (v := 20) C dX12_readOdds_71 (by decide) ?_
          refine g_callVI (rest := []) C mv_X12_211 [.int 1, .int 20] (s_X12_takeNumber I (by decide) (by decide) hW) (ha0).1 (ha0).2 rfl rfl (by decide) (Nat.le_of_ble_eq_true rfl) (by decide) dX12_readOdds_73 (fun r25395 Y25396 h25397 => ?_)
          obtain ⟨Iy25398, Xy25399, W25400, p25401, p25402, p25403, h25397⟩ := h25397
          have p25401 : (pI P a0 7).toInt ≤ (pI Y25396 a0 7).toInt := p25401
          have p25402 : (pI P a0 8).toInt ≤ (pI Y25396 a0 8).toInt := p25402
          have p25403 : 1 ≤ (pI Y25396 a0 8).toInt ∨ (pI Y25396 a0 7).toInt = (pI P a0 7).toInt + 1 := p25403
          have q25404 := Xy25399.keepA e25383 (by decide) rfl (z25391.toInt.toNat)
          have Xz25405 : EM [7, 8, 12] a0 P Y25396 := Xy25399.mono (by decide)
          have e25406 := Xy25399.ref ha0 (by decide) e25383
          have h25407 := Xy25399.at ha0
          have h25408 := Xy25399.ar h25384
          have h25409 := Iy25398.rg h25407 7 rfl
          have h25410 := Iy25398.rg h25407 8 rfl
          have h25411 := Iy25398.rg h25407 7 rfl
          have h25412 := Iy25398.rg h25407 8 rfl
          obtain ⟨h25397, hi25413⟩ := h25397
          have hi25413 : (1 ≤ (pI Y25396 a0 8).toInt ∧ r25395.toInt = 0) ∨ (1 ≤ r25395.toInt ∧ r25395.toInt ≤ 20) := hi25413
          have h25397 : 0 ≤ r25395.toInt ∧ r25395.toInt ≤ 999 := h25397
          refine g_istore_n (lv' := [(1, .int r25395), (0, .ref a0)]) C dX12_readOdds_76 rfl (by decide) rfl ?_
          refine g_aload_n C dX12_readOdds_77 rfl 1 rfl ?_
          refine g_iconst (v := 0) C dX12_readOdds_78 (by decide) ?_
          refine g_sipush (v := 999) C dX12_readOdds_79 (by decide) ?_
          refine g_callVI (rest := []) C mv_X12_211 [.int 0, .int 999] (s_X12_takeNumber Iy25398 (by decide) (by decide) W25400) (h25407).1 (h25407).2 rfl rfl (by decide) (Nat.le_of_ble_eq_true rfl) (by decide) dX12_readOdds_82 (fun r25414 Y25415 h25416 => ?_)
          obtain ⟨Iy25417, Xy25418, W25419, p25420, p25421, p25422, h25416⟩ := h25416
          have p25420 : (pI Y25396 a0 7).toInt ≤ (pI Y25415 a0 7).toInt := p25420
          have p25421 : (pI Y25396 a0 8).toInt ≤ (pI Y25415 a0 8).toInt := p25421
          have p25422 : 1 ≤ (pI Y25415 a0 8).toInt ∨ (pI Y25415 a0 7).toInt = (pI Y25396 a0 7).toInt + 1 := p25422
          have q25423 := Xy25418.keepA e25406 (by decide) rfl (z25391.toInt.toNat)
          have Xz25424 : EM [7, 8, 12] a0 P Y25415 := EM.tr ha0 Xz25405 (Xy25418.mono (by decide))
          have e25425 := Xy25418.ref h25407 (by decide) e25406
          have h25426 := Xy25418.at h25407
          have h25427 := Xy25418.ar h25408
          have h25428 := Iy25417.rg h25426 7 rfl
          have h25429 := Iy25417.rg h25426 8 rfl
          have h25430 := Iy25417.rg h25426 7 rfl
          have h25431 := Iy25417.rg h25426 8 rfl
          obtain ⟨h25416, hi25432⟩ := h25416
          have hi25432 : (1 ≤ (pI Y25415 a0 8).toInt ∧ r25414.toInt = 0) ∨ (0 ≤ r25414.toInt ∧ r25414.toInt ≤ 999) := hi25432
          have h25416 : 0 ≤ r25414.toInt ∧ r25414.toInt ≤ 999 := h25416
          refine g_istore_n (lv' := [(2, .int r25414), (1, .int r25395), (0, .ref a0)]) C dX12_readOdds_85 rfl (by decide) rfl ?_
          refine g_aload_n C dX12_readOdds_86 rfl 2 rfl ?_
          refine g_getI C fi_X12_162 (by decide) (h25426).1 (h25426).2 dX12_readOdds_87 ?_
          refine b_if_ne C 103 dX12_readOdds_90 (by decide) (fun h25433 => ?_) (fun h25433 => ?_)
          · have h25433 : (pI Y25415 a0 8).toInt ≠ 0 := ti_ne h25433
            exact ret _ _ _ _ _ dX12_readOdds_103 (by decide) (by decide) ⟨Iy25417, Xz25424, W25419, (by show (pI P a0 7).toInt ≤ (pI Y25415 a0 7).toInt; omega), (by show (pI P a0 8).toInt ≤ (pI Y25415 a0 8).toInt; omega)⟩
          · have h25433 : (pI Y25415 a0 8).toInt = 0 := congrArg Int32.toInt h25433
            refine g_aload_n C dX12_readOdds_93 rfl 2 rfl ?_
            refine g_getR C fi_X12_51 rfl e25425 (h25426).1 (h25426).2 dX12_readOdds_94 ?_
            refine g_bipush (v := 42) C dX12_readOdds_97 (by decide) ?_
            refine g_iload_n C dX12_readOdds_99 rfl 1 rfl ?_
            refine s_iadd C dX12_readOdds_100 (by show -2147483648 ≤ 42 + r25395.toInt ∧ 42 + r25395.toInt ≤ 2147483647; omega) (fun z25434 h25435 => ?_)
            have h25435 : z25434.toInt = 42 + r25395.toInt := h25435
            refine g_iload_n C dX12_readOdds_101 rfl 0 rfl ?_
            refine g_iast (j := (z25434.toInt.toNat)) C h25427.1 h25427.2.1 (ix_in h25427.2.2 (by omega)) dX12_readOdds_102 ?_
            refine gqW (ks := [12]) (Iy25417.setA e25425 h25427 (by decide) (arOk.of rfl (by omega))) (EM.setA Iy25417 e25425 rfl (by decide)) (fun Y25436 Iy25437 Xy25438 w25439  => ?_)
            have w25439 : (pI Y25436 b25382 (z25434.toInt.toNat)).toInt = r25414.toInt := w25439
            have q25440 := Xy25438.keepF 7 (by decide)
            have q25441 := Xy25438.keepF 8 (by decide)
            have W25442 := W25419.keep Iy25417 Xy25438 (by decide) (by decide) (by decide)
            have Xz25443 : EM [7, 8, 12] a0 P Y25436 := EM.tr ha0 Xz25424 (Xy25438.mono (by decide))
            have e25444 := Xy25438.ref h25426 (by decide) e25425
            have h25445 := Xy25438.at h25426
            have h25446 := Xy25438.ar h25427
            exact ret _ _ _ _ _ dX12_readOdds_103 (by decide) (by decide) ⟨Iy25437, Xz25443, W25442, (by show (pI P a0 7).toInt ≤ (pI Y25436 a0 7).toInt; omega), (by show (pI P a0 8).toInt ≤ (pI Y25436 a0 8).toInt; omega)⟩
        · have h25394 : 0 ≤ (pI P b25382 (z25391.toInt.toNat)).toInt := h25394
          refine g_aload_n C dX12_readOdds_64 rfl 0 rfl ?_
          refine g_iconst (v := 3) C dX12_readOdds_65 (by decide) ?_
          refine g_callVV (rest := []) C mv_X12_168 [.int 3] (s_X12_wrong I (by decide) hW) (ha0).1 (ha0).2 rfl rfl (by decide) (Nat.le_of_ble_eq_true rfl) (by decide) dX12_readOdds_66 (fun Y25448 h25449 => ?_)
          obtain ⟨Iy25450, Xy25451, W25452, p25453, p25454⟩ := h25449
          have p25453 : 1 ≤ (pI Y25448 a0 8).toInt := p25453
          have p25454 : (pI P a0 8).toInt ≤ (pI Y25448 a0 8).toInt := p25454
          have q25455 := Xy25451.keepF 7 (by decide)
          have q25456 := Xy25451.keepA e25383 (by decide) rfl (z25391.toInt.toNat)
          have Xz25457 : EM [7, 8, 12] a0 P Y25448 := Xy25451.mono (by decide)
          have e25458 := Xy25451.ref ha0 (by decide) e25383
          have h25459 := Xy25451.at ha0
          have h25460 := Xy25451.ar h25384
          have h25461 := Iy25450.rg h25459 8 rfl
          refine g_aload_n C dX12_readOdds_69 rfl 0 rfl ?_
          refine g_iconst (v := 1) C dX12_readOdds_70 (by decide) ?_
          refine g_bipush (v := 20) C dX12_readOdds_71 (by decide) ?_
          refine g_callVI (rest := []) C mv_X12_211 [.int 1, .int 20] (s_X12_takeNumber Iy25450 (by decide) (by decide) W25452) (h25459).1 (h25459).2 rfl rfl (by decide) (Nat.le_of_ble_eq_true rfl) (by decide) dX12_readOdds_73 (fun r25462 Y25463 h25464 => ?_)
          obtain ⟨Iy25465, Xy25466, W25467, p25468, p25469, p25470, h25464⟩ := h25464
          have p25468 : (pI Y25448 a0 7).toInt ≤ (pI Y25463 a0 7).toInt := p25468
          have p25469 : (pI Y25448 a0 8).toInt ≤ (pI Y25463 a0 8).toInt := p25469
          have p25470 : 1 ≤ (pI Y25463 a0 8).toInt ∨ (pI Y25463 a0 7).toInt = (pI Y25448 a0 7).toInt + 1 := p25470
          have q25471 := Xy25466.keepA e25458 (by decide) rfl (z25391.toInt.toNat)
          have Xz25472 : EM [7, 8, 12] a0 P Y25463 := EM.tr ha0 Xz25457 (Xy25466.mono (by decide))
          have e25473 := Xy25466.ref h25459 (by decide) e25458
          have h25474 := Xy25466.at h25459
          have h25475 := Xy25466.ar h25460
          have h25476 := Iy25465.rg h25474 7 rfl
          have h25477 := Iy25465.rg h25474 8 rfl
          have h25478 := Iy25465.rg h25474 7 rfl
          have h25479 := Iy25465.rg h25474 8 rfl
          obtain ⟨h25464, hi25480⟩ := h25464
          have hi25480 : (1 ≤ (pI Y25463 a0 8).toInt ∧ r25462.toInt = 0) ∨ (1 ≤ r25462.toInt ∧ r25462.toInt ≤ 20) := hi25480
          have h25464 : 0 ≤ r25462.toInt ∧ r25462.toInt ≤ 999 := h25464
          refine g_istore_n (lv' := [(1, .int r25462), (0, .ref a0)]) C dX12_readOdds_76 rfl (by decide) rfl ?_
          refine g_aload_n C dX12_readOdds_77 rfl 1 rfl ?_
          refine g_iconst (v := 0) C dX12_readOdds_78 (by decide) ?_
          refine g_sipush (v := 999) C dX12_readOdds_79 (by decide) ?_
          refine g_callVI (rest := []) C mv_X12_211 [.int 0, .int 999] (s_X12_takeNumber Iy25465 (by decide) (by decide) W25467) (h25474).1 (h25474).2 rfl rfl (by decide) (Nat.le_of_ble_eq_true rfl) (by decide) dX12_readOdds_82 (fun r25481 Y25482 h25483 => ?_)
          obtain ⟨Iy25484, Xy25485, W25486, p25487, p25488, p25489, h25483⟩ := h25483
          have p25487 : (pI Y25463 a0 7).toInt ≤ (pI Y25482 a0 7).toInt := p25487
          have p25488 : (pI Y25463 a0 8).toInt ≤ (pI Y25482 a0 8).toInt := p25488
          have p25489 : 1 ≤ (pI Y25482 a0 8).toInt ∨ (pI Y25482 a0 7).toInt = (pI Y25463 a0 7).toInt + 1 := p25489
          have q25490 := Xy25485.keepA e25473 (by decide) rfl (z25391.toInt.toNat)
          have Xz25491 : EM [7, 8, 12] a0 P Y25482 := EM.tr ha0 Xz25472 (Xy25485.mono (by decide))
          have e25492 := Xy25485.ref h25474 (by decide) e25473
          have h25493 := Xy25485.at h25474
          have h25494 := Xy25485.ar h25475
          have h25495 := Iy25484.rg h25493 7 rfl
          have h25496 := Iy25484.rg h25493 8 rfl
          have h25497 := Iy25484.rg h25493 7 rfl
          have h25498 := Iy25484.rg h25493 8 rfl
          obtain ⟨h25483, hi25499⟩ := h25483
          have hi25499 : (1 ≤ (pI Y25482 a0 8).toInt ∧ r25481.toInt = 0) ∨ (0 ≤ r25481.toInt ∧ r25481.toInt ≤ 999) := hi25499
          have h25483 : 0 ≤ r25481.toInt ∧ r25481.toInt ≤ 999 := h25483
          refine g_istore_n (lv' := [(2, .int r25481), (1, .int r25462), (0, .ref a0)]) C dX12_readOdds_85 rfl (by decide) rfl ?_
          refine g_aload_n C dX12_readOdds_86 rfl 2 rfl ?_
          refine g_getI C fi_X12_162 (by decide) (h25493).1 (h25493).2 dX12_readOdds_87 ?_
          refine b_if_ne C 103 dX12_readOdds_90 (by decide) (fun h25500 => ?_) (fun h25500 => ?_)
          · have h25500 : (pI Y25482 a0 8).toInt ≠ 0 := ti_ne h25500
            exact ret _ _ _ _ _ dX12_readOdds_103 (by decide) (by decide) ⟨Iy25484, Xz25491, W25486, (by show (pI P a0 7).toInt ≤ (pI Y25482 a0 7).toInt; omega), (by show (pI P a0 8).toInt ≤ (pI Y25482 a0 8).toInt; omega)⟩
          · have h25500 : (pI Y25482 a0 8).toInt = 0 := congrArg Int32.toInt h25500
            refine g_aload_n C dX12_readOdds_93 rfl 2 rfl ?_
            refine g_getR C fi_X12_51 rfl e25492 (h25493).1 (h25493).2 dX12_readOdds_94 ?_
            refine g_bipush (v := 42) C dX12_readOdds_97 (by decide) ?_
            refine g_iload_n C dX12_readOdds_99 rfl 1 rfl ?_
            refine s_iadd C dX12_readOdds_100 (by show -2147483648 ≤ 42 + r25462.toInt ∧ 42 + r25462.toInt ≤ 2147483647; omega) (fun z25501 h25502 => ?_)
            have h25502 : z25501.toInt = 42 + r25462.toInt := h25502
            refine g_iload_n C dX12_readOdds_101 rfl 0 rfl ?_
            refine g_iast (j := (z25501.toInt.toNat)) C h25494.1 h25494.2.1 (ix_in h25494.2.2 (by omega)) dX12_readOdds_102 ?_
            refine gqW (ks := [12]) (Iy25484.setA e25492 h25494 (by decide) (arOk.of rfl (by omega))) (EM.setA Iy25484 e25492 rfl (by decide)) (fun Y25503 Iy25504 Xy25505 w25506  => ?_)
            have w25506 : (pI Y25503 b25382 (z25501.toInt.toNat)).toInt = r25481.toInt := w25506
            have q25507 := Xy25505.keepF 7 (by decide)
            have q25508 := Xy25505.keepF 8 (by decide)
            have W25509 := W25486.keep Iy25484 Xy25505 (by decide) (by decide) (by decide)
            have Xz25510 : EM [7, 8, 12] a0 P Y25503 := EM.tr ha0 Xz25491 (Xy25505.mono (by decide))
            have e25511 := Xy25505.ref h25493 (by decide) e25492
            have h25512 := Xy25505.at h25493
            have h25513 := Xy25505.ar h25494
            exact ret _ _ _ _ _ dX12_readOdds_103 (by decide) (by decide) ⟨Iy25504, Xz25510, W25509, (by show (pI P a0 7).toInt ≤ (pI Y25503 a0 7).toInt; omega), (by show (pI P a0 8).toInt ≤ (pI Y25503 a0 8).toInt; omega)⟩
theorem dX12_readLine_122 : decode cX12_readLine 122 = .ok (.return_, 1) := by decide +kernel
theorem dX12_readLine_135 : decode cX12_readLine 135 = .ok (.goto 79, 3) := by decide +kernel
theorem dX12_readLine_214 : decode cX12_readLine 214 = .ok (.aload_n 0, 1) := by decide +kernel
theorem dX12_readLine_215 : decode cX12_readLine 215 = .ok (.bipush 59, 2) := by decide +kernel
theorem dX12_readLine_217 : decode cX12_readLine 217 = .ok (.invokevirtual 218, 3) := by decide +kernel
theorem dX12_takeSign_0 : decode cX12_takeSign 0 = .ok (.aload_n 0, 1) := by decide +kernel
theorem dX12_takeSign_1 : decode cX12_takeSign 1 = .ok (.iload_n 1, 1) := by decide +kernel
theorem dX12_takeSign_2 : decode cX12_takeSign 2 = .ok (.invokevirtual 165, 3) := by decide +kernel
theorem dX12_isSign_0 : decode cX12_isSign 0 = .ok (.aload_n 0, 1) := by decide +kernel
theorem dX12_isSign_1 : decode cX12_isSign 1 = .ok (.getfield 162, 3) := by decide +kernel
theorem dX12_isSign_4 : decode cX12_isSign 4 = .ok (.ifCond .ne 35, 3) := by decide +kernel
theorem dX12_isSign_7 : decode cX12_isSign 7 = .ok (.aload_n 0, 1) := by decide +kernel
theorem dX12_isSign_8 : decode cX12_isSign 8 = .ok (.getfield 24, 3) := by decide +kernel
theorem dX12_isSign_11 : decode cX12_isSign 11 = .ok (.aload_n 0, 1) := by decide +kernel
theorem dX12_isSign_12 : decode cX12_isSign 12 = .ok (.getfield 159, 3) := by decide +kernel
theorem dX12_isSign_15 : decode cX12_isSign 15 = .ok (.iaload, 1) := by decide +kernel
theorem dX12_isSign_16 : decode cX12_isSign 16 = .ok (.iconst 3, 1) := by decide +kernel
theorem dX12_isSign_17 : decode cX12_isSign 17 = .ok (.if_icmp .ne 22, 3) := by decide +kernel
theorem dX12_isSign_20 : decode cX12_isSign 20 = .ok (.aload_n 0, 1) := by decide +kernel
theorem dX12_isSign_21 : decode cX12_isSign 21 = .ok (.getfield 30, 3) := by decide +kernel
theorem dX12_isSign_24 : decode cX12_isSign 24 = .ok (.aload_n 0, 1) := by decide +kernel
theorem dX12_isSign_25 : decode cX12_isSign 25 = .ok (.getfield 159, 3) := by decide +kernel
theorem dX12_isSign_28 : decode cX12_isSign 28 = .ok (.laload, 1) := by decide +kernel
theorem dX12_isSign_29 : decode cX12_isSign 29 = .ok (.iload_n 1, 1) := by decide +kernel
theorem dX12_isSign_30 : decode cX12_isSign 30 = .ok (.i2l, 1) := by decide +kernel
theorem dX12_isSign_31 : decode cX12_isSign 31 = .ok (.lcmp, 1) := by decide +kernel
theorem dX12_isSign_32 : decode cX12_isSign 32 = .ok (.ifCond .ne 7, 3) := by decide +kernel
theorem dX12_isSign_35 : decode cX12_isSign 35 = .ok (.iconst 1, 1) := by decide +kernel
theorem dX12_isSign_36 : decode cX12_isSign 36 = .ok (.goto 4, 3) := by decide +kernel
theorem dX12_isSign_39 : decode cX12_isSign 39 = .ok (.iconst 0, 1) := by decide +kernel
theorem dX12_isSign_40 : decode cX12_isSign 40 = .ok (.ireturn, 1) := by decide +kernel
set_option maxHeartbeats 4000000 in
set_option maxRecDepth 100000 in
theorem s_X12_isSign {P : PP} {a0 : Nat} {a1 : Int32} (I : IM P a0) (hW : MW P a0) : CtrI yX12_isSign cX12_isSign 2 (some Jvm.ClassFile.FieldType.boolean) ({ frames := 1, cells := 0, slots := 0, locals := 64 } : Room) 0 0 P [.ref a0, .int a1] (fun r P2 => P = P2 ∧ (0 ≤ r.toInt ∧ r.toInt ≤ 1) ∧ (r.toInt = 0 ∨ ((pI P2 a0 8).toInt = 0 ∧ (pI P2 a0 7).toInt ≤ 999))) := by
  refine enI (lv := [(0, .ref a0), (1, .int a1)]) (by decide) (Nat.le_of_ble_eq_true rfl) rfl (fun E D cy C Ci0 ret => ?_)
  have ha0 := I.2.1
  have h26061 := I.rg ha0 7 rfl
  have h26062 := I.rg ha0 8 rfl
  refine g_aload_n C dX12_isSign_0 rfl 0 rfl ?_
  refine g_getI C fi_X12_162 (by decide) (ha0).1 (ha0).2 dX12_isSign_1 ?_
  refine b_if_ne C 39 dX12_isSign_4 (by decide) (fun h26063 => ?_) (fun h26063 => ?_)
  · have h26063 : (pI P a0 8).toInt ≠ 0 := ti_ne h26063
    refine g_iconst (v := 0) C dX12_isSign_39 (by decide) ?_
    exact ret _ _ _ _ _ _ dX12_isSign_40 rfl (by decide) (by decide) ⟨rfl, (by decide), Or.inl rfl⟩
  · have h26063 : (pI P a0 8).toInt = 0 := congrArg Int32.toInt h26063
    refine g_aload_n C dX12_isSign_7 rfl 0 rfl ?_
    obtain ⟨b26064, e26065, h26066⟩ := I.fld (ha0) 4 13 1002 rfl
    refine g_getR C fi_X12_24 rfl e26065 (ha0).1 (ha0).2 dX12_isSign_8 ?_
    refine g_aload_n C dX12_isSign_11 rfl 0 rfl ?_
    refine g_getI C fi_X12_159 (by decide) (ha0).1 (ha0).2 dX12_isSign_12 ?_
    refine g_iald (j := ((pI P a0 7).toInt.toNat)) C h26066.1 h26066.2.1 (ix_in h26066.2.2 (by omega)) dX12_isSign_15 ?_
    have h26067 := I.arr e26065 rfl ((pI P a0 7).toInt.toNat)
    refine g_iconst (v := 3) C dX12_isSign_16 (by decide) ?_
    have hs26068 := I.s1000 e26065 (j := (pI P a0 7).toInt) (by omega)
    refine b_icmp_ne C 39 dX12_isSign_17 (by decide) (fun h26069 => ?_) (fun h26069 => ?_)
    · have h26069 : (pI P b26064 ((pI P a0 7).toInt.toNat)).toInt ≠ 3 := ti_ne h26069
      refine g_iconst (v := 0) C dX12_isSign_39 (by decide) ?_
      exact ret _ _ _ _ _ _ dX12_isSign_40 rfl (by decide) (by decide) ⟨rfl, (by decide), Or.inl rfl⟩
    · have h26069 : (pI P b26064 ((pI P a0 7).toInt.toNat)).toInt = 3 := congrArg Int32.toInt h26069
      refine g_aload_n C dX12_isSign_20 rfl 0 rfl ?_
      obtain ⟨b26070, e26071, h26072⟩ := I.fld (ha0) 6 14 1002 rfl
      refine g_getR C fi_X12_30 rfl e26071 (ha0).1 (ha0).2 dX12_isSign_21 ?_
      refine g_aload_n C dX12_isSign_24 rfl 0 rfl ?_
      refine g_getI C fi_X12_159 (by decide) (ha0).1 (ha0).2 dX12_isSign_25 ?_
      refine g_lald (j := ((pI P a0 7).toInt.toNat)) C h26072.1 h26072.2.1 (ix_in h26072.2.2 (by omega)) dX12_isSign_28 ?_
      refine g_topl (fun l26073 _ => ?_)
      refine g_iload_n C dX12_isSign_29 rfl 1 rfl ?_
      refine a_i2l C dX12_isSign_30 (fun l26074 => ?_)
      refine a_lcmp C dX12_isSign_31 (fun z26075 => ?_)
      have u26077 := ti_rng z26075
      refine b_if_ne C 39 dX12_isSign_32 (by decide) (fun h26076 => ?_) (fun h26076 => ?_)
      · have h26076 : z26075.toInt ≠ 0 := ti_ne h26076
        refine g_iconst (v := 0) C dX12_isSign_39 (by decide) ?_
        exact ret _ _ _ _ _ _ dX12_isSign_40 rfl (by decide) (by decide) ⟨rfl, (by decide), Or.inl rfl⟩
      · have h26076 : z26075.toInt = 0 := congrArg Int32.toInt h26076
        refine g_iconst (v := 1) C dX12_isSign_35 (by decide) ?_
        refine g_goto C 40 dX12_isSign_36 (by decide) ?_
        exact ret _ _ _ _ _ _ dX12_isSign_40 rfl (by decide) (by decide) ⟨rfl, (by decide), Or.inr ⟨by omega, by omega⟩⟩
theorem dX12_takeSign_5 : decode cX12_takeSign 5 = .ok (.ifCond .eq 16, 3) := by decide +kernel
theorem dX12_takeSign_8 : decode cX12_takeSign 8 = .ok (.aload_n 0, 1) := by decide +kernel
theorem dX12_takeSign_9 : decode cX12_takeSign 9 = .ok (.dup, 1) := by decide +kernel
theorem dX12_takeSign_10 : decode cX12_takeSign 10 = .ok (.getfield 159, 3) := by decide +kernel
theorem dX12_takeSign_13 : decode cX12_takeSign 13 = .ok (.iconst 1, 1) := by decide +kernel
theorem dX12_takeSign_14 : decode cX12_takeSign 14 = .ok (.iadd, 1) := by decide +kernel
theorem dX12_takeSign_15 : decode cX12_takeSign 15 = .ok (.putfield 159, 3) := by decide +kernel
theorem dX12_takeSign_18 : decode cX12_takeSign 18 = .ok (.goto 8, 3) := by decide +kernel
theorem dX12_takeSign_21 : decode cX12_takeSign 21 = .ok (.aload_n 0, 1) := by decide +kernel
theorem dX12_takeSign_22 : decode cX12_takeSign 22 = .ok (.iconst 1, 1) := by decide +kernel
theorem dX12_takeSign_23 : decode cX12_takeSign 23 = .ok (.invokevirtual 168, 3) := by decide +kernel
theorem dX12_takeSign_26 : decode cX12_takeSign 26 = .ok (.return_, 1) := by decide +kernel
set_option maxHeartbeats 4000000 in
set_option maxRecDepth 100000 in
theorem s_X12_takeSign {P : PP} {a0 : Nat} {a1 : Int32} (I : IM P a0) (hW : MW P a0) : CtrV yX12_takeSign cX12_takeSign 2 none ({ frames := 2, cells := 0, slots := 0, locals := 128 } : Room) 0 0 P [.ref a0, .int a1] (fun P2 => IM P2 a0 ∧ EM [7, 8] a0 P P2 ∧ MW P2 a0 ∧ ((pI P a0 7).toInt ≤ (pI P2 a0 7).toInt) ∧ ((pI P a0 8).toInt ≤ (pI P2 a0 8).toInt)) := by
  refine enV (lv := [(0, .ref a0), (1, .int a1)]) (by decide) (Nat.le_of_ble_eq_true rfl) rfl (fun E D cy C Ci0 ret => ?_)
  have ha0 := I.2.1
  have h26107 := I.rg ha0 7 rfl
  have h26108 := I.rg ha0 8 rfl
  refine g_aload_n C dX12_takeSign_0 rfl 0 rfl ?_
  refine g_iload_n C dX12_takeSign_1 rfl 1 rfl ?_
  refine g_callVI (rest := []) C mv_X12_165 [.int a1] (s_X12_isSign I hW) (ha0).1 (ha0).2 rfl rfl (by decide) (Nat.le_of_ble_eq_true rfl) (by decide) dX12_takeSign_2 (fun r26109 Y26110 h26111 => ?_)
  obtain ⟨rfl, h26111⟩ := h26111
  obtain ⟨h26111, hi26112⟩ := h26111
  have hi26112 : r26109.toInt = 0 ∨ ((pI P a0 8).toInt = 0 ∧ (pI P a0 7).toInt ≤ 999) := hi26112
  have h26111 : 0 ≤ r26109.toInt ∧ r26109.toInt ≤ 1 := h26111
  refine b_if_eq C 21 dX12_takeSign_5 (by decide) (fun h26113 => ?_) (fun h26113 => ?_)
  · have h26113 : r26109.toInt = 0 := congrArg Int32.toInt h26113
    refine g_aload_n C dX12_takeSign_21 rfl 0 rfl ?_
    refine g_iconst (v := 1) C dX12_takeSign_22 (by decide) ?_
    refine g_callVV (rest := []) C mv_X12_168 [.int 1] (s_X12_wrong I (by decide) hW) (ha0).1 (ha0).2 rfl rfl (by decide) (Nat.le_of_ble_eq_true rfl) (by decide) dX12_takeSign_23 (fun Y26115 h26116 => ?_)
    obtain ⟨Iy26117, Xy26118, W26119, p26120, p26121⟩ := h26116
    have p26120 : 1 ≤ (pI Y26115 a0 8).toInt := p26120
    have p26121 : (pI P a0 8).toInt ≤ (pI Y26115 a0 8).toInt := p26121
    have q26122 := Xy26118.keepF 7 (by decide)
    have Xz26123 : EM [7, 8] a0 P Y26115 := Xy26118.mono (by decide)
    have h26124 := Xy26118.at ha0
    have h26125 := Iy26117.rg h26124 8 rfl
    exact ret _ _ _ _ _ dX12_takeSign_26 (by decide) (by decide) ⟨Iy26117, Xz26123, W26119, (by show (pI P a0 7).toInt ≤ (pI Y26115 a0 7).toInt; omega), (by show (pI P a0 8).toInt ≤ (pI Y26115 a0 8).toInt; omega)⟩
  · have h26113 : r26109.toInt ≠ 0 := ti_ne h26113
    refine g_aload_n C dX12_takeSign_8 rfl 0 rfl ?_
    refine g_dup C dX12_takeSign_9 rfl ?_
    refine g_getI C fi_X12_159 (by decide) (ha0).1 (ha0).2 dX12_takeSign_10 ?_
    refine g_iconst (v := 1) C dX12_takeSign_13 (by decide) ?_
    refine s_iadd C dX12_takeSign_14 (by show -2147483648 ≤ (pI P a0 7).toInt + 1 ∧ (pI P a0 7).toInt + 1 ≤ 2147483647; omega) (fun z26126 h26127 => ?_)
    have h26127 : z26126.toInt = (pI P a0 7).toInt + 1 := h26127
    refine g_putI C fi_X12_159 rfl (ha0).1 (ha0).2 dX12_takeSign_15 ?_
    refine gqW (ks := [7]) (I.setI (rgOk.of rfl (by omega))) (EM.setI I (by decide)) (fun Y26128 Iy26129 Xy26130 w26131  => ?_)
    have w26131 : (pI Y26128 a0 7).toInt = z26126.toInt := w26131
    have q26132 := Xy26130.keepF 8 (by decide)
    have W26133 := hW.keep I Xy26130 (by decide) (by decide) (by decide)
    have Xz26134 : EM [7, 8] a0 P Y26128 := Xy26130.mono (by decide)
    have h26135 := Xy26130.at ha0
    refine g_goto C 26 dX12_takeSign_18 (by decide) ?_
    exact ret _ _ _ _ _ dX12_takeSign_26 (by decide) (by decide) ⟨Iy26129, Xz26134, W26133, (by show (pI P a0 7).toInt ≤ (pI Y26128 a0 7).toInt; omega), (by show (pI P a0 8).toInt ≤ (pI Y26128 a0 8).toInt; omega)⟩
theorem dX12_readLine_220 : decode cX12_readLine 220 = .ok (.return_, 1) := by decide +kernel
set_option maxHeartbeats 4000000 in
set_option maxRecDepth 100000 in
theorem s_X12_readLine {P : PP} {a0 : Nat} (I : IM P a0) (hf0 : ∀ b, pR P a0 14 = some b → 1 ≤ (pI P b 2).toInt ∧ (pI P b 2).toInt ≤ 9) (hW : MW P a0) : CtrV yX12_readLine cX12_readLine 2 none ({ frames := 4, cells := 0, slots := 0, locals := 256 } : Room) 0 0 P [.ref a0] (fun P2 => IM P2 a0 ∧ EM [7, 8, 12, 13, 14, 15, 16, 17] a0 P P2 ∧ MW P2 a0 ∧ (1 ≤ (pI P2 a0 8).toInt ∨ (pI P a0 7).toInt < (pI P2 a0 7).toInt) ∧ ((pI P a0 7).toInt ≤ (pI P2 a0 7).toInt) ∧ ((pI P a0 8).toInt ≤ (pI P2 a0 8).toInt) ∧ (∀ b, pR P2 a0 14 = some b → 1 ≤ (pI P2 a0 8).toInt ∨ 1 ≤ (pI P2 b 2).toInt)) := by
  refine enV (lv := [(0, .ref a0)]) (by decide) (Nat.le_of_ble_eq_true rfl) rfl (fun E D cy C Ci0 ret => ?_)
  have ha0 := I.2.1
  have J214 : ∀ (P214 : PP), (IM P214 a0) → (EM [7, 8, 12, 13, 14, 15, 16, 17] a0 P P214) → (MW P214 a0) → (∀ b, pR P214 a0 14 = some b → 0 ≤ (pI P214 b 2).toInt ∧ (pI P214 b 2).toInt ≤ 999) → (1 ≤ (pI P214 a0 8).toInt ∨ (pI P a0 7).toInt < (pI P214 a0 7).toInt) → ((pI P a0 8).toInt ≤ (pI P214 a0 8).toInt) → ((pI P a0 7).toInt ≤ (pI P214 a0 7).toInt) → (∀ b914, pR P214 a0 14 = some b914 → 1 ≤ (pI P214 a0 8).toInt ∨ 1 ≤ (pI P214 b914 2).toInt) → G E ({ frames := 4, cells := 0, slots := 0, locals := 256 } : Room) D cy 2 P214 0 0 214 [(0, .ref a0)] [] := by
    intro P214 I214 X214 W214 hq214_0 rel214_0 rel214_1 rel214_2 rel214_3
    have h26681 := X214.at ha0
    obtain ⟨b26682, e26683, h26684⟩ := I214.fld (h26681) 14 13 3 rfl
    have hq214_0 := hq214_0 b26682 e26683
    have h26685 := I214.rg h26681 8 rfl
    have h26686 := I214.rg h26681 7 rfl
    have rel214_3 := rel214_3 b26682 e26683
    have h26687 := I214.arr e26683 rfl 2
    refine g_aload_n C dX12_readLine_214 rfl 0 rfl ?_
    refine g_bipush (v := 59) C dX12_readLine_215 (by decide) ?_
    refine g_callVV (rest := []) C mv_X12_218 [.int 59] (s_X12_takeSign I214 W214) (h26681).1 (h26681).2 rfl rfl (by decide) (Nat.le_of_ble_eq_true rfl) (by decide) dX12_readLine_217 (fun Y26689 h26690 => ?_)
    obtain ⟨Iy26691, Xy26692, W26693, p26694, p26695⟩ := h26690
    have p26694 : (pI P214 a0 7).toInt ≤ (pI Y26689 a0 7).toInt := p26694
    have p26695 : (pI P214 a0 8).toInt ≤ (pI Y26689 a0 8).toInt := p26695
    have q26696 := Xy26692.keepA e26683 (by decide) rfl 2
    have Xz26697 : EM [7, 8, 12, 13, 14, 15, 16, 17] a0 P Y26689 := EM.tr ha0 X214 (Xy26692.mono (by decide))
    have e26698 := Xy26692.ref h26681 (by decide) e26683
    have h26699 := Xy26692.at h26681
    have h26700 := Xy26692.ar h26684
    have h26701 := Iy26691.rg h26699 7 rfl
    have h26702 := Iy26691.rg h26699 8 rfl
    have h26703 := Iy26691.rg h26699 7 rfl
    have h26704 := Iy26691.rg h26699 8 rfl
    exact ret _ _ _ _ _ dX12_readLine_220 (by decide) (by decide) ⟨Iy26691, Xz26697, W26693, (by show 1 ≤ (pI Y26689 a0 8).toInt ∨ (pI P a0 7).toInt < (pI Y26689 a0 7).toInt; omega), (by show (pI P a0 7).toInt ≤ (pI Y26689 a0 7).toInt; omega), (by show (pI P a0 8).toInt ≤ (pI Y26689 a0 8).toInt; omega), (fun b9 e9 => by rw [e26698] at e9; cases e9; omega)⟩
  have J115 : ∀ (P115 : PP), (IM P115 a0) → (EM [7, 8, 12, 13, 14, 15, 16, 17] a0 P P115) → (MW P115 a0) → (∀ b, pR P115 a0 14 = some b → 1 ≤ (pI P115 b 2).toInt ∧ (pI P115 b 2).toInt ≤ 9) → ((pI P a0 8).toInt ≤ (pI P115 a0 8).toInt) → ((pI P115 a0 7).toInt = (pI P a0 7).toInt) → (1 ≤ (pI P115 a0 8).toInt ∨ (pI P115 a0 7).toInt ≤ 999) → (∀ b915 b94 b96 b99, pR P115 a0 15 = some b915 → pR P115 a0 4 = some b94 → pR P115 a0 6 = some b96 → pR P115 a0 9 = some b99 → 1 ≤ (pI P115 a0 8).toInt ∨ iwA P115 a0 b94 b96 b99 2 = 0 ∨ (pI P115 b915 2).toInt ≤ 3) → G E ({ frames := 4, cells := 0, slots := 0, locals := 256 } : Room) D cy 2 P115 0 0 115 [(0, .ref a0)] [] := by
    intro P115 I115 X115 W115 hq115_0 rel115_0 rel115_1 rel115_2 rel115_3
    have h26705 := X115.at ha0
    obtain ⟨b26706, e26707, h26708⟩ := I115.fld (h26705) 14 13 3 rfl
    have hq115_0 := hq115_0 b26706 e26707
    have h26709 := I115.rg h26705 8 rfl
    have h26710 := I115.rg h26705 7 rfl
    obtain ⟨b26711, e26712, h26713⟩ := I115.fld (h26705) 15 13 3 rfl
    obtain ⟨b26714, e26715, h26716⟩ := I115.fld (h26705) 4 13 1002 rfl
    obtain ⟨b26717, e26718, h26719⟩ := I115.fld (h26705) 6 14 1002 rfl
    obtain ⟨b26720, e26721, h26722⟩ := I115.fld (h26705) 9 14 4 rfl
    have rel115_3 := rel115_3 b26711 b26714 b26717 b26720 e26712 e26715 e26718 e26721
    have h26723 := I115.arr e26712 rfl 2
    refine g_aload_n C dX12_readLine_115 rfl 0 rfl ?_
    refine g_getI C fi_X12_162 (by decide) (h26705).1 (h26705).2 dX12_readLine_116 ?_
    refine b_if_le C 123 dX12_readLine_119 (by decide) (fun h26724 => ?_) (fun h26724 => ?_)
    · have h26724 : (pI P115 a0 8).toInt ≤ 0 := h26724
      refine g_aload_n C dX12_readLine_123 rfl 0 rfl ?_
      refine g_iconst (v := 0) C dX12_readLine_124 (by decide) ?_
      refine g_callVI (rest := []) C mv_X12_175 [.int 0] (s_X12_hasWord I115 (by decide) W115) (h26705).1 (h26705).2 rfl rfl (by decide) (Nat.le_of_ble_eq_true rfl) (by decide) dX12_readLine_125 (fun r26725 Y26726 h26727 => ?_)
      obtain ⟨Iy26728, Xy26729, W26730, h26727⟩ := h26727
      have q26731 := Xy26729.keepA e26707 (by decide) rfl 2
      have q26732 := Xy26729.keepF 8 (by decide)
      have q26733 := Xy26729.keepA e26712 (by decide) rfl 2
      have Xz26734 : EM [7, 8, 12, 13, 14, 15, 16, 17] a0 P Y26726 := EM.tr ha0 X115 (Xy26729.mono (by decide))
      have e26735 := Xy26729.ref h26705 (by decide) e26707
      have e26736 := Xy26729.ref h26705 (by decide) e26712
      have e26737 := Xy26729.ref h26705 (by decide) e26715
      have e26738 := Xy26729.ref h26705 (by decide) e26718
      have e26739 := Xy26729.ref h26705 (by decide) e26721
      have h26740 := Xy26729.at h26705
      have h26741 := Xy26729.ar h26708
      have h26742 := Xy26729.ar h26713
      have h26743 := Xy26729.ar h26716
      have h26744 := Xy26729.ar h26719
      have h26745 := Xy26729.ar h26722
      obtain ⟨h26727, hi26746⟩ := h26727
      obtain ⟨hi26746, hw26747⟩ := hi26746
      have hi26746 : (r26725.toInt = 0 ∨ ((pI P115 a0 8).toInt = 0 ∧ (pI P115 a0 7).toInt ≤ 999)) ∧ (pI Y26726 a0 7).toInt = (pI P115 a0 7).toInt + r26725.toInt := hi26746
      have h26748 := Iy26728.rg h26740 7 rfl
      obtain ⟨hA26749, hB26750⟩ := hw26747 b26714 b26717 b26720 e26715 e26718 e26721
      have hA26749 : r26725.toInt = iwA P115 a0 b26714 b26717 b26720 0 := hA26749
      have hB26750 : r26725.toInt = 0 → iwA Y26726 a0 b26714 b26717 b26720 2 = iwA P115 a0 b26714 b26717 b26720 2 := fun h9 => hB26750 h9 2
      have h26727 : 0 ≤ r26725.toInt ∧ r26725.toInt ≤ 1 := h26727
      refine b_if_eq C 138 dX12_readLine_128 (by decide) (fun h26751 => ?_) (fun h26751 => ?_)
      · have h26751 : r26725.toInt = 0 := congrArg Int32.toInt h26751
        have hk26752 := hB26750 (by omega)
        refine g_aload_n C dX12_readLine_138 rfl 0 rfl ?_
        refine g_iconst (v := 1) C dX12_readLine_139 (by decide) ?_
        refine g_callVI (rest := []) C mv_X12_175 [.int 1] (s_X12_hasWord Iy26728 (by decide) W26730) (h26740).1 (h26740).2 rfl rfl (by decide) (Nat.le_of_ble_eq_true rfl) (by decide) dX12_readLine_140 (fun r26753 Y26754 h26755 => ?_)
        obtain ⟨Iy26756, Xy26757, W26758, h26755⟩ := h26755
        have q26759 := Xy26757.keepA e26735 (by decide) rfl 2
        have q26760 := Xy26757.keepF 8 (by decide)
        have q26761 := Xy26757.keepA e26736 (by decide) rfl 2
        have Xz26762 : EM [7, 8, 12, 13, 14, 15, 16, 17] a0 P Y26754 := EM.tr ha0 Xz26734 (Xy26757.mono (by decide))
        have e26763 := Xy26757.ref h26740 (by decide) e26735
        have e26764 := Xy26757.ref h26740 (by decide) e26736
        have e26765 := Xy26757.ref h26740 (by decide) e26737
        have e26766 := Xy26757.ref h26740 (by decide) e26738
        have e26767 := Xy26757.ref h26740 (by decide) e26739
        have h26768 := Xy26757.at h26740
        have h26769 := Xy26757.ar h26741
        have h26770 := Xy26757.ar h26742
        have h26771 := Xy26757.ar h26743
        have h26772 := Xy26757.ar h26744
        have h26773 := Xy26757.ar h26745
        obtain ⟨h26755, hi26774⟩ := h26755
        obtain ⟨hi26774, hw26775⟩ := hi26774
        have hi26774 : (r26753.toInt = 0 ∨ ((pI Y26726 a0 8).toInt = 0 ∧ (pI Y26726 a0 7).toInt ≤ 999)) ∧ (pI Y26754 a0 7).toInt = (pI Y26726 a0 7).toInt + r26753.toInt := hi26774
        have h26776 := Iy26756.rg h26768 7 rfl
        obtain ⟨hA26777, hB26778⟩ := hw26775 b26714 b26717 b26720 e26737 e26738 e26739
        have hA26777 : r26753.toInt = iwA Y26726 a0 b26714 b26717 b26720 1 := hA26777
        have hB26778 : r26753.toInt = 0 → iwA Y26754 a0 b26714 b26717 b26720 2 = iwA Y26726 a0 b26714 b26717 b26720 2 := fun h9 => hB26778 h9 2
        have h26755 : 0 ≤ r26753.toInt ∧ r26753.toInt ≤ 1 := h26755
        refine b_if_eq C 175 dX12_readLine_143 (by decide) (fun h26779 => ?_) (fun h26779 => ?_)
        · have h26779 : r26753.toInt = 0 := congrArg Int32.toInt h26779
          have hk26780 := hB26778 (by omega)
          refine g_aload_n C dX12_readLine_175 rfl 0 rfl ?_
          refine g_iconst (v := 2) C dX12_readLine_176 (by decide) ?_
          refine g_callVI (rest := []) C mv_X12_175 [.int 2] (s_X12_hasWord Iy26756 (by decide) W26758) (h26768).1 (h26768).2 rfl rfl (by decide) (Nat.le_of_ble_eq_true rfl) (by decide) dX12_readLine_177 (fun r26781 Y26782 h26783 => ?_)
          obtain ⟨Iy26784, Xy26785, W26786, h26783⟩ := h26783
          have q26787 := Xy26785.keepA e26763 (by decide) rfl 2
          have q26788 := Xy26785.keepF 8 (by decide)
          have q26789 := Xy26785.keepA e26764 (by decide) rfl 2
          have Xz26790 : EM [7, 8, 12, 13, 14, 15, 16, 17] a0 P Y26782 := EM.tr ha0 Xz26762 (Xy26785.mono (by decide))
          have e26791 := Xy26785.ref h26768 (by decide) e26763
          have e26792 := Xy26785.ref h26768 (by decide) e26764
          have e26793 := Xy26785.ref h26768 (by decide) e26765
          have e26794 := Xy26785.ref h26768 (by decide) e26766
          have e26795 := Xy26785.ref h26768 (by decide) e26767
          have h26796 := Xy26785.at h26768
          have h26797 := Xy26785.ar h26769
          have h26798 := Xy26785.ar h26770
          have h26799 := Xy26785.ar h26771
          have h26800 := Xy26785.ar h26772
          have h26801 := Xy26785.ar h26773
          obtain ⟨h26783, hi26802⟩ := h26783
          obtain ⟨hi26802, hw26803⟩ := hi26802
          have hi26802 : (r26781.toInt = 0 ∨ ((pI Y26754 a0 8).toInt = 0 ∧ (pI Y26754 a0 7).toInt ≤ 999)) ∧ (pI Y26782 a0 7).toInt = (pI Y26754 a0 7).toInt + r26781.toInt := hi26802
          have h26804 := Iy26784.rg h26796 7 rfl
          obtain ⟨hA26805, hB26806⟩ := hw26803 b26714 b26717 b26720 e26765 e26766 e26767
          have hA26805 : r26781.toInt = iwA Y26754 a0 b26714 b26717 b26720 2 := hA26805
          have hB26806 : r26781.toInt = 0 → iwA Y26782 a0 b26714 b26717 b26720 2 = iwA Y26754 a0 b26714 b26717 b26720 2 := fun h9 => hB26806 h9 2
          have h26783 : 0 ≤ r26781.toInt ∧ r26781.toInt ≤ 1 := h26783
          refine b_if_eq C 190 dX12_readLine_180 (by decide) (fun h26807 => ?_) (fun h26807 => ?_)
          · have h26807 : r26781.toInt = 0 := congrArg Int32.toInt h26807
            have hk26808 := hB26806 (by omega)
            refine g_aload_n C dX12_readLine_190 rfl 0 rfl ?_
            refine g_dup C dX12_readLine_191 rfl ?_
            refine g_getI C fi_X12_159 (by decide) (h26796).1 (h26796).2 dX12_readLine_192 ?_
            refine g_iconst (v := 1) C dX12_readLine_195 (by decide) ?_
            refine s_iadd C dX12_readLine_196 (by show -2147483648 ≤ (pI Y26782 a0 7).toInt + 1 ∧ (pI Y26782 a0 7).toInt + 1 ≤ 2147483647; omega) (fun z26809 h26810 => ?_)
            have h26810 : z26809.toInt = (pI Y26782 a0 7).toInt + 1 := h26810
            refine g_putI C fi_X12_159 rfl (h26796).1 (h26796).2 dX12_readLine_197 ?_
            refine gqW (ks := [7]) (Iy26784.setI (rgOk.of rfl (by omega))) (EM.setI Iy26784 (by decide)) (fun Y26811 Iy26812 Xy26813 w26814  => ?_)
            have w26814 : (pI Y26811 a0 7).toInt = z26809.toInt := w26814
            have q26815 := Xy26813.keepA e26791 (by decide) rfl 2
            have q26816 := Xy26813.keepF 8 (by decide)
            have q26817 := Xy26813.keepA e26792 (by decide) rfl 2
            have W26818 := W26786.keep Iy26784 Xy26813 (by decide) (by decide) (by decide)
            have Xz26819 : EM [7, 8, 12, 13, 14, 15, 16, 17] a0 P Y26811 := EM.tr ha0 Xz26790 (Xy26813.mono (by decide))
            have e26820 := Xy26813.ref h26796 (by decide) e26791
            have e26821 := Xy26813.ref h26796 (by decide) e26792
            have e26822 := Xy26813.ref h26796 (by decide) e26793
            have e26823 := Xy26813.ref h26796 (by decide) e26794
            have e26824 := Xy26813.ref h26796 (by decide) e26795
            have h26825 := Xy26813.at h26796
            have h26826 := Xy26813.ar h26797
            have h26827 := Xy26813.ar h26798
            have h26828 := Xy26813.ar h26799
            have h26829 := Xy26813.ar h26800
            have h26830 := Xy26813.ar h26801
            refine g_aload_n C dX12_readLine_200 rfl 0 rfl ?_
            obtain ⟨b26831, e26832, h26833⟩ := Iy26812.fld (h26825) 17 13 3 rfl
            refine g_getR C fi_X12_66 rfl e26832 (h26825).1 (h26825).2 dX12_readLine_201 ?_
            refine g_iconst (v := 2) C dX12_readLine_204 (by decide) ?_
            refine g_aload_n C dX12_readLine_205 rfl 0 rfl ?_
            refine g_iconst (v := 1) C dX12_readLine_206 (by decide) ?_
            refine g_sipush (v := 996) C dX12_readLine_207 (by decide) ?_
            refine g_callVI (rest := [.int 2, .ref b26831]) C mv_X12_211 [.int 1, .int 996] (s_X12_takeNumber Iy26812 (by decide) (by decide) W26818) (h26825).1 (h26825).2 rfl rfl (by decide) (Nat.le_of_ble_eq_true rfl) (by decide) dX12_readLine_210 (fun r26834 Y26835 h26836 => ?_)
            obtain ⟨Iy26837, Xy26838, W26839, p26840, p26841, p26842, h26836⟩ := h26836
            have p26840 : (pI Y26811 a0 7).toInt ≤ (pI Y26835 a0 7).toInt := p26840
            have p26841 : (pI Y26811 a0 8).toInt ≤ (pI Y26835 a0 8).toInt := p26841
            have p26842 : 1 ≤ (pI Y26835 a0 8).toInt ∨ (pI Y26835 a0 7).toInt = (pI Y26811 a0 7).toInt + 1 := p26842
            have q26843 := Xy26838.keepA e26820 (by decide) rfl 2
            have q26844 := Xy26838.keepA e26821 (by decide) rfl 2
            have Xz26845 : EM [7, 8, 12, 13, 14, 15, 16, 17] a0 P Y26835 := EM.tr ha0 Xz26819 (Xy26838.mono (by decide))
            have e26846 := Xy26838.ref h26825 (by decide) e26820
            have e26847 := Xy26838.ref h26825 (by decide) e26821
            have e26848 := Xy26838.ref h26825 (by decide) e26822
            have e26849 := Xy26838.ref h26825 (by decide) e26823
            have e26850 := Xy26838.ref h26825 (by decide) e26824
            have e26851 := Xy26838.ref h26825 (by decide) e26832
            have h26852 := Xy26838.at h26825
            have h26853 := Xy26838.ar h26826
            have h26854 := Xy26838.ar h26827
            have h26855 := Xy26838.ar h26828
            have h26856 := Xy26838.ar h26829
            have h26857 := Xy26838.ar h26830
            have h26858 := Xy26838.ar h26833
            have h26859 := Iy26837.rg h26852 7 rfl
            have h26860 := Iy26837.rg h26852 8 rfl
            have h26861 := Iy26837.rg h26852 7 rfl
            have h26862 := Iy26837.rg h26852 8 rfl
            obtain ⟨h26836, hi26863⟩ := h26836
            have hi26863 : (1 ≤ (pI Y26835 a0 8).toInt ∧ r26834.toInt = 0) ∨ (1 ≤ r26834.toInt ∧ r26834.toInt ≤ 996) := hi26863
            have h26836 : 0 ≤ r26834.toInt ∧ r26834.toInt ≤ 999 := h26836
            refine g_iast (j := 2) C h26858.1 h26858.2.1 (IX.litn (j := 2) h26858.2.2 rfl (by decide) (by decide)) dX12_readLine_213 ?_
            refine gqW (ks := [17]) (Iy26837.setA e26851 h26858 (by decide) (arOk.none rfl)) (EM.setA Iy26837 e26851 rfl (by decide)) (fun Y26864 Iy26865 Xy26866 w26867  => ?_)
            have w26867 : (pI Y26864 b26831 2).toInt = r26834.toInt := w26867
            have q26868 := Xy26866.keepA e26846 (by decide) rfl 2
            have q26869 := Xy26866.keepA e26847 (by decide) rfl 2
            have q26870 := Xy26866.keepF 7 (by decide)
            have q26871 := Xy26866.keepF 8 (by decide)
            have W26872 := W26839.keep Iy26837 Xy26866 (by decide) (by decide) (by decide)
            have Xz26873 : EM [7, 8, 12, 13, 14, 15, 16, 17] a0 P Y26864 := EM.tr ha0 Xz26845 (Xy26866.mono (by decide))
            have e26874 := Xy26866.ref h26852 (by decide) e26846
            have e26875 := Xy26866.ref h26852 (by decide) e26847
            have e26876 := Xy26866.ref h26852 (by decide) e26848
            have e26877 := Xy26866.ref h26852 (by decide) e26849
            have e26878 := Xy26866.ref h26852 (by decide) e26850
            have e26879 := Xy26866.ref h26852 (by decide) e26851
            have h26880 := Xy26866.at h26852
            have h26881 := Xy26866.ar h26853
            have h26882 := Xy26866.ar h26854
            have h26883 := Xy26866.ar h26855
            have h26884 := Xy26866.ar h26856
            have h26885 := Xy26866.ar h26857
            have h26886 := Xy26866.ar h26858
            exact J214 Y26864 Iy26865 Xz26873 W26872 (fun b9 e9 => by rw [e26874] at e9; cases e9; omega) (by show 1 ≤ (pI Y26864 a0 8).toInt ∨ (pI P a0 7).toInt < (pI Y26864 a0 7).toInt; omega) (by show (pI P a0 8).toInt ≤ (pI Y26864 a0 8).toInt; omega) (by show (pI P a0 7).toInt ≤ (pI Y26864 a0 7).toInt; omega) (by intro b914 e914; rw [e26874] at e914; cases e914; show 1 ≤ (pI Y26864 a0 8).toInt ∨ 1 ≤ (pI Y26864 b26706 2).toInt; omega)
          · have h26807 : r26781.toInt ≠ 0 := ti_ne h26807
            refine g_aload_n C dX12_readLine_183 rfl 0 rfl ?_
            refine g_callVV (rest := []) C mv_X12_215 [] (s_X12_readSum Iy26784 (fun b9 e9 => by rw [e26792] at e9; cases e9; show 0 ≤ (pI Y26782 b26711 2).toInt ∧ (pI Y26782 b26711 2).toInt ≤ 3; omega) W26786) (h26796).1 (h26796).2 rfl rfl (by decide) (Nat.le_of_ble_eq_true rfl) (by decide) dX12_readLine_184 (fun Y26888 h26889 => ?_)
            obtain ⟨Iy26890, Xy26891, W26892, p26893, p26894⟩ := h26889
            have p26893 : (pI Y26782 a0 7).toInt ≤ (pI Y26888 a0 7).toInt := p26893
            have p26894 : (pI Y26782 a0 8).toInt ≤ (pI Y26888 a0 8).toInt := p26894
            have q26895 := Xy26891.keepA e26791 (by decide) rfl 2
            have Xz26896 : EM [7, 8, 12, 13, 14, 15, 16, 17] a0 P Y26888 := EM.tr ha0 Xz26790 (Xy26891.mono (by decide))
            have e26897 := Xy26891.ref h26796 (by decide) e26791
            have e26898 := Xy26891.ref h26796 (by decide) e26793
            have e26899 := Xy26891.ref h26796 (by decide) e26794
            have e26900 := Xy26891.ref h26796 (by decide) e26795
            have h26901 := Xy26891.at h26796
            have h26902 := Xy26891.ar h26797
            have h26903 := Xy26891.ar h26799
            have h26904 := Xy26891.ar h26800
            have h26905 := Xy26891.ar h26801
            have h26906 := Iy26890.rg h26901 7 rfl
            have h26907 := Iy26890.rg h26901 8 rfl
            have h26908 := Iy26890.rg h26901 7 rfl
            have h26909 := Iy26890.rg h26901 8 rfl
            refine g_goto C 214 dX12_readLine_187 (by decide) ?_
            exact J214 Y26888 Iy26890 Xz26896 W26892 (fun b9 e9 => by rw [e26897] at e9; cases e9; omega) (by show 1 ≤ (pI Y26888 a0 8).toInt ∨ (pI P a0 7).toInt < (pI Y26888 a0 7).toInt; omega) (by show (pI P a0 8).toInt ≤ (pI Y26888 a0 8).toInt; omega) (by show (pI P a0 7).toInt ≤ (pI Y26888 a0 7).toInt; omega) (by intro b914 e914; rw [e26897] at e914; cases e914; show 1 ≤ (pI Y26888 a0 8).toInt ∨ 1 ≤ (pI Y26888 b26706 2).toInt; omega)
        · have h26779 : r26753.toInt ≠ 0 := ti_ne h26779
          refine g_aload_n C dX12_readLine_146 rfl 0 rfl ?_
          obtain ⟨b26910, e26911, h26912⟩ := Iy26756.fld (h26768) 13 13 3 rfl
          refine g_getR C fi_X12_54 rfl e26911 (h26768).1 (h26768).2 dX12_readLine_147 ?_
          refine g_iconst (v := 2) C dX12_readLine_150 (by decide) ?_
          refine g_aload_n C dX12_readLine_151 rfl 0 rfl ?_
          refine g_iconst (v := 1) C dX12_readLine_152 (by decide) ?_
          refine g_bipush (v := 16) C dX12_readLine_153 (by decide) ?_
          refine g_callVI (rest := [.int 2, .ref b26910]) C mv_X12_211 [.int 1, .int 16] (s_X12_takeNumber Iy26756 (by decide) (by decide) W26758) (h26768).1 (h26768).2 rfl rfl (by decide) (Nat.le_of_ble_eq_true rfl) (by decide) dX12_readLine_155 (fun r26913 Y26914 h26915 => ?_)
          obtain ⟨Iy26916, Xy26917, W26918, p26919, p26920, p26921, h26915⟩ := h26915
          have p26919 : (pI Y26754 a0 7).toInt ≤ (pI Y26914 a0 7).toInt := p26919
          have p26920 : (pI Y26754 a0 8).toInt ≤ (pI Y26914 a0 8).toInt := p26920
          have p26921 : 1 ≤ (pI Y26914 a0 8).toInt ∨ (pI Y26914 a0 7).toInt = (pI Y26754 a0 7).toInt + 1 := p26921
          have q26922 := Xy26917.keepA e26763 (by decide) rfl 2
          have q26923 := Xy26917.keepA e26764 (by decide) rfl 2
          have Xz26924 : EM [7, 8, 12, 13, 14, 15, 16, 17] a0 P Y26914 := EM.tr ha0 Xz26762 (Xy26917.mono (by decide))
          have e26925 := Xy26917.ref h26768 (by decide) e26763
          have e26926 := Xy26917.ref h26768 (by decide) e26764
          have e26927 := Xy26917.ref h26768 (by decide) e26765
          have e26928 := Xy26917.ref h26768 (by decide) e26766
          have e26929 := Xy26917.ref h26768 (by decide) e26767
          have e26930 := Xy26917.ref h26768 (by decide) e26911
          have h26931 := Xy26917.at h26768
          have h26932 := Xy26917.ar h26769
          have h26933 := Xy26917.ar h26770
          have h26934 := Xy26917.ar h26771
          have h26935 := Xy26917.ar h26772
          have h26936 := Xy26917.ar h26773
          have h26937 := Xy26917.ar h26912
          have h26938 := Iy26916.rg h26931 7 rfl
          have h26939 := Iy26916.rg h26931 8 rfl
          have h26940 := Iy26916.rg h26931 7 rfl
          have h26941 := Iy26916.rg h26931 8 rfl
          obtain ⟨h26915, hi26942⟩ := h26915
          have hi26942 : (1 ≤ (pI Y26914 a0 8).toInt ∧ r26913.toInt = 0) ∨ (1 ≤ r26913.toInt ∧ r26913.toInt ≤ 16) := hi26942
          have h26915 : 0 ≤ r26913.toInt ∧ r26913.toInt ≤ 999 := h26915
          refine g_iast (j := 2) C h26937.1 h26937.2.1 (IX.litn (j := 2) h26937.2.2 rfl (by decide) (by decide)) dX12_readLine_158 ?_
          refine gqW (ks := [13]) (Iy26916.setA e26930 h26937 (by decide) (arOk.none rfl)) (EM.setA Iy26916 e26930 rfl (by decide)) (fun Y26943 Iy26944 Xy26945 w26946  => ?_)
          have w26946 : (pI Y26943 b26910 2).toInt = r26913.toInt := w26946
          have q26947 := Xy26945.keepA e26925 (by decide) rfl 2
          have q26948 := Xy26945.keepA e26926 (by decide) rfl 2
          have q26949 := Xy26945.keepF 7 (by decide)
          have q26950 := Xy26945.keepF 8 (by decide)
          have W26951 := W26918.keep Iy26916 Xy26945 (by decide) (by decide) (by decide)
          have Xz26952 : EM [7, 8, 12, 13, 14, 15, 16, 17] a0 P Y26943 := EM.tr ha0 Xz26924 (Xy26945.mono (by decide))
          have e26953 := Xy26945.ref h26931 (by decide) e26925
          have e26954 := Xy26945.ref h26931 (by decide) e26926
          have e26955 := Xy26945.ref h26931 (by decide) e26927
          have e26956 := Xy26945.ref h26931 (by decide) e26928
          have e26957 := Xy26945.ref h26931 (by decide) e26929
          have e26958 := Xy26945.ref h26931 (by decide) e26930
          have h26959 := Xy26945.at h26931
          have h26960 := Xy26945.ar h26932
          have h26961 := Xy26945.ar h26933
          have h26962 := Xy26945.ar h26934
          have h26963 := Xy26945.ar h26935
          have h26964 := Xy26945.ar h26936
          have h26965 := Xy26945.ar h26937
          refine g_aload_n C dX12_readLine_159 rfl 0 rfl ?_
          refine g_getR C fi_X12_57 rfl e26953 (h26959).1 (h26959).2 dX12_readLine_160 ?_
          refine g_iconst (v := 2) C dX12_readLine_163 (by decide) ?_
          refine g_aload_n C dX12_readLine_164 rfl 0 rfl ?_
          refine g_iconst (v := 2) C dX12_readLine_165 (by decide) ?_
          refine g_bipush (v := 9) C dX12_readLine_166 (by decide) ?_
          refine g_callVI (rest := [.int 2, .ref b26706]) C mv_X12_211 [.int 2, .int 9] (s_X12_takeNumber Iy26944 (by decide) (by decide) W26951) (h26959).1 (h26959).2 rfl rfl (by decide) (Nat.le_of_ble_eq_true rfl) (by decide) dX12_readLine_168 (fun r26966 Y26967 h26968 => ?_)
          obtain ⟨Iy26969, Xy26970, W26971, p26972, p26973, p26974, h26968⟩ := h26968
          have p26972 : (pI Y26943 a0 7).toInt ≤ (pI Y26967 a0 7).toInt := p26972
          have p26973 : (pI Y26943 a0 8).toInt ≤ (pI Y26967 a0 8).toInt := p26973
          have p26974 : 1 ≤ (pI Y26967 a0 8).toInt ∨ (pI Y26967 a0 7).toInt = (pI Y26943 a0 7).toInt + 1 := p26974
          have q26975 := Xy26970.keepA e26953 (by decide) rfl 2
          have q26976 := Xy26970.keepA e26954 (by decide) rfl 2
          have q26977 := Xy26970.keepA e26958 (by decide) rfl 2
          have Xz26978 : EM [7, 8, 12, 13, 14, 15, 16, 17] a0 P Y26967 := EM.tr ha0 Xz26952 (Xy26970.mono (by decide))
          have e26979 := Xy26970.ref h26959 (by decide) e26953
          have e26980 := Xy26970.ref h26959 (by decide) e26954
          have e26981 := Xy26970.ref h26959 (by decide) e26955
          have e26982 := Xy26970.ref h26959 (by decide) e26956
          have e26983 := Xy26970.ref h26959 (by decide) e26957
          have e26984 := Xy26970.ref h26959 (by decide) e26958
          have h26985 := Xy26970.at h26959
          have h26986 := Xy26970.ar h26960
          have h26987 := Xy26970.ar h26961
          have h26988 := Xy26970.ar h26962
          have h26989 := Xy26970.ar h26963
          have h26990 := Xy26970.ar h26964
          have h26991 := Xy26970.ar h26965
          have h26992 := Iy26969.rg h26985 7 rfl
          have h26993 := Iy26969.rg h26985 8 rfl
          have h26994 := Iy26969.rg h26985 7 rfl
          have h26995 := Iy26969.rg h26985 8 rfl
          obtain ⟨h26968, hi26996⟩ := h26968
          have hi26996 : (1 ≤ (pI Y26967 a0 8).toInt ∧ r26966.toInt = 0) ∨ (2 ≤ r26966.toInt ∧ r26966.toInt ≤ 9) := hi26996
          have h26968 : 0 ≤ r26966.toInt ∧ r26966.toInt ≤ 999 := h26968
          refine g_iast (j := 2) C h26986.1 h26986.2.1 (IX.litn (j := 2) h26986.2.2 rfl (by decide) (by decide)) dX12_readLine_171 ?_
          refine gqX (ks := [14]) (W := (fun P => MW P a0)) (Iy26969.setA e26979 h26986 (by decide) (arOk.of rfl (by omega))) (EM.setA Iy26969 e26979 rfl (by decide)) (W26971.set14 Iy26969 e26979 (by first | exact Or.inl (by decide) | exact Or.inr (by omega))) (fun Y26997 Iy26998 Xy26999 w27000 W27001 => ?_)
          have w27000 : (pI Y26997 b26706 2).toInt = r26966.toInt := w27000
          have q27002 := Xy26999.keepA e26980 (by decide) rfl 2
          have q27003 := Xy26999.keepA e26984 (by decide) rfl 2
          have q27004 := Xy26999.keepF 7 (by decide)
          have q27005 := Xy26999.keepF 8 (by decide)
          have Xz27006 : EM [7, 8, 12, 13, 14, 15, 16, 17] a0 P Y26997 := EM.tr ha0 Xz26978 (Xy26999.mono (by decide))
          have e27007 := Xy26999.ref h26985 (by decide) e26979
          have e27008 := Xy26999.ref h26985 (by decide) e26980
          have e27009 := Xy26999.ref h26985 (by decide) e26981
          have e27010 := Xy26999.ref h26985 (by decide) e26982
          have e27011 := Xy26999.ref h26985 (by decide) e26983
          have e27012 := Xy26999.ref h26985 (by decide) e26984
          have h27013 := Xy26999.at h26985
          have h27014 := Xy26999.ar h26986
          have h27015 := Xy26999.ar h26987
          have h27016 := Xy26999.ar h26988
          have h27017 := Xy26999.ar h26989
          have h27018 := Xy26999.ar h26990
          have h27019 := Xy26999.ar h26991
          refine g_goto C 214 dX12_readLine_172 (by decide) ?_
          exact J214 Y26997 Iy26998 Xz27006 W27001 (fun b9 e9 => by rw [e27007] at e9; cases e9; omega) (by show 1 ≤ (pI Y26997 a0 8).toInt ∨ (pI P a0 7).toInt < (pI Y26997 a0 7).toInt; omega) (by show (pI P a0 8).toInt ≤ (pI Y26997 a0 8).toInt; omega) (by show (pI P a0 7).toInt ≤ (pI Y26997 a0 7).toInt; omega) (by intro b914 e914; rw [e27007] at e914; cases e914; show 1 ≤ (pI Y26997 a0 8).toInt ∨ 1 ≤ (pI Y26997 b26706 2).toInt; omega)
      · have h26751 : r26725.toInt ≠ 0 := ti_ne h26751
        refine g_aload_n C dX12_readLine_131 rfl 0 rfl ?_
        refine g_callVV (rest := []) C mv_X12_208 [] (s_X12_readOdds Iy26728 W26730) (h26740).1 (h26740).2 rfl rfl (by decide) (Nat.le_of_ble_eq_true rfl) (by decide) dX12_readLine_132 (fun Y27021 h27022 => ?_)
        obtain ⟨Iy27023, Xy27024, W27025, p27026, p27027⟩ := h27022
        have p27026 : (pI Y26726 a0 7).toInt ≤ (pI Y27021 a0 7).toInt := p27026
        have p27027 : (pI Y26726 a0 8).toInt ≤ (pI Y27021 a0 8).toInt := p27027
        have q27028 := Xy27024.keepA e26735 (by decide) rfl 2
        have q27029 := Xy27024.keepA e26736 (by decide) rfl 2
        have Xz27030 : EM [7, 8, 12, 13, 14, 15, 16, 17] a0 P Y27021 := EM.tr ha0 Xz26734 (Xy27024.mono (by decide))
        have e27031 := Xy27024.ref h26740 (by decide) e26735
        have e27032 := Xy27024.ref h26740 (by decide) e26736
        have e27033 := Xy27024.ref h26740 (by decide) e26737
        have e27034 := Xy27024.ref h26740 (by decide) e26738
        have e27035 := Xy27024.ref h26740 (by decide) e26739
        have h27036 := Xy27024.at h26740
        have h27037 := Xy27024.ar h26741
        have h27038 := Xy27024.ar h26742
        have h27039 := Xy27024.ar h26743
        have h27040 := Xy27024.ar h26744
        have h27041 := Xy27024.ar h26745
        have h27042 := Iy27023.rg h27036 7 rfl
        have h27043 := Iy27023.rg h27036 8 rfl
        have h27044 := Iy27023.rg h27036 7 rfl
        have h27045 := Iy27023.rg h27036 8 rfl
        refine g_goto C 214 dX12_readLine_135 (by decide) ?_
        exact J214 Y27021 Iy27023 Xz27030 W27025 (fun b9 e9 => by rw [e27031] at e9; cases e9; omega) (by show 1 ≤ (pI Y27021 a0 8).toInt ∨ (pI P a0 7).toInt < (pI Y27021 a0 7).toInt; omega) (by show (pI P a0 8).toInt ≤ (pI Y27021 a0 8).toInt; omega) (by show (pI P a0 7).toInt ≤ (pI Y27021 a0 7).toInt; omega) (by intro b914 e914; rw [e27031] at e914; cases e914; show 1 ≤ (pI Y27021 a0 8).toInt ∨ 1 ≤ (pI Y27021 b26706 2).toInt; omega)
    · have h26724 : 0 < (pI P115 a0 8).toInt := h26724
      exact ret _ _ _ _ _ dX12_readLine_122 (by decide) (by decide) ⟨I115, X115, W115, (by show 1 ≤ (pI P115 a0 8).toInt ∨ (pI P a0 7).toInt < (pI P115 a0 7).toInt; omega), (by show (pI P a0 7).toInt ≤ (pI P115 a0 7).toInt; omega), (by show (pI P a0 8).toInt ≤ (pI P115 a0 8).toInt; omega), (fun b9 e9 => by rw [e26707] at e9; cases e9; omega)⟩
  have J80 : ∀ (v80_1 : Int32), (0 ≤ v80_1.toInt ∧ v80_1.toInt ≤ 1) → (∀ b, pR P a0 14 = some b → 1 ≤ (pI P b 2).toInt ∧ (pI P b 2).toInt ≤ 9) → ((pI P a0 7).toInt ≤ 999) → G E ({ frames := 4, cells := 0, slots := 0, locals := 256 } : Room) D cy 2 P 0 0 80 [(0, .ref a0), (1, .int v80_1)] [] := by
    intro v80_1 hv80_1 hq80_0 rel80_0
    obtain ⟨b27046, e27047, h27048⟩ := I.fld (ha0) 14 13 3 rfl
    have hq80_0 := hq80_0 b27046 e27047
    have h27049 := I.rg ha0 7 rfl
    refine g_iload_n C dX12_readLine_80 rfl 1 rfl ?_
    refine b_if_eq C 92 dX12_readLine_81 (by decide) (fun h27050 => ?_) (fun h27050 => ?_)
    · have h27050 : v80_1.toInt = 0 := congrArg Int32.toInt h27050
      refine g_aload_n C dX12_readLine_92 rfl 0 rfl ?_
      refine g_iconst (v := 2) C dX12_readLine_93 (by decide) ?_
      refine g_callVI (rest := []) C mv_X12_172 [.int 2] (s_X12_isWord I (by decide) hW) (ha0).1 (ha0).2 rfl rfl (by decide) (Nat.le_of_ble_eq_true rfl) (by decide) dX12_readLine_94 (fun r27051 Y27052 h27053 => ?_)
      obtain ⟨rfl, h27053⟩ := h27053
      obtain ⟨h27053, hi27054⟩ := h27053
      obtain ⟨b27055, e27056, h27057⟩ := I.fld (ha0) 4 13 1002 rfl
      obtain ⟨b27058, e27059, h27060⟩ := I.fld (ha0) 6 14 1002 rfl
      obtain ⟨b27061, e27062, h27063⟩ := I.fld (ha0) 9 14 4 rfl
      obtain ⟨hi27054, hw27064⟩ := hi27054
      have hi27054 : r27051.toInt = 0 ∨ ((pI P a0 8).toInt = 0 ∧ (pI P a0 7).toInt ≤ 999) := hi27054
      have h27065 := I.rg ha0 8 rfl
      have hw27064 : r27051.toInt = iwA P a0 b27055 b27058 b27061 2 := hw27064 b27055 b27058 b27061 e27056 e27059 e27062
      have h27053 : 0 ≤ r27051.toInt ∧ r27051.toInt ≤ 1 := h27053
      refine b_if_eq C 115 dX12_readLine_97 (by decide) (fun h27066 => ?_) (fun h27066 => ?_)
      · have h27066 : r27051.toInt = 0 := congrArg Int32.toInt h27066
        refine g_lv (lv' := [(0, .ref a0)]) [0] rfl ?_
        obtain ⟨b27067, e27068, h27069⟩ := I.fld (ha0) 15 13 3 rfl
        exact J115 P I EM.rf hW (fun b9 e9 => by rw [e27047] at e9; cases e9; omega) (by show (pI P a0 8).toInt ≤ (pI P a0 8).toInt; omega) (by show (pI P a0 7).toInt = (pI P a0 7).toInt; omega) (by show 1 ≤ (pI P a0 8).toInt ∨ (pI P a0 7).toInt ≤ 999; omega) (by intro b915 b94 b96 b99 e915 e94 e96 e99; rw [e27068] at e915; cases e915; rw [e27056] at e94; cases e94; rw [e27059] at e96; cases e96; rw [e27062] at e99; cases e99; show 1 ≤ (pI P a0 8).toInt ∨ iwA P a0 b27055 b27058 b27061 2 = 0 ∨ (pI P b27067 2).toInt ≤ 3; omega)
      · have h27066 : r27051.toInt ≠ 0 := ti_ne h27066
        refine g_aload_n C dX12_readLine_100 rfl 0 rfl ?_
        obtain ⟨b27070, e27071, h27072⟩ := I.fld (ha0) 15 13 3 rfl
        refine g_getR C fi_X12_60 rfl e27071 (ha0).1 (ha0).2 dX12_readLine_101 ?_
        refine g_iconst (v := 2) C dX12_readLine_104 (by decide) ?_
        refine g_iald (j := 2) C h27072.1 h27072.2.1 (IX.litn (j := 2) h27072.2.2 rfl (by decide) (by decide)) dX12_readLine_105 ?_
        have h27073 := I.arr e27071 rfl 2
        refine g_iconst (v := 4) C dX12_readLine_106 (by decide) ?_
        refine b_icmp_ne C 115 dX12_readLine_107 (by decide) (fun h27074 => ?_) (fun h27074 => ?_)
        · have h27074 : (pI P b27070 2).toInt ≠ 4 := ti_ne h27074
          refine g_lv (lv' := [(0, .ref a0)]) [0] rfl ?_
          exact J115 P I EM.rf hW (fun b9 e9 => by rw [e27047] at e9; cases e9; omega) (by show (pI P a0 8).toInt ≤ (pI P a0 8).toInt; omega) (by show (pI P a0 7).toInt = (pI P a0 7).toInt; omega) (by show 1 ≤ (pI P a0 8).toInt ∨ (pI P a0 7).toInt ≤ 999; omega) (by intro b915 b94 b96 b99 e915 e94 e96 e99; rw [e27071] at e915; cases e915; rw [e27056] at e94; cases e94; rw [e27059] at e96; cases e96; rw [e27062] at e99; cases e99; show 1 ≤ (pI P a0 8).toInt ∨ iwA P a0 b27055 b27058 b27061 2 = 0 ∨ (pI P b27070 2).toInt ≤ 3; omega)
        · have h27074 : (pI P b27070 2).toInt = 4 := congrArg Int32.toInt h27074
          refine g_aload_n C dX12_readLine_110 rfl 0 rfl ?_
          refine g_iconst (v := 5) C dX12_readLine_111 (by decide) ?_
          refine g_callVV (rest := []) C mv_X12_168 [.int 5] (s_X12_wrong I (by decide) hW) (ha0).1 (ha0).2 rfl rfl (by decide) (Nat.le_of_ble_eq_true rfl) (by decide) dX12_readLine_112 (fun Y27076 h27077 => ?_)
          obtain ⟨Iy27078, Xy27079, W27080, p27081, p27082⟩ := h27077
          have p27081 : 1 ≤ (pI Y27076 a0 8).toInt := p27081
          have p27082 : (pI P a0 8).toInt ≤ (pI Y27076 a0 8).toInt := p27082
          have q27083 := Xy27079.keepA e27047 (by decide) rfl 2
          have q27084 := Xy27079.keepF 7 (by decide)
          have q27085 := Xy27079.keepA e27071 (by decide) rfl 2
          have Xz27086 : EM [7, 8, 12, 13, 14, 15, 16, 17] a0 P Y27076 := Xy27079.mono (by decide)
          have e27087 := Xy27079.ref ha0 (by decide) e27047
          have e27088 := Xy27079.ref ha0 (by decide) e27056
          have e27089 := Xy27079.ref ha0 (by decide) e27059
          have e27090 := Xy27079.ref ha0 (by decide) e27062
          have e27091 := Xy27079.ref ha0 (by decide) e27071
          have h27092 := Xy27079.at ha0
          have h27093 := Xy27079.ar h27048
          have h27094 := Xy27079.ar h27057
          have h27095 := Xy27079.ar h27060
          have h27096 := Xy27079.ar h27063
          have h27097 := Xy27079.ar h27072
          have h27098 := Iy27078.rg h27092 8 rfl
          refine g_lv (lv' := [(0, .ref a0)]) [0] rfl ?_
          exact J115 Y27076 Iy27078 Xz27086 W27080 (fun b9 e9 => by rw [e27087] at e9; cases e9; omega) (by show (pI P a0 8).toInt ≤ (pI Y27076 a0 8).toInt; omega) (by show (pI Y27076 a0 7).toInt = (pI P a0 7).toInt; omega) (by show 1 ≤ (pI Y27076 a0 8).toInt ∨ (pI Y27076 a0 7).toInt ≤ 999; omega) (by intro b915 b94 b96 b99 e915 e94 e96 e99; rw [e27091] at e915; cases e915; rw [e27088] at e94; cases e94; rw [e27089] at e96; cases e96; rw [e27090] at e99; cases e99; show 1 ≤ (pI Y27076 a0 8).toInt ∨ iwA Y27076 a0 b27055 b27058 b27061 2 = 0 ∨ (pI Y27076 b27070 2).toInt ≤ 3; omega)
    · have h27050 : v80_1.toInt ≠ 0 := ti_ne h27050
      refine g_aload_n C dX12_readLine_84 rfl 0 rfl ?_
      refine g_iconst (v := 3) C dX12_readLine_85 (by decide) ?_
      refine g_callVV (rest := []) C mv_X12_168 [.int 3] (s_X12_wrong I (by decide) hW) (ha0).1 (ha0).2 rfl rfl (by decide) (Nat.le_of_ble_eq_true rfl) (by decide) dX12_readLine_86 (fun Y27100 h27101 => ?_)
      obtain ⟨Iy27102, Xy27103, W27104, p27105, p27106⟩ := h27101
      have p27105 : 1 ≤ (pI Y27100 a0 8).toInt := p27105
      have p27106 : (pI P a0 8).toInt ≤ (pI Y27100 a0 8).toInt := p27106
      have q27107 := Xy27103.keepA e27047 (by decide) rfl 2
      have q27108 := Xy27103.keepF 7 (by decide)
      have Xz27109 : EM [7, 8, 12, 13, 14, 15, 16, 17] a0 P Y27100 := Xy27103.mono (by decide)
      have e27110 := Xy27103.ref ha0 (by decide) e27047
      have h27111 := Xy27103.at ha0
      have h27112 := Xy27103.ar h27048
      have h27113 := Iy27102.rg h27111 8 rfl
      refine g_goto C 115 dX12_readLine_89 (by decide) ?_
      refine g_lv (lv' := [(0, .ref a0)]) [0] rfl ?_
      obtain ⟨b27114, e27115, h27116⟩ := Iy27102.fld (h27111) 15 13 3 rfl
      obtain ⟨b27117, e27118, h27119⟩ := Iy27102.fld (h27111) 4 13 1002 rfl
      obtain ⟨b27120, e27121, h27122⟩ := Iy27102.fld (h27111) 6 14 1002 rfl
      obtain ⟨b27123, e27124, h27125⟩ := Iy27102.fld (h27111) 9 14 4 rfl
      exact J115 Y27100 Iy27102 Xz27109 W27104 (fun b9 e9 => by rw [e27110] at e9; cases e9; omega) (by show (pI P a0 8).toInt ≤ (pI Y27100 a0 8).toInt; omega) (by show (pI Y27100 a0 7).toInt = (pI P a0 7).toInt; omega) (by show 1 ≤ (pI Y27100 a0 8).toInt ∨ (pI Y27100 a0 7).toInt ≤ 999; omega) (by intro b915 b94 b96 b99 e915 e94 e96 e99; rw [e27115] at e915; cases e915; rw [e27118] at e94; cases e94; rw [e27121] at e96; cases e96; rw [e27124] at e99; cases e99; show 1 ≤ (pI Y27100 a0 8).toInt ∨ iwA Y27100 a0 b27117 b27120 b27123 2 = 0 ∨ (pI Y27100 b27114 2).toInt ≤ 3; omega)
  have J39 : ∀ (v39_s0 : Int32), (0 ≤ v39_s0.toInt ∧ v39_s0.toInt ≤ 1) → (∀ b, pR P a0 14 = some b → 1 ≤ (pI P b 2).toInt ∧ (pI P b 2).toInt ≤ 9) → G E ({ frames := 4, cells := 0, slots := 0, locals := 256 } : Room) D cy 2 P 0 0 39 [(0, .ref a0)] [.int v39_s0] := by
    intro v39_s0 hv39_s0 hq39_0
    obtain ⟨b27126, e27127, h27128⟩ := I.fld (ha0) 14 13 3 rfl
    have hq39_0 := hq39_0 b27126 e27127
    refine g_istore_n (lv' := [(1, .int v39_s0), (0, .ref a0)]) C dX12_readLine_39 rfl (by decide) rfl ?_
    refine g_aload_n C dX12_readLine_40 rfl 1 rfl ?_
    refine g_iconst (v := 0) C dX12_readLine_41 (by decide) ?_
    refine g_callVI (rest := []) C mv_X12_172 [.int 0] (s_X12_isWord I (by decide) hW) (ha0).1 (ha0).2 rfl rfl (by decide) (Nat.le_of_ble_eq_true rfl) (by decide) dX12_readLine_42 (fun r27129 Y27130 h27131 => ?_)
    obtain ⟨rfl, h27131⟩ := h27131
    obtain ⟨h27131, hi27132⟩ := h27131
    obtain ⟨b27133, e27134, h27135⟩ := I.fld (ha0) 4 13 1002 rfl
    obtain ⟨b27136, e27137, h27138⟩ := I.fld (ha0) 6 14 1002 rfl
    obtain ⟨b27139, e27140, h27141⟩ := I.fld (ha0) 9 14 4 rfl
    obtain ⟨hi27132, hw27142⟩ := hi27132
    have hi27132 : r27129.toInt = 0 ∨ ((pI P a0 8).toInt = 0 ∧ (pI P a0 7).toInt ≤ 999) := hi27132
    have h27143 := I.rg ha0 7 rfl
    have h27144 := I.rg ha0 8 rfl
    have hw27142 : r27129.toInt = iwA P a0 b27133 b27136 b27139 0 := hw27142 b27133 b27136 b27139 e27134 e27137 e27140
    have h27131 : 0 ≤ r27129.toInt ∧ r27129.toInt ≤ 1 := h27131
    refine b_if_ne C 80 dX12_readLine_45 (by decide) (fun h27145 => ?_) (fun h27145 => ?_)
    · have h27145 : r27129.toInt ≠ 0 := ti_ne h27145
      refine g_lv (lv' := [(0, .ref a0), (1, .int v39_s0)]) [1, 0] rfl ?_
      exact J80 v39_s0 (by omega) (fun b9 e9 => by rw [e27127] at e9; cases e9; omega) (by show (pI P a0 7).toInt ≤ 999; omega)
    · have h27145 : r27129.toInt = 0 := congrArg Int32.toInt h27145
      refine g_aload_n C dX12_readLine_48 rfl 1 rfl ?_
      refine g_iconst (v := 1) C dX12_readLine_49 (by decide) ?_
      refine g_callVI (rest := []) C mv_X12_172 [.int 1] (s_X12_isWord I (by decide) hW) (ha0).1 (ha0).2 rfl rfl (by decide) (Nat.le_of_ble_eq_true rfl) (by decide) dX12_readLine_50 (fun r27146 Y27147 h27148 => ?_)
      obtain ⟨rfl, h27148⟩ := h27148
      obtain ⟨h27148, hi27149⟩ := h27148
      obtain ⟨hi27149, hw27150⟩ := hi27149
      have hi27149 : r27146.toInt = 0 ∨ ((pI P a0 8).toInt = 0 ∧ (pI P a0 7).toInt ≤ 999) := hi27149
      have hw27150 : r27146.toInt = iwA P a0 b27133 b27136 b27139 1 := hw27150 b27133 b27136 b27139 e27134 e27137 e27140
      have h27148 : 0 ≤ r27146.toInt ∧ r27146.toInt ≤ 1 := h27148
      refine b_if_ne C 80 dX12_readLine_53 (by decide) (fun h27151 => ?_) (fun h27151 => ?_)
      · have h27151 : r27146.toInt ≠ 0 := ti_ne h27151
        refine g_lv (lv' := [(0, .ref a0), (1, .int v39_s0)]) [1, 0] rfl ?_
        exact J80 v39_s0 (by omega) (fun b9 e9 => by rw [e27127] at e9; cases e9; omega) (by show (pI P a0 7).toInt ≤ 999; omega)
      · have h27151 : r27146.toInt = 0 := congrArg Int32.toInt h27151
        refine g_aload_n C dX12_readLine_56 rfl 1 rfl ?_
        refine g_iconst (v := 2) C dX12_readLine_57 (by decide) ?_
        refine g_callVI (rest := []) C mv_X12_172 [.int 2] (s_X12_isWord I (by decide) hW) (ha0).1 (ha0).2 rfl rfl (by decide) (Nat.le_of_ble_eq_true rfl) (by decide) dX12_readLine_58 (fun r27152 Y27153 h27154 => ?_)
        obtain ⟨rfl, h27154⟩ := h27154
        obtain ⟨h27154, hi27155⟩ := h27154
        obtain ⟨hi27155, hw27156⟩ := hi27155
        have hi27155 : r27152.toInt = 0 ∨ ((pI P a0 8).toInt = 0 ∧ (pI P a0 7).toInt ≤ 999) := hi27155
        have hw27156 : r27152.toInt = iwA P a0 b27133 b27136 b27139 2 := hw27156 b27133 b27136 b27139 e27134 e27137 e27140
        have h27154 : 0 ≤ r27152.toInt ∧ r27152.toInt ≤ 1 := h27154
        refine b_if_ne C 80 dX12_readLine_61 (by decide) (fun h27157 => ?_) (fun h27157 => ?_)
        · have h27157 : r27152.toInt ≠ 0 := ti_ne h27157
          refine g_lv (lv' := [(0, .ref a0), (1, .int v39_s0)]) [1, 0] rfl ?_
          exact J80 v39_s0 (by omega) (fun b9 e9 => by rw [e27127] at e9; cases e9; omega) (by show (pI P a0 7).toInt ≤ 999; omega)
        · have h27157 : r27152.toInt = 0 := congrArg Int32.toInt h27157
          refine g_aload_n C dX12_readLine_64 rfl 1 rfl ?_
          refine g_iconst (v := 3) C dX12_readLine_65 (by decide) ?_
          refine g_callVI (rest := []) C mv_X12_172 [.int 3] (s_X12_isWord I (by decide) hW) (ha0).1 (ha0).2 rfl rfl (by decide) (Nat.le_of_ble_eq_true rfl) (by decide) dX12_readLine_66 (fun r27158 Y27159 h27160 => ?_)
          obtain ⟨rfl, h27160⟩ := h27160
          obtain ⟨h27160, hi27161⟩ := h27160
          obtain ⟨hi27161, hw27162⟩ := hi27161
          have hi27161 : r27158.toInt = 0 ∨ ((pI P a0 8).toInt = 0 ∧ (pI P a0 7).toInt ≤ 999) := hi27161
          have hw27162 : r27158.toInt = iwA P a0 b27133 b27136 b27139 3 := hw27162 b27133 b27136 b27139 e27134 e27137 e27140
          have h27160 : 0 ≤ r27158.toInt ∧ r27158.toInt ≤ 1 := h27160
          refine b_if_ne C 80 dX12_readLine_69 (by decide) (fun h27163 => ?_) (fun h27163 => ?_)
          · have h27163 : r27158.toInt ≠ 0 := ti_ne h27163
            refine g_lv (lv' := [(0, .ref a0), (1, .int v39_s0)]) [1, 0] rfl ?_
            exact J80 v39_s0 (by omega) (fun b9 e9 => by rw [e27127] at e9; cases e9; omega) (by show (pI P a0 7).toInt ≤ 999; omega)
          · have h27163 : r27158.toInt = 0 := congrArg Int32.toInt h27163
            refine g_aload_n C dX12_readLine_72 rfl 1 rfl ?_
            refine g_iconst (v := 1) C dX12_readLine_73 (by decide) ?_
            refine g_callVV (rest := []) C mv_X12_168 [.int 1] (s_X12_wrong I (by decide) hW) (ha0).1 (ha0).2 rfl rfl (by decide) (Nat.le_of_ble_eq_true rfl) (by decide) dX12_readLine_74 (fun Y27165 h27166 => ?_)
            obtain ⟨Iy27167, Xy27168, W27169, p27170, p27171⟩ := h27166
            have p27170 : 1 ≤ (pI Y27165 a0 8).toInt := p27170
            have p27171 : (pI P a0 8).toInt ≤ (pI Y27165 a0 8).toInt := p27171
            have q27172 := Xy27168.keepA e27127 (by decide) rfl 2
            have q27173 := Xy27168.keepF 7 (by decide)
            have Xz27174 : EM [7, 8, 12, 13, 14, 15, 16, 17] a0 P Y27165 := Xy27168.mono (by decide)
            have e27175 := Xy27168.ref ha0 (by decide) e27127
            have e27176 := Xy27168.ref ha0 (by decide) e27134
            have e27177 := Xy27168.ref ha0 (by decide) e27137
            have e27178 := Xy27168.ref ha0 (by decide) e27140
            have h27179 := Xy27168.at ha0
            have h27180 := Xy27168.ar h27128
            have h27181 := Xy27168.ar h27135
            have h27182 := Xy27168.ar h27138
            have h27183 := Xy27168.ar h27141
            have h27184 := Iy27167.rg h27179 8 rfl
            refine g_goto C 115 dX12_readLine_77 (by decide) ?_
            refine g_lv (lv' := [(0, .ref a0)]) [1] rfl ?_
            obtain ⟨b27185, e27186, h27187⟩ := Iy27167.fld (h27179) 15 13 3 rfl
            exact J115 Y27165 Iy27167 Xz27174 W27169 (fun b9 e9 => by rw [e27175] at e9; cases e9; omega) (by show (pI P a0 8).toInt ≤ (pI Y27165 a0 8).toInt; omega) (by show (pI Y27165 a0 7).toInt = (pI P a0 7).toInt; omega) (by show 1 ≤ (pI Y27165 a0 8).toInt ∨ (pI Y27165 a0 7).toInt ≤ 999; omega) (by intro b915 b94 b96 b99 e915 e94 e96 e99; rw [e27186] at e915; cases e915; rw [e27176] at e94; cases e94; rw [e27177] at e96; cases e96; rw [e27178] at e99; cases e99; show 1 ≤ (pI Y27165 a0 8).toInt ∨ iwA Y27165 a0 b27133 b27136 b27139 2 = 0 ∨ (pI Y27165 b27185 2).toInt ≤ 3; omega)
  have J38 : (∀ b, pR P a0 14 = some b → 1 ≤ (pI P b 2).toInt ∧ (pI P b 2).toInt ≤ 9) → G E ({ frames := 4, cells := 0, slots := 0, locals := 256 } : Room) D cy 2 P 0 0 38 [(0, .ref a0)] [] := by
    intro hq38_0
    obtain ⟨b27188, e27189, h27190⟩ := I.fld (ha0) 14 13 3 rfl
    have hq38_0 := hq38_0 b27188 e27189
    refine g_iconst (v := 0) C dX12_readLine_38 (by decide) ?_
    exact J39 0 (by decide) (fun b9 e9 => by rw [e27189] at e9; cases e9; omega)
  have J34 : (∀ b, pR P a0 14 = some b → 1 ≤ (pI P b 2).toInt ∧ (pI P b 2).toInt ≤ 9) → G E ({ frames := 4, cells := 0, slots := 0, locals := 256 } : Room) D cy 2 P 0 0 34 [(0, .ref a0)] [] := by
    intro hq34_0
    obtain ⟨b27191, e27192, h27193⟩ := I.fld (ha0) 14 13 3 rfl
    have hq34_0 := hq34_0 b27191 e27192
    refine g_iconst (v := 1) C dX12_readLine_34 (by decide) ?_
    refine g_goto C 39 dX12_readLine_35 (by decide) ?_
    exact J39 1 (by decide) (fun b9 e9 => by rw [e27192] at e9; cases e9; omega)
  have J17 : (∀ b, pR P a0 14 = some b → 1 ≤ (pI P b 2).toInt ∧ (pI P b 2).toInt ≤ 9) → G E ({ frames := 4, cells := 0, slots := 0, locals := 256 } : Room) D cy 2 P 0 0 17 [(0, .ref a0)] [] := by
    intro hq17_0
    obtain ⟨b27194, e27195, h27196⟩ := I.fld (ha0) 14 13 3 rfl
    have hq17_0 := hq17_0 b27194 e27195
    refine g_aload_n C dX12_readLine_17 rfl 0 rfl ?_
    refine g_iconst (v := 3) C dX12_readLine_18 (by decide) ?_
    refine g_callVI (rest := []) C mv_X12_172 [.int 3] (s_X12_isWord I (by decide) hW) (ha0).1 (ha0).2 rfl rfl (by decide) (Nat.le_of_ble_eq_true rfl) (by decide) dX12_readLine_19 (fun r27197 Y27198 h27199 => ?_)
    obtain ⟨rfl, h27199⟩ := h27199
    obtain ⟨h27199, hi27200⟩ := h27199
    obtain ⟨b27201, e27202, h27203⟩ := I.fld (ha0) 4 13 1002 rfl
    obtain ⟨b27204, e27205, h27206⟩ := I.fld (ha0) 6 14 1002 rfl
    obtain ⟨b27207, e27208, h27209⟩ := I.fld (ha0) 9 14 4 rfl
    obtain ⟨hi27200, hw27210⟩ := hi27200
    have hi27200 : r27197.toInt = 0 ∨ ((pI P a0 8).toInt = 0 ∧ (pI P a0 7).toInt ≤ 999) := hi27200
    have h27211 := I.rg ha0 7 rfl
    have h27212 := I.rg ha0 8 rfl
    have hw27210 : r27197.toInt = iwA P a0 b27201 b27204 b27207 3 := hw27210 b27201 b27204 b27207 e27202 e27205 e27208
    have h27199 : 0 ≤ r27197.toInt ∧ r27197.toInt ≤ 1 := h27199
    refine b_if_eq C 38 dX12_readLine_22 (by decide) (fun h27213 => ?_) (fun h27213 => ?_)
    · have h27213 : r27197.toInt = 0 := congrArg Int32.toInt h27213
      exact J38 (fun b9 e9 => by rw [e27195] at e9; cases e9; omega)
    · have h27213 : r27197.toInt ≠ 0 := ti_ne h27213
      refine g_aload_n C dX12_readLine_25 rfl 0 rfl ?_
      obtain ⟨b27214, e27215, h27216⟩ := I.fld (ha0) 17 13 3 rfl
      refine g_getR C fi_X12_66 rfl e27215 (ha0).1 (ha0).2 dX12_readLine_26 ?_
      refine g_iconst (v := 2) C dX12_readLine_29 (by decide) ?_
      refine g_iald (j := 2) C h27216.1 h27216.2.1 (IX.litn (j := 2) h27216.2.2 rfl (by decide) (by decide)) dX12_readLine_30 ?_
      have u27218 := ti_rng (pI P b27214 2)
      refine b_if_le C 38 dX12_readLine_31 (by decide) (fun h27217 => ?_) (fun h27217 => ?_)
      · have h27217 : (pI P b27214 2).toInt ≤ 0 := h27217
        exact J38 (fun b9 e9 => by rw [e27195] at e9; cases e9; omega)
      · have h27217 : 0 < (pI P b27214 2).toInt := h27217
        exact J34 (fun b9 e9 => by rw [e27195] at e9; cases e9; omega)
  obtain ⟨b27219, e27220, h27221⟩ := I.fld (ha0) 14 13 3 rfl
  have hf0 := hf0 b27219 e27220
  have h27222 := I.rg ha0 7 rfl
  have h27223 := I.rg ha0 8 rfl
  refine g_aload_n C dX12_readLine_0 rfl 0 rfl ?_
  refine g_iconst (v := 1) C dX12_readLine_1 (by decide) ?_
  refine g_callVI (rest := []) C mv_X12_172 [.int 1] (s_X12_isWord I (by decide) hW) (ha0).1 (ha0).2 rfl rfl (by decide) (Nat.le_of_ble_eq_true rfl) (by decide) dX12_readLine_2 (fun r27224 Y27225 h27226 => ?_)
  obtain ⟨rfl, h27226⟩ := h27226
  obtain ⟨h27226, hi27227⟩ := h27226
  obtain ⟨b27228, e27229, h27230⟩ := I.fld (ha0) 4 13 1002 rfl
  obtain ⟨b27231, e27232, h27233⟩ := I.fld (ha0) 6 14 1002 rfl
  obtain ⟨b27234, e27235, h27236⟩ := I.fld (ha0) 9 14 4 rfl
  obtain ⟨hi27227, hw27237⟩ := hi27227
  have hi27227 : r27224.toInt = 0 ∨ ((pI P a0 8).toInt = 0 ∧ (pI P a0 7).toInt ≤ 999) := hi27227
  have hw27237 : r27224.toInt = iwA P a0 b27228 b27231 b27234 1 := hw27237 b27228 b27231 b27234 e27229 e27232 e27235
  have h27226 : 0 ≤ r27224.toInt ∧ r27224.toInt ≤ 1 := h27226
  refine b_if_eq C 17 dX12_readLine_5 (by decide) (fun h27238 => ?_) (fun h27238 => ?_)
  · have h27238 : r27224.toInt = 0 := congrArg Int32.toInt h27238
    exact J17 (fun b9 e9 => by rw [e27220] at e9; cases e9; omega)
  · have h27238 : r27224.toInt ≠ 0 := ti_ne h27238
    refine g_aload_n C dX12_readLine_8 rfl 0 rfl ?_
    obtain ⟨b27239, e27240, h27241⟩ := I.fld (ha0) 13 13 3 rfl
    refine g_getR C fi_X12_54 rfl e27240 (ha0).1 (ha0).2 dX12_readLine_9 ?_
    refine g_iconst (v := 2) C dX12_readLine_12 (by decide) ?_
    refine g_iald (j := 2) C h27241.1 h27241.2.1 (IX.litn (j := 2) h27241.2.2 rfl (by decide) (by decide)) dX12_readLine_13 ?_
    have u27243 := ti_rng (pI P b27239 2)
    refine b_if_gt C 34 dX12_readLine_14 (by decide) (fun h27242 => ?_) (fun h27242 => ?_)
    · have h27242 : 0 < (pI P b27239 2).toInt := h27242
      exact J34 (fun b9 e9 => by rw [e27220] at e9; cases e9; omega)
    · have h27242 : (pI P b27239 2).toInt ≤ 0 := h27242
      exact J17 (fun b9 e9 => by rw [e27220] at e9; cases e9; omega)
theorem dX12_draw_70 : decode cX12_draw 70 = .ok (.goto (-23), 3) := by decide +kernel
theorem dX12_draw_73 : decode cX12_draw 73 = .ok (.aload_n 0, 1) := by decide +kernel
theorem dX12_draw_74 : decode cX12_draw 74 = .ok (.getfield 162, 3) := by decide +kernel
theorem dX12_draw_77 : decode cX12_draw 77 = .ok (.ifCond .ne 121, 3) := by decide +kernel
theorem dX12_draw_80 : decode cX12_draw 80 = .ok (.iconst 0, 1) := by decide +kernel
theorem dX12_draw_81 : decode cX12_draw 81 = .ok (.istore_n 2, 1) := by decide +kernel
theorem dX12_draw_82 : decode cX12_draw 82 = .ok (.iload_n 2, 1) := by decide +kernel
theorem dX12_draw_83 : decode cX12_draw 83 = .ok (.bipush 21, 2) := by decide +kernel
theorem dX12_draw_85 : decode cX12_draw 85 = .ok (.if_icmp .ge 29, 3) := by decide +kernel
theorem dX12_draw_88 : decode cX12_draw 88 = .ok (.aload_n 0, 1) := by decide +kernel
theorem dX12_draw_89 : decode cX12_draw 89 = .ok (.getfield 51, 3) := by decide +kernel
theorem dX12_draw_92 : decode cX12_draw 92 = .ok (.bipush 21, 2) := by decide +kernel
theorem dX12_draw_94 : decode cX12_draw 94 = .ok (.iload_n 1, 1) := by decide +kernel
theorem dX12_draw_95 : decode cX12_draw 95 = .ok (.imul, 1) := by decide +kernel
theorem dX12_draw_96 : decode cX12_draw 96 = .ok (.iload_n 2, 1) := by decide +kernel
theorem dX12_draw_97 : decode cX12_draw 97 = .ok (.iadd, 1) := by decide +kernel
theorem dX12_draw_98 : decode cX12_draw 98 = .ok (.aload_n 0, 1) := by decide +kernel
theorem dX12_draw_99 : decode cX12_draw 99 = .ok (.getfield 51, 3) := by decide +kernel
theorem dX12_draw_102 : decode cX12_draw 102 = .ok (.bipush 42, 2) := by decide +kernel
theorem dX12_draw_104 : decode cX12_draw 104 = .ok (.iload_n 2, 1) := by decide +kernel
theorem dX12_draw_105 : decode cX12_draw 105 = .ok (.iadd, 1) := by decide +kernel
theorem dX12_draw_106 : decode cX12_draw 106 = .ok (.iaload, 1) := by decide +kernel
theorem dX12_draw_107 : decode cX12_draw 107 = .ok (.iastore, 1) := by decide +kernel
theorem dX12_draw_108 : decode cX12_draw 108 = .ok (.iinc 2 1, 3) := by decide +kernel
theorem dX12_draw_111 : decode cX12_draw 111 = .ok (.goto (-29), 3) := by decide +kernel
theorem dX12_draw_114 : decode cX12_draw 114 = .ok (.aload_n 0, 1) := by decide +kernel
theorem dX12_draw_115 : decode cX12_draw 115 = .ok (.getfield 54, 3) := by decide +kernel
theorem dX12_draw_118 : decode cX12_draw 118 = .ok (.iload_n 1, 1) := by decide +kernel
theorem dX12_draw_119 : decode cX12_draw 119 = .ok (.aload_n 0, 1) := by decide +kernel
theorem dX12_draw_120 : decode cX12_draw 120 = .ok (.getfield 54, 3) := by decide +kernel
theorem dX12_draw_123 : decode cX12_draw 123 = .ok (.iconst 2, 1) := by decide +kernel
theorem dX12_draw_124 : decode cX12_draw 124 = .ok (.iaload, 1) := by decide +kernel
theorem dX12_draw_125 : decode cX12_draw 125 = .ok (.iastore, 1) := by decide +kernel
theorem dX12_draw_126 : decode cX12_draw 126 = .ok (.aload_n 0, 1) := by decide +kernel
theorem dX12_draw_127 : decode cX12_draw 127 = .ok (.getfield 57, 3) := by decide +kernel
theorem dX12_draw_130 : decode cX12_draw 130 = .ok (.iload_n 1, 1) := by decide +kernel
theorem dX12_draw_131 : decode cX12_draw 131 = .ok (.aload_n 0, 1) := by decide +kernel
theorem dX12_draw_132 : decode cX12_draw 132 = .ok (.getfield 57, 3) := by decide +kernel
theorem dX12_draw_135 : decode cX12_draw 135 = .ok (.iconst 2, 1) := by decide +kernel
theorem dX12_draw_136 : decode cX12_draw 136 = .ok (.iaload, 1) := by decide +kernel
theorem dX12_draw_137 : decode cX12_draw 137 = .ok (.iastore, 1) := by decide +kernel
theorem dX12_draw_138 : decode cX12_draw 138 = .ok (.aload_n 0, 1) := by decide +kernel
theorem dX12_draw_139 : decode cX12_draw 139 = .ok (.getfield 60, 3) := by decide +kernel
theorem dX12_draw_142 : decode cX12_draw 142 = .ok (.iload_n 1, 1) := by decide +kernel
theorem dX12_draw_143 : decode cX12_draw 143 = .ok (.aload_n 0, 1) := by decide +kernel
theorem dX12_draw_144 : decode cX12_draw 144 = .ok (.getfield 60, 3) := by decide +kernel
theorem dX12_draw_147 : decode cX12_draw 147 = .ok (.iconst 2, 1) := by decide +kernel
theorem dX12_draw_148 : decode cX12_draw 148 = .ok (.iaload, 1) := by decide +kernel
theorem dX12_draw_149 : decode cX12_draw 149 = .ok (.iastore, 1) := by decide +kernel
theorem dX12_draw_150 : decode cX12_draw 150 = .ok (.iconst 0, 1) := by decide +kernel
theorem dX12_draw_151 : decode cX12_draw 151 = .ok (.istore_n 2, 1) := by decide +kernel
theorem dX12_draw_152 : decode cX12_draw 152 = .ok (.iload_n 2, 1) := by decide +kernel
theorem dX12_draw_153 : decode cX12_draw 153 = .ok (.iconst 4, 1) := by decide +kernel
theorem dX12_draw_154 : decode cX12_draw 154 = .ok (.if_icmp .ge 28, 3) := by decide +kernel
theorem dX12_draw_157 : decode cX12_draw 157 = .ok (.aload_n 0, 1) := by decide +kernel
theorem dX12_draw_158 : decode cX12_draw 158 = .ok (.getfield 63, 3) := by decide +kernel
theorem dX12_draw_161 : decode cX12_draw 161 = .ok (.iconst 4, 1) := by decide +kernel
theorem dX12_draw_162 : decode cX12_draw 162 = .ok (.iload_n 1, 1) := by decide +kernel
theorem dX12_draw_163 : decode cX12_draw 163 = .ok (.imul, 1) := by decide +kernel
theorem dX12_draw_164 : decode cX12_draw 164 = .ok (.iload_n 2, 1) := by decide +kernel
theorem dX12_draw_165 : decode cX12_draw 165 = .ok (.iadd, 1) := by decide +kernel
theorem dX12_draw_166 : decode cX12_draw 166 = .ok (.aload_n 0, 1) := by decide +kernel
theorem dX12_draw_167 : decode cX12_draw 167 = .ok (.getfield 63, 3) := by decide +kernel
theorem dX12_draw_170 : decode cX12_draw 170 = .ok (.bipush 8, 2) := by decide +kernel
theorem dX12_draw_172 : decode cX12_draw 172 = .ok (.iload_n 2, 1) := by decide +kernel
theorem dX12_draw_173 : decode cX12_draw 173 = .ok (.iadd, 1) := by decide +kernel
theorem dX12_draw_174 : decode cX12_draw 174 = .ok (.iaload, 1) := by decide +kernel
theorem dX12_draw_175 : decode cX12_draw 175 = .ok (.iastore, 1) := by decide +kernel
theorem dX12_draw_176 : decode cX12_draw 176 = .ok (.iinc 2 1, 3) := by decide +kernel
theorem dX12_draw_179 : decode cX12_draw 179 = .ok (.goto (-27), 3) := by decide +kernel
theorem dX12_draw_182 : decode cX12_draw 182 = .ok (.aload_n 0, 1) := by decide +kernel
theorem dX12_draw_183 : decode cX12_draw 183 = .ok (.getfield 66, 3) := by decide +kernel
theorem dX12_draw_186 : decode cX12_draw 186 = .ok (.iload_n 1, 1) := by decide +kernel
theorem dX12_draw_187 : decode cX12_draw 187 = .ok (.aload_n 0, 1) := by decide +kernel
theorem dX12_draw_188 : decode cX12_draw 188 = .ok (.getfield 66, 3) := by decide +kernel
theorem dX12_draw_191 : decode cX12_draw 191 = .ok (.iconst 2, 1) := by decide +kernel
theorem dX12_draw_192 : decode cX12_draw 192 = .ok (.iaload, 1) := by decide +kernel
theorem dX12_draw_193 : decode cX12_draw 193 = .ok (.iastore, 1) := by decide +kernel
theorem dX12_draw_194 : decode cX12_draw 194 = .ok (.aload_n 0, 1) := by decide +kernel
theorem dX12_draw_195 : decode cX12_draw 195 = .ok (.invokevirtual 189, 3) := by decide +kernel
theorem dX12_draw_198 : decode cX12_draw 198 = .ok (.aload_n 0, 1) := by decide +kernel
theorem dX12_draw_199 : decode cX12_draw 199 = .ok (.getfield 162, 3) := by decide +kernel
theorem dX12_draw_202 : decode cX12_draw 202 = .ok (.ireturn, 1) := by decide +kernel
theorem dX12_forgetsMarks_0 : decode cX12_forgetsMarks 0 = .ok (.iconst 0, 1) := by decide +kernel
theorem dX12_forgetsMarks_1 : decode cX12_forgetsMarks 1 = .ok (.istore_n 1, 1) := by decide +kernel
theorem dX12_forgetsMarks_2 : decode cX12_forgetsMarks 2 = .ok (.iload_n 1, 1) := by decide +kernel
theorem dX12_forgetsMarks_3 : decode cX12_forgetsMarks 3 = .ok (.iconst 4, 1) := by decide +kernel
theorem dX12_forgetsMarks_4 : decode cX12_forgetsMarks 4 = .ok (.if_icmp .ge 16, 3) := by decide +kernel
theorem dX12_forgetsMarks_7 : decode cX12_forgetsMarks 7 = .ok (.aload_n 0, 1) := by decide +kernel
theorem dX12_forgetsMarks_8 : decode cX12_forgetsMarks 8 = .ok (.getfield 87, 3) := by decide +kernel
theorem dX12_forgetsMarks_11 : decode cX12_forgetsMarks 11 = .ok (.iload_n 1, 1) := by decide +kernel
theorem dX12_forgetsMarks_12 : decode cX12_forgetsMarks 12 = .ok (.iconst 0, 1) := by decide +kernel
theorem dX12_forgetsMarks_13 : decode cX12_forgetsMarks 13 = .ok (.bastore, 1) := by decide +kernel
theorem dX12_forgetsMarks_14 : decode cX12_forgetsMarks 14 = .ok (.iinc 1 1, 3) := by decide +kernel
theorem dX12_forgetsMarks_17 : decode cX12_forgetsMarks 17 = .ok (.goto (-15), 3) := by decide +kernel
theorem dX12_forgetsMarks_20 : decode cX12_forgetsMarks 20 = .ok (.return_, 1) := by decide +kernel
set_option maxHeartbeats 4000000 in
set_option maxRecDepth 100000 in
theorem s_X12_forgetsMarks {P : PP} {a0 : Nat} (I : IM P a0) (hW : MW P a0) : CtrV yX12_forgetsMarks cX12_forgetsMarks 2 none ({ frames := 1, cells := 0, slots := 0, locals := 64 } : Room) 0 0 P [.ref a0] (fun P2 => IM P2 a0 ∧ EM [26] a0 P P2 ∧ MW P2 a0) := by
  refine enV (lv := [(0, .ref a0)]) (by decide) (Nat.le_of_ble_eq_true rfl) rfl (fun E D cy C Ci0 ret => ?_)
  have ha0 := I.2.1
  have J2 : ∀ (n2 : Nat) (P2 : PP) (v2_1 : Int32), (4 - v2_1.toInt).toNat < n2 → (IM P2 a0) → (EM [26] a0 P P2) → (MW P2 a0) → (0 ≤ v2_1.toInt ∧ v2_1.toInt ≤ 4) → G E ({ frames := 1, cells := 0, slots := 0, locals := 64 } : Room) D cy 2 P2 0 0 2 [(0, .ref a0), (1, .int v2_1)] [] := by
    intro n2
    induction n2 with
    | zero => intro P2 v2_1 hm2 I2 X2 W2 hv2_1; omega
    | succ n2 ih2 =>
      intro P2 v2_1 hm2 I2 X2 W2 hv2_1
      have h28230 := X2.at ha0
      refine g_iload_n C dX12_forgetsMarks_2 rfl 1 rfl ?_
      refine g_iconst (v := 4) C dX12_forgetsMarks_3 (by decide) ?_
      refine b_icmp_ge C 20 dX12_forgetsMarks_4 (by decide) (fun h28231 => ?_) (fun h28231 => ?_)
      · have h28231 : 4 ≤ v2_1.toInt := h28231
        exact ret _ _ _ _ _ dX12_forgetsMarks_20 (by decide) (by decide) ⟨I2, X2, W2⟩
      · have h28231 : v2_1.toInt < 4 := h28231
        refine g_aload_n C dX12_forgetsMarks_7 rfl 0 rfl ?_
        obtain ⟨b28232, e28233, h28234⟩ := I2.fld (h28230) 26 15 4 rfl
        refine g_getR C fi_X12_87 rfl e28233 (h28230).1 (h28230).2 dX12_forgetsMarks_8 ?_
        refine g_iload_n C dX12_forgetsMarks_11 rfl 1 rfl ?_
        refine g_iconst (v := 0) C dX12_forgetsMarks_12 (by decide) ?_
        refine g_zast (j := (v2_1.toInt.toNat)) C h28234.1 h28234.2.1 (ix_in h28234.2.2 (by omega)) (Or.inl rfl) dX12_forgetsMarks_13 ?_
        refine gqW (ks := [26]) (I2.setA e28233 h28234 (by decide) (arOk.none rfl)) (EM.setA I2 e28233 rfl (by decide)) (fun Y28235 Iy28236 Xy28237 w28238  => ?_)
        have w28238 : (pI Y28235 b28232 (v2_1.toInt.toNat)).toInt = 0 := w28238
        have W28239 := W2.keep I2 Xy28237 (by decide) (by decide) (by decide)
        have Xz28240 : EM [26] a0 P Y28235 := EM.tr ha0 X2 (Xy28237.mono (by decide))
        have e28241 := Xy28237.ref h28230 (by decide) e28233
        have h28242 := Xy28237.at h28230
        have h28243 := Xy28237.ar h28234
        refine s_iinc (lv0 := [(0, .ref a0)]) (m := 1) C dX12_forgetsMarks_14 1 rfl (by decide) rfl (by decide) (by omega) (fun z28244 h28245 => ?_)
        have h28245 : z28244.toInt = v2_1.toInt + 1 := h28245
        refine g_goto C 2 dX12_forgetsMarks_17 (by decide) ?_
        refine g_lv (lv' := [(0, .ref a0), (1, .int z28244)]) [1, 0] rfl ?_
        exact ih2 Y28235 z28244 (by omega) Iy28236 Xz28240 W28239 (by omega)
  refine g_iconst (v := 0) C dX12_forgetsMarks_0 (by decide) ?_
  refine g_istore_n (lv' := [(1, .int 0), (0, .ref a0)]) C dX12_forgetsMarks_1 rfl (by decide) rfl ?_
  refine g_lv (lv' := [(0, .ref a0), (1, .int 0)]) [1, 0] rfl ?_
  exact J2 _ P 0 (Nat.lt_succ_self _) I EM.rf hW (by decide)
set_option maxHeartbeats 4000000 in
set_option maxRecDepth 100000 in
theorem s_X12_draw {P : PP} {a0 : Nat} {a1 : Int32} (I : IM P a0) (hW : MW P a0) : CtrI yX12_draw cX12_draw 3 (some Jvm.ClassFile.FieldType.int) ({ frames := 5, cells := 0, slots := 0, locals := 320 } : Room) 0 0 P [.ref a0, .int a1] (fun r P2 => IM P2 a0 ∧ EM [0, 2, 3, 4, 5, 7, 8, 12, 13, 14, 15, 16, 17, 18, 26] a0 P P2 ∧ MW P2 a0 ∧ (-1 ≤ r.toInt ∧ r.toInt ≤ 16005)) := by
  refine enI (lv := [(0, .ref a0), (1, .int a1)]) (by decide) (Nat.le_of_ble_eq_true rfl) rfl (fun E D cy C Ci0 ret => ?_)
  have ha0 := I.2.1
  have J198 : ∀ (P198 : PP), (IM P198 a0) → (EM [0, 2, 3, 4, 5, 7, 8, 12, 13, 14, 15, 16, 17, 18, 26] a0 P P198) → (MW P198 a0) → (0 ≤ (pI P198 a0 0).toInt ∧ (pI P198 a0 0).toInt ≤ 0) → (1 ≤ (pI P198 a0 18).toInt ∧ (pI P198 a0 18).toInt ≤ 16) → (0 ≤ (pI P198 a0 8).toInt ∧ (pI P198 a0 8).toInt ≤ 16005) → (∀ b, pR P198 a0 10 = some b → 1 ≤ (pI P198 b (a1.toInt.toNat)).toInt ∧ (pI P198 b (a1.toInt.toNat)).toInt ≤ 16) → G E ({ frames := 5, cells := 0, slots := 0, locals := 320 } : Room) D cy 3 P198 0 0 198 [(0, .ref a0)] [] := by
    intro P198 I198 X198 W198 hq198_0 hq198_1 hq198_2 hq198_3
    have h29206 := X198.at ha0
    obtain ⟨b29207, e29208, h29209⟩ := I198.fld (h29206) 10 13 2 rfl
    have hq198_3 := hq198_3 b29207 e29208
    refine g_aload_n C dX12_draw_198 rfl 0 rfl ?_
    refine g_getI C fi_X12_162 (by decide) (h29206).1 (h29206).2 dX12_draw_199 ?_
    exact ret _ _ _ _ _ _ dX12_draw_202 rfl (by decide) (by decide) ⟨I198, X198, W198, (by omega)⟩
  have J152 : ∀ (n152 : Nat) (P152 : PP) (v152_2 : Int32), (4 - v152_2.toInt).toNat < n152 → (IM P152 a0) → (EM [0, 2, 3, 4, 5, 7, 8, 12, 13, 14, 15, 16, 17, 18, 26] a0 P P152) → (MW P152 a0) → (0 ≤ a1.toInt ∧ a1.toInt ≤ 1) → (0 ≤ v152_2.toInt ∧ v152_2.toInt ≤ 4) → (0 ≤ (pI P152 a0 0).toInt ∧ (pI P152 a0 0).toInt ≤ 0) → (1 ≤ (pI P152 a0 18).toInt ∧ (pI P152 a0 18).toInt ≤ 16) → (0 ≤ (pI P152 a0 8).toInt ∧ (pI P152 a0 8).toInt ≤ 0) → (∀ b, pR P152 a0 10 = some b → 1 ≤ (pI P152 b (a1.toInt.toNat)).toInt ∧ (pI P152 b (a1.toInt.toNat)).toInt ≤ 16) → (∀ b, pR P152 a0 14 = some b → 1 ≤ (pI P152 b (a1.toInt.toNat)).toInt ∧ (pI P152 b (a1.toInt.toNat)).toInt ≤ 9) → G E ({ frames := 5, cells := 0, slots := 0, locals := 320 } : Room) D cy 3 P152 0 0 152 [(0, .ref a0), (1, .int a1), (2, .int v152_2)] [] := by
    intro n152
    induction n152 with
    | zero => intro P152 v152_2 hm152 I152 X152 W152 hv152_1 hv152_2 hq152_0 hq152_1 hq152_2 hq152_3 hq152_4; omega
    | succ n152 ih152 =>
      intro P152 v152_2 hm152 I152 X152 W152 hv152_1 hv152_2 hq152_0 hq152_1 hq152_2 hq152_3 hq152_4
      have h29210 := X152.at ha0
      obtain ⟨b29211, e29212, h29213⟩ := I152.fld (h29210) 10 13 2 rfl
      have hq152_3 := hq152_3 b29211 e29212
      obtain ⟨b29214, e29215, h29216⟩ := I152.fld (h29210) 14 13 3 rfl
      have hq152_4 := hq152_4 b29214 e29215
      refine g_iload_n C dX12_draw_152 rfl 2 rfl ?_
      refine g_iconst (v := 4) C dX12_draw_153 (by decide) ?_
      refine b_icmp_ge C 182 dX12_draw_154 (by decide) (fun h29217 => ?_) (fun h29217 => ?_)
      · have h29217 : 4 ≤ v152_2.toInt := h29217
        refine g_aload_n C dX12_draw_182 rfl 0 rfl ?_
        obtain ⟨b29218, e29219, h29220⟩ := I152.fld (h29210) 17 13 3 rfl
        refine g_getR C fi_X12_66 rfl e29219 (h29210).1 (h29210).2 dX12_draw_183 ?_
        refine g_iload_n C dX12_draw_186 rfl 1 rfl ?_
        refine g_aload_n C dX12_draw_187 rfl 0 rfl ?_
        refine g_getR C fi_X12_66 rfl e29219 (h29210).1 (h29210).2 dX12_draw_188 ?_
        refine g_iconst (v := 2) C dX12_draw_191 (by decide) ?_
        refine g_iald (j := 2) C h29220.1 h29220.2.1 (IX.litn (j := 2) h29220.2.2 rfl (by decide) (by decide)) dX12_draw_192 ?_
        refine g_iast (j := (a1.toInt.toNat)) C h29220.1 h29220.2.1 (ix_in h29220.2.2 (by omega)) dX12_draw_193 ?_
        refine gqW (ks := [17]) (I152.setA e29219 h29220 (by decide) (arOk.none rfl)) (EM.setA I152 e29219 rfl (by decide)) (fun Y29221 Iy29222 Xy29223 w29224  => ?_)
        have w29224 : (pI Y29221 b29218 (a1.toInt.toNat)).toInt = (pI P152 b29218 2).toInt := w29224
        have q29225 := Xy29223.keepF 0 (by decide)
        have q29226 := Xy29223.keepF 18 (by decide)
        have q29227 := Xy29223.keepF 8 (by decide)
        have q29228 := Xy29223.keepA e29212 (by decide) rfl (a1.toInt.toNat)
        have q29229 := Xy29223.keepA e29215 (by decide) rfl (a1.toInt.toNat)
        have W29230 := W152.keep I152 Xy29223 (by decide) (by decide) (by decide)
        have Xz29231 : EM [0, 2, 3, 4, 5, 7, 8, 12, 13, 14, 15, 16, 17, 18, 26] a0 P Y29221 := EM.tr ha0 X152 (Xy29223.mono (by decide))
        have e29232 := Xy29223.ref h29210 (by decide) e29212
        have e29233 := Xy29223.ref h29210 (by decide) e29215
        have e29234 := Xy29223.ref h29210 (by decide) e29219
        have h29235 := Xy29223.at h29210
        have h29236 := Xy29223.ar h29213
        have h29237 := Xy29223.ar h29216
        have h29238 := Xy29223.ar h29220
        refine g_aload_n C dX12_draw_194 rfl 0 rfl ?_
        refine g_callVV (rest := []) C mv_X12_189 [] (s_X12_forgetsMarks Iy29222 W29230) (h29235).1 (h29235).2 rfl rfl (by decide) (Nat.le_of_ble_eq_true rfl) (by decide) dX12_draw_195 (fun Y29240 h29241 => ?_)
        obtain ⟨Iy29242, Xy29243, W29244⟩ := h29241
        have q29245 := Xy29243.keepF 0 (by decide)
        have q29246 := Xy29243.keepF 18 (by decide)
        have q29247 := Xy29243.keepF 8 (by decide)
        have q29248 := Xy29243.keepA e29232 (by decide) rfl (a1.toInt.toNat)
        have q29249 := Xy29243.keepA e29233 (by decide) rfl (a1.toInt.toNat)
        have q29250 := Xy29243.keepA e29234 (by decide) rfl (a1.toInt.toNat)
        have Xz29251 : EM [0, 2, 3, 4, 5, 7, 8, 12, 13, 14, 15, 16, 17, 18, 26] a0 P Y29240 := EM.tr ha0 Xz29231 (Xy29243.mono (by decide))
        have e29252 := Xy29243.ref h29235 (by decide) e29232
        have e29253 := Xy29243.ref h29235 (by decide) e29233
        have e29254 := Xy29243.ref h29235 (by decide) e29234
        have h29255 := Xy29243.at h29235
        have h29256 := Xy29243.ar h29236
        have h29257 := Xy29243.ar h29237
        have h29258 := Xy29243.ar h29238
        refine g_lv (lv' := [(0, .ref a0)]) [0] rfl ?_
        exact J198 Y29240 Iy29242 Xz29251 W29244 (by omega) (by omega) (by omega) (fun b9 e9 => by rw [e29252] at e9; cases e9; omega)
      · have h29217 : v152_2.toInt < 4 := h29217
        refine g_aload_n C dX12_draw_157 rfl 0 rfl ?_
        obtain ⟨b29259, e29260, h29261⟩ := I152.fld (h29210) 16 13 12 rfl
        refine g_getR C fi_X12_63 rfl e29260 (h29210).1 (h29210).2 dX12_draw_158 ?_
        refine g_iconst (v := 4) C dX12_draw_161 (by decide) ?_
        refine g_iload_n C dX12_draw_162 rfl 1 rfl ?_
        refine s_imul C dX12_draw_163 (by show -2147483648 ≤ 4 * a1.toInt ∧ 4 * a1.toInt ≤ 2147483647; omega) (fun z29262 h29263 => ?_)
        have h29263 : z29262.toInt = 4 * a1.toInt := h29263
        refine g_iload_n C dX12_draw_164 rfl 2 rfl ?_
        refine s_iadd C dX12_draw_165 (by show -2147483648 ≤ z29262.toInt + v152_2.toInt ∧ z29262.toInt + v152_2.toInt ≤ 2147483647; omega) (fun z29264 h29265 => ?_)
        have h29265 : z29264.toInt = z29262.toInt + v152_2.toInt := h29265
        refine g_aload_n C dX12_draw_166 rfl 0 rfl ?_
        refine g_getR C fi_X12_63 rfl e29260 (h29210).1 (h29210).2 dX12_draw_167 ?_
        refine g_bipush (v := 8) C dX12_draw_170 (by decide) ?_
        refine g_iload_n C dX12_draw_172 rfl 2 rfl ?_
        refine s_iadd C dX12_draw_173 (by show -2147483648 ≤ 8 + v152_2.toInt ∧ 8 + v152_2.toInt ≤ 2147483647; omega) (fun z29266 h29267 => ?_)
        have h29267 : z29266.toInt = 8 + v152_2.toInt := h29267
        refine g_iald (j := (z29266.toInt.toNat)) C h29261.1 h29261.2.1 (ix_in h29261.2.2 (by omega)) dX12_draw_174 ?_
        refine g_iast (j := (z29264.toInt.toNat)) C h29261.1 h29261.2.1 (ix_in h29261.2.2 (by omega)) dX12_draw_175 ?_
        refine gqW (ks := [16]) (I152.setA e29260 h29261 (by decide) (arOk.none rfl)) (EM.setA I152 e29260 rfl (by decide)) (fun Y29268 Iy29269 Xy29270 w29271  => ?_)
        have w29271 : (pI Y29268 b29259 (z29264.toInt.toNat)).toInt = (pI P152 b29259 (z29266.toInt.toNat)).toInt := w29271
        have q29272 := Xy29270.keepF 0 (by decide)
        have q29273 := Xy29270.keepF 18 (by decide)
        have q29274 := Xy29270.keepF 8 (by decide)
        have q29275 := Xy29270.keepA e29212 (by decide) rfl (a1.toInt.toNat)
        have q29276 := Xy29270.keepA e29215 (by decide) rfl (a1.toInt.toNat)
        have W29277 := W152.keep I152 Xy29270 (by decide) (by decide) (by decide)
        have Xz29278 : EM [0, 2, 3, 4, 5, 7, 8, 12, 13, 14, 15, 16, 17, 18, 26] a0 P Y29268 := EM.tr ha0 X152 (Xy29270.mono (by decide))
        have e29279 := Xy29270.ref h29210 (by decide) e29212
        have e29280 := Xy29270.ref h29210 (by decide) e29215
        have e29281 := Xy29270.ref h29210 (by decide) e29260
        have h29282 := Xy29270.at h29210
        have h29283 := Xy29270.ar h29213
        have h29284 := Xy29270.ar h29216
        have h29285 := Xy29270.ar h29261
        refine s_iinc (lv0 := [(0, .ref a0), (1, .int a1)]) (m := 1) C dX12_draw_176 2 rfl (by decide) rfl (by decide) (by omega) (fun z29286 h29287 => ?_)
        have h29287 : z29286.toInt = v152_2.toInt + 1 := h29287
        refine g_goto C 152 dX12_draw_179 (by decide) ?_
        refine g_lv (lv' := [(0, .ref a0), (1, .int a1), (2, .int z29286)]) [1, 2, 0] rfl ?_
        exact ih152 Y29268 z29286 (by omega) Iy29269 Xz29278 W29277 (by omega) (by omega) (by omega) (by omega) (by omega) (fun b9 e9 => by rw [e29279] at e9; cases e9; omega) (fun b9 e9 => by rw [e29280] at e9; cases e9; omega)
  have J82 : ∀ (n82 : Nat) (P82 : PP) (v82_2 : Int32), (21 - v82_2.toInt).toNat < n82 → (IM P82 a0) → (EM [0, 2, 3, 4, 5, 7, 8, 12, 13, 14, 15, 16, 17, 18, 26] a0 P P82) → (MW P82 a0) → (0 ≤ a1.toInt ∧ a1.toInt ≤ 1) → (0 ≤ v82_2.toInt ∧ v82_2.toInt ≤ 21) → (0 ≤ (pI P82 a0 0).toInt ∧ (pI P82 a0 0).toInt ≤ 0) → (1 ≤ (pI P82 a0 18).toInt ∧ (pI P82 a0 18).toInt ≤ 16) → (0 ≤ (pI P82 a0 8).toInt ∧ (pI P82 a0 8).toInt ≤ 0) → (∀ b, pR P82 a0 10 = some b → 1 ≤ (pI P82 b (a1.toInt.toNat)).toInt ∧ (pI P82 b (a1.toInt.toNat)).toInt ≤ 16) → (∀ b, pR P82 a0 14 = some b → 1 ≤ (pI P82 b 2).toInt ∧ (pI P82 b 2).toInt ≤ 9) → G E ({ frames := 5, cells := 0, slots := 0, locals := 320 } : Room) D cy 3 P82 0 0 82 [(0, .ref a0), (1, .int a1), (2, .int v82_2)] [] := by
    intro n82
    induction n82 with
    | zero => intro P82 v82_2 hm82 I82 X82 W82 hv82_1 hv82_2 hq82_0 hq82_1 hq82_2 hq82_3 hq82_4; omega
    | succ n82 ih82 =>
      intro P82 v82_2 hm82 I82 X82 W82 hv82_1 hv82_2 hq82_0 hq82_1 hq82_2 hq82_3 hq82_4
      have h29288 := X82.at ha0
      obtain ⟨b29289, e29290, h29291⟩ := I82.fld (h29288) 10 13 2 rfl
      have hq82_3 := hq82_3 b29289 e29290
      obtain ⟨b29292, e29293, h29294⟩ := I82.fld (h29288) 14 13 3 rfl
      have hq82_4 := hq82_4 b29292 e29293
      refine g_iload_n C dX12_draw_82 rfl 2 rfl ?_
      refine g_bipush (v := 21) C dX12_draw_83 (by decide) ?_
      refine b_icmp_ge C 114 dX12_draw_85 (by decide) (fun h29295 => ?_) (fun h29295 => ?_)
      · have h29295 : 21 ≤ v82_2.toInt := h29295
        refine g_aload_n C dX12_draw_114 rfl 0 rfl ?_
        obtain ⟨b29296, e29297, h29298⟩ := I82.fld (h29288) 13 13 3 rfl
        refine g_getR C fi_X12_54 rfl e29297 (h29288).1 (h29288).2 dX12_draw_115 ?_
        refine g_iload_n C dX12_draw_118 rfl 1 rfl ?_
        refine g_aload_n C dX12_draw_119 rfl 0 rfl ?_
        refine g_getR C fi_X12_54 rfl e29297 (h29288).1 (h29288).2 dX12_draw_120 ?_
        refine g_iconst (v := 2) C dX12_draw_123 (by decide) ?_
        refine g_iald (j := 2) C h29298.1 h29298.2.1 (IX.litn (j := 2) h29298.2.2 rfl (by decide) (by decide)) dX12_draw_124 ?_
        refine g_iast (j := (a1.toInt.toNat)) C h29298.1 h29298.2.1 (ix_in h29298.2.2 (by omega)) dX12_draw_125 ?_
        refine gqW (ks := [13]) (I82.setA e29297 h29298 (by decide) (arOk.none rfl)) (EM.setA I82 e29297 rfl (by decide)) (fun Y29299 Iy29300 Xy29301 w29302  => ?_)
        have w29302 : (pI Y29299 b29296 (a1.toInt.toNat)).toInt = (pI P82 b29296 2).toInt := w29302
        have q29303 := Xy29301.keepF 0 (by decide)
        have q29304 := Xy29301.keepF 18 (by decide)
        have q29305 := Xy29301.keepF 8 (by decide)
        have q29306 := Xy29301.keepA e29290 (by decide) rfl (a1.toInt.toNat)
        have q29307 := Xy29301.keepA e29293 (by decide) rfl 2
        have W29308 := W82.keep I82 Xy29301 (by decide) (by decide) (by decide)
        have Xz29309 : EM [0, 2, 3, 4, 5, 7, 8, 12, 13, 14, 15, 16, 17, 18, 26] a0 P Y29299 := EM.tr ha0 X82 (Xy29301.mono (by decide))
        have e29310 := Xy29301.ref h29288 (by decide) e29290
        have e29311 := Xy29301.ref h29288 (by decide) e29293
        have e29312 := Xy29301.ref h29288 (by decide) e29297
        have h29313 := Xy29301.at h29288
        have h29314 := Xy29301.ar h29291
        have h29315 := Xy29301.ar h29294
        have h29316 := Xy29301.ar h29298
        refine g_aload_n C dX12_draw_126 rfl 0 rfl ?_
        refine g_getR C fi_X12_57 rfl e29311 (h29313).1 (h29313).2 dX12_draw_127 ?_
        refine g_iload_n C dX12_draw_130 rfl 1 rfl ?_
        refine g_aload_n C dX12_draw_131 rfl 0 rfl ?_
        refine g_getR C fi_X12_57 rfl e29311 (h29313).1 (h29313).2 dX12_draw_132 ?_
        refine g_iconst (v := 2) C dX12_draw_135 (by decide) ?_
        refine g_iald (j := 2) C h29315.1 h29315.2.1 (IX.litn (j := 2) h29315.2.2 rfl (by decide) (by decide)) dX12_draw_136 ?_
        refine g_iast (j := (a1.toInt.toNat)) C h29315.1 h29315.2.1 (ix_in h29315.2.2 (by omega)) dX12_draw_137 ?_
        refine gqX (ks := [14]) (W := (fun P => MW P a0)) (Iy29300.setA e29311 h29315 (by decide) (arOk.of rfl (by omega))) (EM.setA Iy29300 e29311 rfl (by decide)) (W29308.set14 Iy29300 e29311 (by first | exact Or.inl (by omega) | exact Or.inr (by omega))) (fun Y29317 Iy29318 Xy29319 w29320 W29321 => ?_)
        have w29320 : (pI Y29317 b29292 (a1.toInt.toNat)).toInt = (pI Y29299 b29292 2).toInt := w29320
        have q29322 := Xy29319.keepF 0 (by decide)
        have q29323 := Xy29319.keepF 18 (by decide)
        have q29324 := Xy29319.keepF 8 (by decide)
        have q29325 := Xy29319.keepA e29310 (by decide) rfl (a1.toInt.toNat)
        have q29326 := Xy29319.keepA e29312 (by decide) rfl (a1.toInt.toNat)
        have Xz29327 : EM [0, 2, 3, 4, 5, 7, 8, 12, 13, 14, 15, 16, 17, 18, 26] a0 P Y29317 := EM.tr ha0 Xz29309 (Xy29319.mono (by decide))
        have e29328 := Xy29319.ref h29313 (by decide) e29310
        have e29329 := Xy29319.ref h29313 (by decide) e29311
        have e29330 := Xy29319.ref h29313 (by decide) e29312
        have h29331 := Xy29319.at h29313
        have h29332 := Xy29319.ar h29314
        have h29333 := Xy29319.ar h29315
        have h29334 := Xy29319.ar h29316
        refine g_aload_n C dX12_draw_138 rfl 0 rfl ?_
        obtain ⟨b29335, e29336, h29337⟩ := Iy29318.fld (h29331) 15 13 3 rfl
        refine g_getR C fi_X12_60 rfl e29336 (h29331).1 (h29331).2 dX12_draw_139 ?_
        refine g_iload_n C dX12_draw_142 rfl 1 rfl ?_
        refine g_aload_n C dX12_draw_143 rfl 0 rfl ?_
        refine g_getR C fi_X12_60 rfl e29336 (h29331).1 (h29331).2 dX12_draw_144 ?_
        refine g_iconst (v := 2) C dX12_draw_147 (by decide) ?_
        refine g_iald (j := 2) C h29337.1 h29337.2.1 (IX.litn (j := 2) h29337.2.2 rfl (by decide) (by decide)) dX12_draw_148 ?_
        have h29338 := Iy29318.arr e29336 rfl 2
        refine g_iast (j := (a1.toInt.toNat)) C h29337.1 h29337.2.1 (ix_in h29337.2.2 (by omega)) dX12_draw_149 ?_
        refine gqW (ks := [15]) (Iy29318.setA e29336 h29337 (by decide) (arOk.of rfl (by omega))) (EM.setA Iy29318 e29336 rfl (by decide)) (fun Y29339 Iy29340 Xy29341 w29342  => ?_)
        have w29342 : (pI Y29339 b29335 (a1.toInt.toNat)).toInt = (pI Y29317 b29335 2).toInt := w29342
        have q29343 := Xy29341.keepF 0 (by decide)
        have q29344 := Xy29341.keepF 18 (by decide)
        have q29345 := Xy29341.keepF 8 (by decide)
        have q29346 := Xy29341.keepA e29328 (by decide) rfl (a1.toInt.toNat)
        have q29347 := Xy29341.keepA e29330 (by decide) rfl (a1.toInt.toNat)
        have q29348 := Xy29341.keepA e29329 (by decide) rfl (a1.toInt.toNat)
        have W29349 := W29321.keep Iy29318 Xy29341 (by decide) (by decide) (by decide)
        have Xz29350 : EM [0, 2, 3, 4, 5, 7, 8, 12, 13, 14, 15, 16, 17, 18, 26] a0 P Y29339 := EM.tr ha0 Xz29327 (Xy29341.mono (by decide))
        have e29351 := Xy29341.ref h29331 (by decide) e29328
        have e29352 := Xy29341.ref h29331 (by decide) e29329
        have e29353 := Xy29341.ref h29331 (by decide) e29330
        have e29354 := Xy29341.ref h29331 (by decide) e29336
        have h29355 := Xy29341.at h29331
        have h29356 := Xy29341.ar h29332
        have h29357 := Xy29341.ar h29333
        have h29358 := Xy29341.ar h29334
        have h29359 := Xy29341.ar h29337
        refine g_iconst (v := 0) C dX12_draw_150 (by decide) ?_
        refine g_istore_n (lv' := [(2, .int 0), (0, .ref a0), (1, .int a1)]) C dX12_draw_151 rfl (by decide) rfl ?_
        refine g_lv (lv' := [(0, .ref a0), (1, .int a1), (2, .int 0)]) [1, 2, 0] rfl ?_
        exact J152 _ Y29339 0 (Nat.lt_succ_self _) Iy29340 Xz29350 W29349 (by omega) (by decide) (by omega) (by omega) (by omega) (fun b9 e9 => by rw [e29351] at e9; cases e9; omega) (fun b9 e9 => by rw [e29352] at e9; cases e9; omega)
      · have h29295 : v82_2.toInt < 21 := h29295
        refine g_aload_n C dX12_draw_88 rfl 0 rfl ?_
        obtain ⟨b29360, e29361, h29362⟩ := I82.fld (h29288) 12 13 63 rfl
        refine g_getR C fi_X12_51 rfl e29361 (h29288).1 (h29288).2 dX12_draw_89 ?_
        refine g_bipush (v := 21) C dX12_draw_92 (by decide) ?_
        refine g_iload_n C dX12_draw_94 rfl 1 rfl ?_
        refine s_imul C dX12_draw_95 (by show -2147483648 ≤ 21 * a1.toInt ∧ 21 * a1.toInt ≤ 2147483647; omega) (fun z29363 h29364 => ?_)
        have h29364 : z29363.toInt = 21 * a1.toInt := h29364
        refine g_iload_n C dX12_draw_96 rfl 2 rfl ?_
        refine s_iadd C dX12_draw_97 (by show -2147483648 ≤ z29363.toInt + v82_2.toInt ∧ z29363.toInt + v82_2.toInt ≤ 2147483647; omega) (fun z29365 h29366 => ?_)
        have h29366 : z29365.toInt = z29363.toInt + v82_2.toInt := h29366
        refine g_aload_n C dX12_draw_98 rfl 0 rfl ?_
        refine g_getR C fi_X12_51 rfl e29361 (h29288).1 (h29288).2 dX12_draw_99 ?_
        refine g_bipush (v := 42) C dX12_draw_102 (by decide) ?_
        refine g_iload_n C dX12_draw_104 rfl 2 rfl ?_
        refine s_iadd C dX12_draw_105 (by show -2147483648 ≤ 42 + v82_2.toInt ∧ 42 + v82_2.toInt ≤ 2147483647; omega) (fun z29367 h29368 => ?_)
        have h29368 : z29367.toInt = 42 + v82_2.toInt := h29368
        refine g_iald (j := (z29367.toInt.toNat)) C h29362.1 h29362.2.1 (ix_in h29362.2.2 (by omega)) dX12_draw_106 ?_
        have h29369 := I82.arr e29361 rfl (z29367.toInt.toNat)
        refine g_iast (j := (z29365.toInt.toNat)) C h29362.1 h29362.2.1 (ix_in h29362.2.2 (by omega)) dX12_draw_107 ?_
        refine gqW (ks := [12]) (I82.setA e29361 h29362 (by decide) (arOk.of rfl (by omega))) (EM.setA I82 e29361 rfl (by decide)) (fun Y29370 Iy29371 Xy29372 w29373  => ?_)
        have w29373 : (pI Y29370 b29360 (z29365.toInt.toNat)).toInt = (pI P82 b29360 (z29367.toInt.toNat)).toInt := w29373
        have q29374 := Xy29372.keepF 0 (by decide)
        have q29375 := Xy29372.keepF 18 (by decide)
        have q29376 := Xy29372.keepF 8 (by decide)
        have q29377 := Xy29372.keepA e29290 (by decide) rfl (a1.toInt.toNat)
        have q29378 := Xy29372.keepA e29293 (by decide) rfl 2
        have W29379 := W82.keep I82 Xy29372 (by decide) (by decide) (by decide)
        have Xz29380 : EM [0, 2, 3, 4, 5, 7, 8, 12, 13, 14, 15, 16, 17, 18, 26] a0 P Y29370 := EM.tr ha0 X82 (Xy29372.mono (by decide))
        have e29381 := Xy29372.ref h29288 (by decide) e29290
        have e29382 := Xy29372.ref h29288 (by decide) e29293
        have e29383 := Xy29372.ref h29288 (by decide) e29361
        have h29384 := Xy29372.at h29288
        have h29385 := Xy29372.ar h29291
        have h29386 := Xy29372.ar h29294
        have h29387 := Xy29372.ar h29362
        refine s_iinc (lv0 := [(0, .ref a0), (1, .int a1)]) (m := 1) C dX12_draw_108 2 rfl (by decide) rfl (by decide) (by omega) (fun z29388 h29389 => ?_)
        have h29389 : z29388.toInt = v82_2.toInt + 1 := h29389
        refine g_goto C 82 dX12_draw_111 (by decide) ?_
        refine g_lv (lv' := [(0, .ref a0), (1, .int a1), (2, .int z29388)]) [1, 2, 0] rfl ?_
        exact ih82 Y29370 z29388 (by omega) Iy29371 Xz29380 W29379 (by omega) (by omega) (by omega) (by omega) (by omega) (fun b9 e9 => by rw [e29381] at e9; cases e9; omega) (fun b9 e9 => by rw [e29382] at e9; cases e9; omega)
  have J73 : ∀ (P73 : PP), (IM P73 a0) → (EM [0, 2, 3, 4, 5, 7, 8, 12, 13, 14, 15, 16, 17, 18, 26] a0 P P73) → (MW P73 a0) → (0 ≤ a1.toInt ∧ a1.toInt ≤ 1) → (0 ≤ (pI P73 a0 0).toInt ∧ (pI P73 a0 0).toInt ≤ 0) → (1 ≤ (pI P73 a0 18).toInt ∧ (pI P73 a0 18).toInt ≤ 16) → (0 ≤ (pI P73 a0 8).toInt ∧ (pI P73 a0 8).toInt ≤ 16005) → (∀ b, pR P73 a0 10 = some b → 1 ≤ (pI P73 b (a1.toInt.toNat)).toInt ∧ (pI P73 b (a1.toInt.toNat)).toInt ≤ 16) → (∀ b914, pR P73 a0 14 = some b914 → 1 ≤ (pI P73 a0 8).toInt ∨ 1 ≤ (pI P73 b914 2).toInt) → G E ({ frames := 5, cells := 0, slots := 0, locals := 320 } : Room) D cy 3 P73 0 0 73 [(0, .ref a0), (1, .int a1)] [] := by
    intro P73 I73 X73 W73 hv73_1 hq73_0 hq73_1 hq73_2 hq73_3 rel73_0
    have h29390 := X73.at ha0
    obtain ⟨b29391, e29392, h29393⟩ := I73.fld (h29390) 10 13 2 rfl
    have hq73_3 := hq73_3 b29391 e29392
    obtain ⟨b29394, e29395, h29396⟩ := I73.fld (h29390) 14 13 3 rfl
    have rel73_0 := rel73_0 b29394 e29395
    have h29397 := I73.arr e29395 rfl 2
    have h29398 := I73.rg h29390 7 rfl
    refine g_aload_n C dX12_draw_73 rfl 0 rfl ?_
    refine g_getI C fi_X12_162 (by decide) (h29390).1 (h29390).2 dX12_draw_74 ?_
    refine b_if_ne C 198 dX12_draw_77 (by decide) (fun h29399 => ?_) (fun h29399 => ?_)
    · have h29399 : (pI P73 a0 8).toInt ≠ 0 := ti_ne h29399
      refine g_lv (lv' := [(0, .ref a0)]) [0] rfl ?_
      exact J198 P73 I73 X73 W73 (by omega) (by omega) (by omega) (fun b9 e9 => by rw [e29392] at e9; cases e9; omega)
    · have h29399 : (pI P73 a0 8).toInt = 0 := congrArg Int32.toInt h29399
      refine g_iconst (v := 0) C dX12_draw_80 (by decide) ?_
      refine g_istore_n (lv' := [(2, .int 0), (0, .ref a0), (1, .int a1)]) C dX12_draw_81 rfl (by decide) rfl ?_
      refine g_lv (lv' := [(0, .ref a0), (1, .int a1), (2, .int 0)]) [1, 2, 0] rfl ?_
      exact J82 _ P73 0 (Nat.lt_succ_self _) I73 X73 W73 (by omega) (by decide) (by omega) (by omega) (by omega) (fun b9 e9 => by rw [e29392] at e9; cases e9; omega) (fun b9 e9 => by rw [e29395] at e9; cases e9; omega)
  have J47 : ∀ (n47 : Nat) (P47 : PP), (2 * (1000 - (pI P47 a0 7).toInt) + 1 - min 1 (pI P47 a0 8).toInt).toNat < n47 → (IM P47 a0) → (EM [0, 2, 3, 4, 5, 7, 8, 12, 13, 14, 15, 16, 17, 18, 26] a0 P P47) → (MW P47 a0) → (0 ≤ a1.toInt ∧ a1.toInt ≤ 1) → (0 ≤ (pI P47 a0 0).toInt ∧ (pI P47 a0 0).toInt ≤ 0) → (1 ≤ (pI P47 a0 18).toInt ∧ (pI P47 a0 18).toInt ≤ 16) → (∀ b, pR P47 a0 10 = some b → 1 ≤ (pI P47 b (a1.toInt.toNat)).toInt ∧ (pI P47 b (a1.toInt.toNat)).toInt ≤ 16) → (∀ b914, pR P47 a0 14 = some b914 → 1 ≤ (pI P47 a0 8).toInt ∨ 1 ≤ (pI P47 b914 2).toInt) → G E ({ frames := 5, cells := 0, slots := 0, locals := 320 } : Room) D cy 3 P47 0 0 47 [(0, .ref a0), (1, .int a1)] [] := by
    intro n47
    induction n47 with
    | zero => intro P47 hm47 I47 X47 W47 hv47_1 hq47_0 hq47_1 hq47_2 rel47_0; omega
    | succ n47 ih47 =>
      intro P47 hm47 I47 X47 W47 hv47_1 hq47_0 hq47_1 hq47_2 rel47_0
      have h29400 := X47.at ha0
      obtain ⟨b29401, e29402, h29403⟩ := I47.fld (h29400) 10 13 2 rfl
      have hq47_2 := hq47_2 b29401 e29402
      have h29404 := I47.rg h29400 8 rfl
      obtain ⟨b29405, e29406, h29407⟩ := I47.fld (h29400) 14 13 3 rfl
      have rel47_0 := rel47_0 b29405 e29406
      have h29408 := I47.arr e29406 rfl 2
      have h29409 := I47.rg h29400 7 rfl
      refine g_aload_n C dX12_draw_47 rfl 0 rfl ?_
      refine g_getI C fi_X12_162 (by decide) (h29400).1 (h29400).2 dX12_draw_48 ?_
      refine b_if_ne C 73 dX12_draw_51 (by decide) (fun h29410 => ?_) (fun h29410 => ?_)
      · have h29410 : (pI P47 a0 8).toInt ≠ 0 := ti_ne h29410
        exact J73 P47 I47 X47 W47 (by omega) (by omega) (by omega) (by omega) (fun b9 e9 => by rw [e29402] at e9; cases e9; omega) (by intro b914 e914; rw [e29406] at e914; cases e914; show 1 ≤ (pI P47 a0 8).toInt ∨ 1 ≤ (pI P47 b29405 2).toInt; omega)
      · have h29410 : (pI P47 a0 8).toInt = 0 := congrArg Int32.toInt h29410
        refine g_aload_n C dX12_draw_54 rfl 0 rfl ?_
        obtain ⟨b29411, e29412, h29413⟩ := I47.fld (h29400) 4 13 1002 rfl
        refine g_getR C fi_X12_24 rfl e29412 (h29400).1 (h29400).2 dX12_draw_55 ?_
        refine g_aload_n C dX12_draw_58 rfl 0 rfl ?_
        refine g_getI C fi_X12_159 (by decide) (h29400).1 (h29400).2 dX12_draw_59 ?_
        refine g_iald (j := ((pI P47 a0 7).toInt.toNat)) C h29413.1 h29413.2.1 (ix_in h29413.2.2 (by omega)) dX12_draw_62 ?_
        have h29414 := I47.arr e29412 rfl ((pI P47 a0 7).toInt.toNat)
        refine b_if_eq C 73 dX12_draw_63 (by decide) (fun h29415 => ?_) (fun h29415 => ?_)
        · have h29415 : (pI P47 b29411 ((pI P47 a0 7).toInt.toNat)).toInt = 0 := congrArg Int32.toInt h29415
          exact J73 P47 I47 X47 W47 (by omega) (by omega) (by omega) (by omega) (fun b9 e9 => by rw [e29402] at e9; cases e9; omega) (by intro b914 e914; rw [e29406] at e914; cases e914; show 1 ≤ (pI P47 a0 8).toInt ∨ 1 ≤ (pI P47 b29405 2).toInt; omega)
        · have h29415 : (pI P47 b29411 ((pI P47 a0 7).toInt.toNat)).toInt ≠ 0 := ti_ne h29415
          refine g_aload_n C dX12_draw_66 rfl 0 rfl ?_
          refine g_callVV (rest := []) C mv_X12_205 [] (s_X12_readLine I47 (fun b9 e9 => by rw [e29406] at e9; cases e9; show 1 ≤ (pI P47 b29405 2).toInt ∧ (pI P47 b29405 2).toInt ≤ 9; omega) W47) (h29400).1 (h29400).2 rfl rfl (by decide) (Nat.le_of_ble_eq_true rfl) (by decide) dX12_draw_67 (fun Y29417 h29418 => ?_)
          obtain ⟨Iy29419, Xy29420, W29421, p29422, p29423, p29424, p29425⟩ := h29418
          have p29422 : 1 ≤ (pI Y29417 a0 8).toInt ∨ (pI P47 a0 7).toInt < (pI Y29417 a0 7).toInt := p29422
          have p29423 : (pI P47 a0 7).toInt ≤ (pI Y29417 a0 7).toInt := p29423
          have p29424 : (pI P47 a0 8).toInt ≤ (pI Y29417 a0 8).toInt := p29424
          have q29426 := Xy29420.keepF 0 (by decide)
          have q29427 := Xy29420.keepF 18 (by decide)
          have q29428 := Xy29420.keepA e29402 (by decide) rfl (a1.toInt.toNat)
          have Xz29429 : EM [0, 2, 3, 4, 5, 7, 8, 12, 13, 14, 15, 16, 17, 18, 26] a0 P Y29417 := EM.tr ha0 X47 (Xy29420.mono (by decide))
          have e29430 := Xy29420.ref h29400 (by decide) e29402
          have h29431 := Xy29420.at h29400
          have h29432 := Xy29420.ar h29403
          obtain ⟨b29433, e29434, h29435⟩ := Iy29419.fld (h29431) 14 13 3 rfl
          have p29425 : 1 ≤ (pI Y29417 a0 8).toInt ∨ 1 ≤ (pI Y29417 b29433 2).toInt := p29425 b29433 e29434
          have h29436 := Iy29419.arr e29434 rfl 2
          have h29437 := Iy29419.rg h29431 7 rfl
          have h29438 := Iy29419.rg h29431 8 rfl
          have h29439 := Iy29419.rg h29431 7 rfl
          have h29440 := Iy29419.rg h29431 8 rfl
          have h29441 := Iy29419.rg h29431 7 rfl
          have h29442 := Iy29419.rg h29431 8 rfl
          have h29443 := Iy29419.rg h29431 7 rfl
          have h29444 := Iy29419.rg h29431 8 rfl
          refine g_goto C 47 dX12_draw_70 (by decide) ?_
          exact ih47 Y29417 (by omega) Iy29419 Xz29429 W29421 (by omega) (by omega) (by omega) (fun b9 e9 => by rw [e29430] at e9; cases e9; omega) (by intro b914 e914; rw [e29434] at e914; cases e914; show 1 ≤ (pI Y29417 a0 8).toInt ∨ 1 ≤ (pI Y29417 b29433 2).toInt; omega)
  have J21 : ∀ (P21 : PP), (IM P21 a0) → (EM [0, 2, 3, 4, 5, 7, 8, 12, 13, 14, 15, 16, 17, 18, 26] a0 P P21) → (MW P21 a0) → (0 ≤ (pI P21 a0 0).toInt ∧ (pI P21 a0 0).toInt ≤ 0) → G E ({ frames := 5, cells := 0, slots := 0, locals := 320 } : Room) D cy 3 P21 0 0 21 [(0, .ref a0)] [] := by
    intro P21 I21 X21 W21 hq21_0
    have h29445 := X21.at ha0
    refine g_aload_n C dX12_draw_21 rfl 0 rfl ?_
    refine g_iconst (v := 0) C dX12_draw_22 (by decide) ?_
    refine g_putI C fi_X12_11 rfl (h29445).1 (h29445).2 dX12_draw_23 ?_
    refine gqW (ks := [2]) (I21.setI (rgOk.of rfl (by decide))) (EM.setI I21 (by decide)) (fun Y29446 Iy29447 Xy29448 w29449  => ?_)
    have w29449 : (pI Y29446 a0 2).toInt = 0 := w29449
    have q29450 := Xy29448.keepF 0 (by decide)
    have W29451 := W21.keep I21 Xy29448 (by decide) (by decide) (by decide)
    have Xz29452 : EM [0, 2, 3, 4, 5, 7, 8, 12, 13, 14, 15, 16, 17, 18, 26] a0 P Y29446 := EM.tr ha0 X21 (Xy29448.mono (by decide))
    have h29453 := Xy29448.at h29445
    refine g_iconst (v := (-1)) C dX12_draw_26 (by decide) ?_
    exact ret _ _ _ _ _ _ dX12_draw_27 rfl (by decide) (by decide) ⟨Iy29447, Xz29452, W29451, (by decide)⟩
  refine g_aload_n C dX12_draw_0 rfl 0 rfl ?_
  refine g_iconst (v := 0) C dX12_draw_1 (by decide) ?_
  refine g_putI C fi_X12_1 rfl (ha0).1 (ha0).2 dX12_draw_2 ?_
  refine gqW (ks := [0]) (I.setI (rgOk.of rfl (by decide))) (EM.setI I (by decide)) (fun Y29454 Iy29455 Xy29456 w29457  => ?_)
  have w29457 : (pI Y29454 a0 0).toInt = 0 := w29457
  have W29458 := hW.keep I Xy29456 (by decide) (by decide) (by decide)
  have Xz29459 : EM [0, 2, 3, 4, 5, 7, 8, 12, 13, 14, 15, 16, 17, 18, 26] a0 P Y29454 := Xy29456.mono (by decide)
  have h29460 := Xy29456.at ha0
  refine g_aload_n C dX12_draw_5 rfl 0 rfl ?_
  refine g_iload_n C dX12_draw_6 rfl 1 rfl ?_
  refine g_callVI (rest := []) C mv_X12_192 [.int a1] (s_X12_isBook Iy29455 W29458) (h29460).1 (h29460).2 rfl rfl (by decide) (Nat.le_of_ble_eq_true rfl) (by decide) dX12_draw_7 (fun r29461 Y29462 h29463 => ?_)
  obtain ⟨rfl, h29463⟩ := h29463
  obtain ⟨h29463, hi29464, hi29465⟩ := h29463
  have hi29464 : r29461.toInt = 0 ∨ (((0 : Int) ≤ a1.toInt ∧ a1.toInt ≤ (1 : Int))) := hi29464
  have h29463 : 0 ≤ r29461.toInt ∧ r29461.toInt ≤ 1 := h29463
  refine b_if_eq C 21 dX12_draw_10 (by decide) (fun h29466 => ?_) (fun h29466 => ?_)
  · have h29466 : r29461.toInt = 0 := congrArg Int32.toInt h29466
    clear hi29464
    refine g_lv (lv' := [(0, .ref a0)]) [0] rfl ?_
    exact J21 Y29454 Iy29455 Xz29459 W29458 (by omega)
  · have h29466 : r29461.toInt ≠ 0 := ti_ne h29466
    replace hi29464 := hi29464.resolve_left (by omega)
    obtain ⟨b29467, e29468, h29469⟩ := Iy29455.fld (h29460) 10 13 2 rfl
    have hi29465 := (hi29465.resolve_left (by omega)) b29467 e29468
    have hi29465 : 0 < (pI Y29454 b29467 (a1.toInt.toNat)).toInt := hi29465
    have h29470 := Iy29455.arr e29468 rfl (a1.toInt.toNat)
    refine g_aload_n C dX12_draw_13 rfl 0 rfl ?_
    refine g_iload_n C dX12_draw_14 rfl 1 rfl ?_
    refine g_callVI (rest := []) C mv_X12_196 [.int a1] (s_X12_isOut Iy29455 W29458) (h29460).1 (h29460).2 rfl rfl (by decide) (Nat.le_of_ble_eq_true rfl) (by decide) dX12_draw_15 (fun r29471 Y29472 h29473 => ?_)
    obtain ⟨rfl, h29473⟩ := h29473
    have h29473 : 0 ≤ r29471.toInt ∧ r29471.toInt ≤ 1 := h29473
    refine b_if_eq C 28 dX12_draw_18 (by decide) (fun h29474 => ?_) (fun h29474 => ?_)
    · have h29474 : r29471.toInt = 0 := congrArg Int32.toInt h29474
      refine g_aload_n C dX12_draw_28 rfl 0 rfl ?_
      refine g_callVV (rest := []) C mv_X12_199 [] (s_X12_cutAll Iy29455 W29458) (h29460).1 (h29460).2 rfl rfl (by decide) (Nat.le_of_ble_eq_true rfl) (by decide) dX12_draw_29 (fun Y29476 h29477 => ?_)
      obtain ⟨Iy29478, Xy29479, W29480⟩ := h29477
      have q29481 := Xy29479.keepF 0 (by decide)
      have q29482 := Xy29479.keepA e29468 (by decide) rfl (a1.toInt.toNat)
      have Xz29483 : EM [0, 2, 3, 4, 5, 7, 8, 12, 13, 14, 15, 16, 17, 18, 26] a0 P Y29476 := EM.tr ha0 Xz29459 (Xy29479.mono (by decide))
      have e29484 := Xy29479.ref h29460 (by decide) e29468
      have h29485 := Xy29479.at h29460
      have h29486 := Xy29479.ar h29469
      refine g_aload_n C dX12_draw_32 rfl 0 rfl ?_
      refine g_iconst (v := 2) C dX12_draw_33 (by decide) ?_
      refine g_callVV (rest := []) C mv_X12_182 [.int 2] (s_X12_forgetsDraw Iy29478 (by decide) W29480) (h29485).1 (h29485).2 rfl rfl (by decide) (Nat.le_of_ble_eq_true rfl) (by decide) dX12_draw_34 (fun Y29488 h29489 => ?_)
      obtain ⟨Iy29490, Xy29491, W29492, p29493⟩ := h29489
      obtain ⟨b29494, e29495, h29496⟩ := Iy29478.fld (h29485) 14 13 3 rfl
      have p29493 := p29493 b29494 e29495
      have p29493 : (pI Y29488 b29494 2).toInt = 1 := p29493
      have h29497 := Iy29478.arr e29495 rfl 2
      have q29498 := Xy29491.keepF 0 (by decide)
      have q29499 := Xy29491.keepA e29484 (by decide) rfl (a1.toInt.toNat)
      have Xz29500 : EM [0, 2, 3, 4, 5, 7, 8, 12, 13, 14, 15, 16, 17, 18, 26] a0 P Y29488 := EM.tr ha0 Xz29483 (Xy29491.mono (by decide))
      have e29501 := Xy29491.ref h29485 (by decide) e29484
      have e29502 := Xy29491.ref h29485 (by decide) e29495
      have h29503 := Xy29491.at h29485
      have h29504 := Xy29491.ar h29486
      have h29505 := Xy29491.ar h29496
      refine g_aload_n C dX12_draw_37 rfl 0 rfl ?_
      refine g_aload_n C dX12_draw_38 rfl 0 rfl ?_
      refine g_getR C fi_X12_45 rfl e29501 (h29503).1 (h29503).2 dX12_draw_39 ?_
      refine g_iload_n C dX12_draw_42 rfl 1 rfl ?_
      refine g_iald (j := (a1.toInt.toNat)) C h29504.1 h29504.2.1 (ix_in h29504.2.2 (by omega)) dX12_draw_43 ?_
      refine g_putI C fi_X12_202 rfl (h29503).1 (h29503).2 dX12_draw_44 ?_
      refine gqW (ks := [18]) (Iy29490.setI (rgOk.of rfl (by omega))) (EM.setI Iy29490 (by decide)) (fun Y29506 Iy29507 Xy29508 w29509  => ?_)
      have w29509 : (pI Y29506 a0 18).toInt = (pI Y29488 b29467 (a1.toInt.toNat)).toInt := w29509
      have q29510 := Xy29508.keepA e29502 (by decide) rfl 2
      have q29511 := Xy29508.keepF 0 (by decide)
      have q29512 := Xy29508.keepA e29501 (by decide) rfl (a1.toInt.toNat)
      have W29513 := W29492.keep Iy29490 Xy29508 (by decide) (by decide) (by decide)
      have Xz29514 : EM [0, 2, 3, 4, 5, 7, 8, 12, 13, 14, 15, 16, 17, 18, 26] a0 P Y29506 := EM.tr ha0 Xz29500 (Xy29508.mono (by decide))
      have e29515 := Xy29508.ref h29503 (by decide) e29501
      have e29516 := Xy29508.ref h29503 (by decide) e29502
      have h29517 := Xy29508.at h29503
      have h29518 := Xy29508.ar h29504
      have h29519 := Xy29508.ar h29505
      exact J47 _ Y29506 (Nat.lt_succ_self _) Iy29507 Xz29514 W29513 (by omega) (by omega) (by omega) (fun b9 e9 => by rw [e29515] at e9; cases e9; omega) (by intro b914 e914; rw [e29516] at e914; cases e914; show 1 ≤ (pI Y29506 a0 8).toInt ∨ 1 ≤ (pI Y29506 b29494 2).toInt; omega)
    · have h29474 : r29471.toInt ≠ 0 := ti_ne h29474
      refine g_lv (lv' := [(0, .ref a0)]) [0] rfl ?_
      exact J21 Y29454 Iy29455 Xz29459 W29458 (by omega)
theorem dX12_drawn_0 : decode cX12_drawn 0 = .ok (.aload_n 0, 1) := by decide +kernel
theorem dX12_drawn_1 : decode cX12_drawn 1 = .ok (.aload_n 0, 1) := by decide +kernel
theorem dX12_drawn_2 : decode cX12_drawn 2 = .ok (.getfield 226, 3) := by decide +kernel
theorem dX12_drawn_5 : decode cX12_drawn 5 = .ok (.ldc2_w 230, 3) := by decide +kernel
theorem dX12_drawn_8 : decode cX12_drawn 8 = .ok (.lmul, 1) := by decide +kernel
theorem dX12_drawn_9 : decode cX12_drawn 9 = .ok (.ldc2_w 232, 3) := by decide +kernel
theorem dX12_drawn_12 : decode cX12_drawn 12 = .ok (.ladd, 1) := by decide +kernel
theorem dX12_drawn_13 : decode cX12_drawn 13 = .ok (.ldc2_w 234, 3) := by decide +kernel
theorem dX12_drawn_16 : decode cX12_drawn 16 = .ok (.lrem, 1) := by decide +kernel
theorem dX12_drawn_17 : decode cX12_drawn 17 = .ok (.putfield 226, 3) := by decide +kernel
theorem dX12_drawn_20 : decode cX12_drawn 20 = .ok (.aload_n 0, 1) := by decide +kernel
theorem dX12_drawn_21 : decode cX12_drawn 21 = .ok (.getfield 226, 3) := by decide +kernel
theorem dX12_drawn_24 : decode cX12_drawn 24 = .ok (.ldc2_w 236, 3) := by decide +kernel
theorem dX12_drawn_27 : decode cX12_drawn 27 = .ok (.ldiv, 1) := by decide +kernel
theorem dX12_drawn_28 : decode cX12_drawn 28 = .ok (.l2i, 1) := by decide +kernel
theorem dX12_drawn_29 : decode cX12_drawn 29 = .ok (.ireturn, 1) := by decide +kernel
set_option maxHeartbeats 4000000 in
set_option maxRecDepth 100000 in
theorem s_X12_drawn {P : PP} {a0 : Nat} (I : IM P a0) (hW : MW P a0) : CtrI yX12_drawn cX12_drawn 1 (some Jvm.ClassFile.FieldType.int) ({ frames := 1, cells := 0, slots := 0, locals := 64 } : Room) 0 0 P [.ref a0] (fun r P2 => IM P2 a0 ∧ EM [] a0 P P2 ∧ MW P2 a0 ∧ (True)) := by
  refine enI (lv := [(0, .ref a0)]) (by decide) (Nat.le_of_ble_eq_true rfl) rfl (fun E D cy C Ci0 ret => ?_)
  have ha0 := I.2.1
  refine g_aload_n C dX12_drawn_0 rfl 0 rfl ?_
  refine g_aload_n C dX12_drawn_1 rfl 0 rfl ?_
  refine g_getJ C fi_X12_226 rfl (ha0).1 (ha0).2 dX12_drawn_2 ?_
  refine g_topl (fun l29537 _ => ?_)
  refine g_ldc2 (v := 1103515245) C kl_X12_230 dX12_drawn_5 ?_
  refine g_topl (fun l29538 el29538 => ?_)
  have hz_l29538 : ¬ l29538 = 0 := by rw [el29538]; decide
  refine a_lmul C dX12_drawn_8 (fun l29539 => ?_)
  refine g_ldc2 (v := 12345) C kl_X12_232 dX12_drawn_9 ?_
  refine g_topl (fun l29540 el29540 => ?_)
  have hz_l29540 : ¬ l29540 = 0 := by rw [el29540]; decide
  refine a_ladd C dX12_drawn_12 (fun l29541 => ?_)
  refine g_ldc2 (v := 2147483648) C kl_X12_234 dX12_drawn_13 ?_
  refine g_topl (fun l29542 el29542 => ?_)
  have hz_l29542 : ¬ l29542 = 0 := by rw [el29542]; decide
  refine a_lrem C dX12_drawn_16 hz_l29542 (fun l29543 => ?_)
  refine g_putJ C fi_X12_226 rfl (ha0).1 (ha0).2 dX12_drawn_17 ?_
  refine gq (ks := []) (I.setJ) (EM.setJ) (fun Y29544 Iy29545 Xy29546 => ?_)
  have W29547 := hW.keep I Xy29546 (by decide) (by decide) (by decide)
  have Xz29548 : EM [] a0 P Y29544 := Xy29546.mono (by decide)
  have h29549 := Xy29546.at ha0
  refine g_aload_n C dX12_drawn_20 rfl 0 rfl ?_
  refine g_getJ C fi_X12_226 rfl (h29549).1 (h29549).2 dX12_drawn_21 ?_
  refine g_topl (fun l29550 _ => ?_)
  refine g_ldc2 (v := 65536) C kl_X12_236 dX12_drawn_24 ?_
  refine g_topl (fun l29551 el29551 => ?_)
  have hz_l29551 : ¬ l29551 = 0 := by rw [el29551]; decide
  refine a_ldiv C dX12_drawn_27 hz_l29551 (fun l29552 => ?_)
  refine a_l2i C dX12_drawn_28 (fun z29553 => ?_)
  exact ret _ _ _ _ _ _ dX12_drawn_29 rfl (by decide) (by decide) ⟨Iy29545, Xz29548, W29547, trivial⟩
