theorem dX12_readLine_131 : decode cX12_readLine 131 = .ok (.aload_n 0, 1) := by decide +kernel
theorem dX12_readLine_132 : decode cX12_readLine 132 = .ok (.invokevirtual 208, 3) := by decide +kernel
theorem dX12_readLine_146 : decode cX12_readLine 146 = .ok (.aload_n 0, 1) := by decide +kernel
theorem dX12_readLine_147 : decode cX12_readLine 147 = .ok (.getfield 54, 3) := by decide +kernel
theorem dX12_readLine_150 : decode cX12_readLine 150 = .ok (.iconst 2, 1) := by decide +kernel
theorem dX12_readLine_151 : decode cX12_readLine 151 = .ok (.aload_n 0, 1) := by decide +kernel
theorem dX12_readLine_152 : decode cX12_readLine 152 = .ok (.iconst 1, 1) := by decide +kernel
theorem dX12_readLine_153 : decode cX12_readLine 153 = .ok (.bipush 16, 2) := by decide +kernel
theorem dX12_readLine_155 : decode cX12_readLine 155 = .ok (.invokevirtual 211, 3) := by decide +kernel
theorem dX12_readLine_158 : decode cX12_readLine 158 = .ok (.iastore, 1) := by decide +kernel
theorem dX12_readLine_159 : decode cX12_readLine 159 = .ok (.aload_n 0, 1) := by decide +kernel
theorem dX12_readLine_160 : decode cX12_readLine 160 = .ok (.getfield 57, 3) := by decide +kernel
theorem dX12_readLine_163 : decode cX12_readLine 163 = .ok (.iconst 2, 1) := by decide +kernel
theorem dX12_readLine_164 : decode cX12_readLine 164 = .ok (.aload_n 0, 1) := by decide +kernel
theorem dX12_readLine_165 : decode cX12_readLine 165 = .ok (.iconst 2, 1) := by decide +kernel
theorem dX12_readLine_166 : decode cX12_readLine 166 = .ok (.bipush 9, 2) := by decide +kernel
theorem dX12_readLine_168 : decode cX12_readLine 168 = .ok (.invokevirtual 211, 3) := by decide +kernel
theorem dX12_readLine_171 : decode cX12_readLine 171 = .ok (.iastore, 1) := by decide +kernel
theorem dX12_readLine_172 : decode cX12_readLine 172 = .ok (.goto 42, 3) := by decide +kernel
theorem dX12_readLine_187 : decode cX12_readLine 187 = .ok (.goto 27, 3) := by decide +kernel
theorem dX12_readOdds_0 : decode cX12_readOdds 0 = .ok (.aload_n 0, 1) := by decide +kernel
theorem dX12_readOdds_1 : decode cX12_readOdds 1 = .ok (.getfield 24, 3) := by decide +kernel
theorem dX12_readOdds_4 : decode cX12_readOdds 4 = .ok (.aload_n 0, 1) := by decide +kernel
theorem dX12_readOdds_5 : decode cX12_readOdds 5 = .ok (.getfield 159, 3) := by decide +kernel
theorem dX12_readOdds_8 : decode cX12_readOdds 8 = .ok (.iaload, 1) := by decide +kernel
theorem dX12_readOdds_9 : decode cX12_readOdds 9 = .ok (.iconst 2, 1) := by decide +kernel
theorem dX12_readOdds_10 : decode cX12_readOdds 10 = .ok (.if_icmp .ne 59, 3) := by decide +kernel
theorem dX12_readOdds_13 : decode cX12_readOdds 13 = .ok (.aload_n 0, 1) := by decide +kernel
theorem dX12_readOdds_14 : decode cX12_readOdds 14 = .ok (.getfield 30, 3) := by decide +kernel
theorem dX12_readOdds_17 : decode cX12_readOdds 17 = .ok (.aload_n 0, 1) := by decide +kernel
theorem dX12_readOdds_18 : decode cX12_readOdds 18 = .ok (.getfield 159, 3) := by decide +kernel
theorem dX12_readOdds_21 : decode cX12_readOdds 21 = .ok (.laload, 1) := by decide +kernel
theorem dX12_readOdds_22 : decode cX12_readOdds 22 = .ok (.lconst 1, 1) := by decide +kernel
theorem dX12_readOdds_23 : decode cX12_readOdds 23 = .ok (.lcmp, 1) := by decide +kernel
theorem dX12_readOdds_24 : decode cX12_readOdds 24 = .ok (.ifCond .lt 45, 3) := by decide +kernel
theorem dX12_readOdds_27 : decode cX12_readOdds 27 = .ok (.aload_n 0, 1) := by decide +kernel
theorem dX12_readOdds_28 : decode cX12_readOdds 28 = .ok (.getfield 30, 3) := by decide +kernel
theorem dX12_readOdds_31 : decode cX12_readOdds 31 = .ok (.aload_n 0, 1) := by decide +kernel
theorem dX12_readOdds_32 : decode cX12_readOdds 32 = .ok (.getfield 159, 3) := by decide +kernel
theorem dX12_readOdds_35 : decode cX12_readOdds 35 = .ok (.laload, 1) := by decide +kernel
theorem dX12_readOdds_36 : decode cX12_readOdds 36 = .ok (.ldc2_w 221, 3) := by decide +kernel
theorem dX12_readOdds_39 : decode cX12_readOdds 39 = .ok (.lcmp, 1) := by decide +kernel
theorem dX12_readOdds_40 : decode cX12_readOdds 40 = .ok (.ifCond .gt 29, 3) := by decide +kernel
theorem dX12_readOdds_43 : decode cX12_readOdds 43 = .ok (.aload_n 0, 1) := by decide +kernel
theorem dX12_readOdds_44 : decode cX12_readOdds 44 = .ok (.getfield 51, 3) := by decide +kernel
theorem dX12_readOdds_47 : decode cX12_readOdds 47 = .ok (.bipush 42, 2) := by decide +kernel
theorem dX12_readOdds_49 : decode cX12_readOdds 49 = .ok (.aload_n 0, 1) := by decide +kernel
theorem dX12_readOdds_50 : decode cX12_readOdds 50 = .ok (.getfield 30, 3) := by decide +kernel
theorem dX12_readOdds_53 : decode cX12_readOdds 53 = .ok (.aload_n 0, 1) := by decide +kernel
theorem dX12_readOdds_54 : decode cX12_readOdds 54 = .ok (.getfield 159, 3) := by decide +kernel
theorem dX12_readOdds_57 : decode cX12_readOdds 57 = .ok (.laload, 1) := by decide +kernel
theorem dX12_readOdds_58 : decode cX12_readOdds 58 = .ok (.l2i, 1) := by decide +kernel
theorem dX12_readOdds_59 : decode cX12_readOdds 59 = .ok (.iadd, 1) := by decide +kernel
theorem dX12_readOdds_60 : decode cX12_readOdds 60 = .ok (.iaload, 1) := by decide +kernel
theorem dX12_readOdds_61 : decode cX12_readOdds 61 = .ok (.ifCond .lt 8, 3) := by decide +kernel
theorem dX12_readOdds_64 : decode cX12_readOdds 64 = .ok (.aload_n 0, 1) := by decide +kernel
theorem dX12_readOdds_65 : decode cX12_readOdds 65 = .ok (.iconst 3, 1) := by decide +kernel
theorem dX12_readOdds_66 : decode cX12_readOdds 66 = .ok (.invokevirtual 168, 3) := by decide +kernel
theorem dX12_readOdds_69 : decode cX12_readOdds 69 = .ok (.aload_n 0, 1) := by decide +kernel
theorem dX12_readOdds_70 : decode cX12_readOdds 70 = .ok (.iconst 1, 1) := by decide +kernel
theorem dX12_readOdds_71 : decode cX12_readOdds 71 = .ok (.bipush 20, 2) := by decide +kernel
theorem dX12_readOdds_73 : decode cX12_readOdds 73 = .ok (.invokevirtual 211, 3) := by decide +kernel
theorem dX12_readOdds_76 : decode cX12_readOdds 76 = .ok (.istore_n 1, 1) := by decide +kernel
theorem dX12_readOdds_77 : decode cX12_readOdds 77 = .ok (.aload_n 0, 1) := by decide +kernel
theorem dX12_readOdds_78 : decode cX12_readOdds 78 = .ok (.iconst 0, 1) := by decide +kernel
theorem dX12_readOdds_79 : decode cX12_readOdds 79 = .ok (.sipush 999, 3) := by decide +kernel
theorem dX12_readOdds_82 : decode cX12_readOdds 82 = .ok (.invokevirtual 211, 3) := by decide +kernel
theorem dX12_readOdds_85 : decode cX12_readOdds 85 = .ok (.istore_n 2, 1) := by decide +kernel
theorem dX12_readOdds_86 : decode cX12_readOdds 86 = .ok (.aload_n 0, 1) := by decide +kernel
theorem dX12_readOdds_87 : decode cX12_readOdds 87 = .ok (.getfield 162, 3) := by decide +kernel
theorem dX12_readOdds_90 : decode cX12_readOdds 90 = .ok (.ifCond .ne 13, 3) := by decide +kernel
theorem dX12_readOdds_93 : decode cX12_readOdds 93 = .ok (.aload_n 0, 1) := by decide +kernel
theorem dX12_readOdds_94 : decode cX12_readOdds 94 = .ok (.getfield 51, 3) := by decide +kernel
theorem dX12_readOdds_97 : decode cX12_readOdds 97 = .ok (.bipush 42, 2) := by decide +kernel
theorem dX12_readOdds_99 : decode cX12_readOdds 99 = .ok (.iload_n 1, 1) := by decide +kernel
theorem dX12_readOdds_100 : decode cX12_readOdds 100 = .ok (.iadd, 1) := by decide +kernel
theorem dX12_readOdds_101 : decode cX12_readOdds 101 = .ok (.iload_n 2, 1) := by decide +kernel
theorem dX12_readOdds_102 : decode cX12_readOdds 102 = .ok (.iastore, 1) := by decide +kernel
theorem dX12_readOdds_103 : decode cX12_readOdds 103 = .ok (.return_, 1) := by decide +kernel
set_option maxHeartbeats 4000000 in
set_option maxRecDepth 100000 in
theorem s_X12_readOdds {P : PP} {a0 : Nat} (I : IM P a0) (hW : MW P a0) : CtrV yX12_readOdds cX12_readOdds 3 none ({ frames := 3, cells := 0, slots := 0, locals := 192 } : Room) 0 0 P [.ref a0] (fun P2 => IM P2 a0 ∧ EM [7, 8, 12] a0 P P2 ∧ MW P2 a0 ∧ ((pI P a0 7).toInt ≤ (pI P2 a0 7).toInt) ∧ ((pI P a0 8).toInt ≤ (pI P2 a0 8).toInt)) := by
  refine enV (lv := [(0, .ref a0)]) (by decide) (Nat.le_of_ble_eq_true rfl) rfl (fun E D cy C Ci0 ret => ?_)
  have ha0 := I.2.1
  have h76975 := I.rg ha0 7 rfl
  have h76976 := I.rg ha0 8 rfl
  refine g_aload_n C dX12_readOdds_0 rfl 0 rfl ?_
  obtain ⟨b76977, e76978, h76979⟩ := I.fld (ha0) 4 13 1002 rfl
  refine g_getR C fi_X12_24 rfl e76978 (ha0).1 (ha0).2 dX12_readOdds_1 ?_
  refine g_aload_n C dX12_readOdds_4 rfl 0 rfl ?_
  refine g_getI C fi_X12_159 (by decide) (ha0).1 (ha0).2 dX12_readOdds_5 ?_
  refine g_iald (j := ((pI P a0 7).toInt.toNat)) C h76979.1 h76979.2.1 (ix_in h76979.2.2 (by omega)) dX12_readOdds_8 ?_
  have h76980 := I.arr e76978 rfl ((pI P a0 7).toInt.toNat)
  refine g_iconst (v := 2) C dX12_readOdds_9 (by decide) ?_
  refine b_icmp_ne C 69 dX12_readOdds_10 (by decide) (fun h76981 => ?_) (fun h76981 => ?_)
  · have h76981 : (pI P b76977 ((pI P a0 7).toInt.toNat)).toInt ≠ 2 := ti_ne h76981
    refine g_aload_n C dX12_readOdds_69 rfl 0 rfl ?_
    refine g_iconst (v := 1) C dX12_readOdds_70 (by decide) ?_
    refine g_bipush (v := 20) C dX12_readOdds_71 (by decide) ?_
    refine g_callVI (rest := []) C mv_X12_211 [.int 1, .int 20] (s_X12_takeNumber I (by decide) (by decide) hW) (ha0).1 (ha0).2 rfl rfl (by decide) (Nat.le_of_ble_eq_true rfl) (by decide) dX12_readOdds_73 (fun r76982 Y76983 h76984 => ?_)
    obtain ⟨Iy76985, Xy76986, W76987, p76988, p76989, p76990, h76984⟩ := h76984
    have p76988 : (pI P a0 7).toInt ≤ (pI Y76983 a0 7).toInt := p76988
    have p76989 : (pI P a0 8).toInt ≤ (pI Y76983 a0 8).toInt := p76989
    have p76990 : 1 ≤ (pI Y76983 a0 8).toInt ∨ (pI Y76983 a0 7).toInt = (pI P a0 7).toInt + 1 := p76990
    have Xz76991 : EM [7, 8, 12] a0 P Y76983 := Xy76986.mono (by decide)
    have h76992 := Xy76986.at ha0
    have h76993 := Iy76985.rg h76992 7 rfl
    have h76994 := Iy76985.rg h76992 8 rfl
    have h76995 := Iy76985.rg h76992 7 rfl
    have h76996 := Iy76985.rg h76992 8 rfl
    obtain ⟨h76984, hi76997⟩ := h76984
    have hi76997 : (1 ≤ (pI Y76983 a0 8).toInt ∧ r76982.toInt = 0) ∨ (1 ≤ r76982.toInt ∧ r76982.toInt ≤ 20) := hi76997
    have h76984 : 0 ≤ r76982.toInt ∧ r76982.toInt ≤ 999 := h76984
    refine g_istore_n (lv' := [(1, .int r76982), (0, .ref a0)]) C dX12_readOdds_76 rfl (by decide) rfl ?_
    refine g_aload_n C dX12_readOdds_77 rfl 1 rfl ?_
    refine g_iconst (v := 0) C dX12_readOdds_78 (by decide) ?_
    refine g_sipush (v := 999) C dX12_readOdds_79 (by decide) ?_
    refine g_callVI (rest := []) C mv_X12_211 [.int 0, .int 999] (s_X12_takeNumber Iy76985 (by decide) (by decide) W76987) (h76992).1 (h76992).2 rfl rfl (by decide) (Nat.le_of_ble_eq_true rfl) (by decide) dX12_readOdds_82 (fun r76998 Y76999 h77000 => ?_)
    obtain ⟨Iy77001, Xy77002, W77003, p77004, p77005, p77006, h77000⟩ := h77000
    have p77004 : (pI Y76983 a0 7).toInt ≤ (pI Y76999 a0 7).toInt := p77004
    have p77005 : (pI Y76983 a0 8).toInt ≤ (pI Y76999 a0 8).toInt := p77005
    have p77006 : 1 ≤ (pI Y76999 a0 8).toInt ∨ (pI Y76999 a0 7).toInt = (pI Y76983 a0 7).toInt + 1 := p77006
    have Xz77007 : EM [7, 8, 12] a0 P Y76999 := EM.tr ha0 Xz76991 (Xy77002.mono (by decide))
    have h77008 := Xy77002.at h76992
    have h77009 := Iy77001.rg h77008 7 rfl
    have h77010 := Iy77001.rg h77008 8 rfl
    have h77011 := Iy77001.rg h77008 7 rfl
    have h77012 := Iy77001.rg h77008 8 rfl
    obtain ⟨h77000, hi77013⟩ := h77000
    have hi77013 : (1 ≤ (pI Y76999 a0 8).toInt ∧ r76998.toInt = 0) ∨ (0 ≤ r76998.toInt ∧ r76998.toInt ≤ 999) := hi77013
    have h77000 : 0 ≤ r76998.toInt ∧ r76998.toInt ≤ 999 := h77000
    refine g_istore_n (lv' := [(2, .int r76998), (1, .int r76982), (0, .ref a0)]) C dX12_readOdds_85 rfl (by decide) rfl ?_
    refine g_aload_n C dX12_readOdds_86 rfl 2 rfl ?_
    refine g_getI C fi_X12_162 (by decide) (h77008).1 (h77008).2 dX12_readOdds_87 ?_
    refine b_if_ne C 103 dX12_readOdds_90 (by decide) (fun h77014 => ?_) (fun h77014 => ?_)
    · have h77014 : (pI Y76999 a0 8).toInt ≠ 0 := ti_ne h77014
      exact ret _ _ _ _ _ dX12_readOdds_103 (by decide) (by decide) ⟨Iy77001, Xz77007, W77003, (by show (pI P a0 7).toInt ≤ (pI Y76999 a0 7).toInt; omega), (by show (pI P a0 8).toInt ≤ (pI Y76999 a0 8).toInt; omega)⟩
    · have h77014 : (pI Y76999 a0 8).toInt = 0 := congrArg Int32.toInt h77014
      refine g_aload_n C dX12_readOdds_93 rfl 2 rfl ?_
      obtain ⟨b77015, e77016, h77017⟩ := Iy77001.fld (h77008) 12 13 63 rfl
      refine g_getR C fi_X12_51 rfl e77016 (h77008).1 (h77008).2 dX12_readOdds_94 ?_
      refine g_bipush (v := 42) C dX12_readOdds_97 (by decide) ?_
      refine g_iload_n C dX12_readOdds_99 rfl 1 rfl ?_
      refine s_iadd C dX12_readOdds_100 (by show -2147483648 ≤ 42 + r76982.toInt ∧ 42 + r76982.toInt ≤ 2147483647; omega) (fun z77018 h77019 => ?_)
      have h77019 : z77018.toInt = 42 + r76982.toInt := h77019
      refine g_iload_n C dX12_readOdds_101 rfl 0 rfl ?_
      refine g_iast (j := (z77018.toInt.toNat)) C h77017.1 h77017.2.1 (ix_in h77017.2.2 (by omega)) dX12_readOdds_102 ?_
      refine gqW (ks := [12]) (Iy77001.setA e77016 h77017 (by decide) (arOk.of rfl (by omega))) (EM.setA Iy77001 e77016 rfl (by decide)) (fun Y77020 Iy77021 Xy77022 w77023  => ?_)
      have w77023 : (pI Y77020 b77015 (z77018.toInt.toNat)).toInt = r76998.toInt := w77023
      have q77024 := Xy77022.keepF 7 (by decide)
      have q77025 := Xy77022.keepF 8 (by decide)
      have W77026 := W77003.keep Iy77001 Xy77022 (by decide) (by decide) (by decide)
      have Xz77027 : EM [7, 8, 12] a0 P Y77020 := EM.tr ha0 Xz77007 (Xy77022.mono (by decide))
      have e77028 := Xy77022.ref h77008 (by decide) e77016
      have h77029 := Xy77022.at h77008
      have h77030 := Xy77022.ar h77017
      exact ret _ _ _ _ _ dX12_readOdds_103 (by decide) (by decide) ⟨Iy77021, Xz77027, W77026, (by show (pI P a0 7).toInt ≤ (pI Y77020 a0 7).toInt; omega), (by show (pI P a0 8).toInt ≤ (pI Y77020 a0 8).toInt; omega)⟩
  · have h76981 : (pI P b76977 ((pI P a0 7).toInt.toNat)).toInt = 2 := congrArg Int32.toInt h76981
    refine g_aload_n C dX12_readOdds_13 rfl 0 rfl ?_
    obtain ⟨b77031, e77032, h77033⟩ := I.fld (ha0) 6 14 1002 rfl
    refine g_getR C fi_X12_30 rfl e77032 (ha0).1 (ha0).2 dX12_readOdds_14 ?_
    refine g_aload_n C dX12_readOdds_17 rfl 0 rfl ?_
    refine g_getI C fi_X12_159 (by decide) (ha0).1 (ha0).2 dX12_readOdds_18 ?_
    refine g_lald (j := ((pI P a0 7).toInt.toNat)) C h77033.1 h77033.2.1 (ix_in h77033.2.2 (by omega)) dX12_readOdds_21 ?_
    refine g_topl (fun l77034 h77035 => ?_)
    have hl77036 : l77034.toInt = (pJ P b77031 ((pI P a0 7).toInt.toNat)).toInt := congrArg Int64.toInt h77035
    refine g_lconst (v := 1) C dX12_readOdds_22 (by decide) ?_
    refine g_lcmp C dX12_readOdds_23 ?_
    refine g_topi (fun z77037 h77038 => ?_)
    have hc77039 : (z77037.toInt < 0 ∧ l77034.toInt < 1) ∨ (z77037.toInt = 0 ∧ l77034.toInt = 1) ∨ (0 < z77037.toInt ∧ 1 < l77034.toInt) := cmp_or h77038
    have h77040 := cmp_rg h77038
    refine b_if_lt C 69 dX12_readOdds_24 (by decide) (fun h77041 => ?_) (fun h77041 => ?_)
    · have h77041 : z77037.toInt < 0 := h77041
      refine g_aload_n C dX12_readOdds_69 rfl 0 rfl ?_
      refine g_iconst (v := 1) C dX12_readOdds_70 (by decide) ?_
      refine g_bipush (v := 20) C dX12_readOdds_71 (by decide) ?_
      refine g_callVI (rest := []) C mv_X12_211 [.int 1, .int 20] (s_X12_takeNumber I (by decide) (by decide) hW) (ha0).1 (ha0).2 rfl rfl (by decide) (Nat.le_of_ble_eq_true rfl) (by decide) dX12_readOdds_73 (fun r77042 Y77043 h77044 => ?_)
      obtain ⟨Iy77045, Xy77046, W77047, p77048, p77049, p77050, h77044⟩ := h77044
      have p77048 : (pI P a0 7).toInt ≤ (pI Y77043 a0 7).toInt := p77048
      have p77049 : (pI P a0 8).toInt ≤ (pI Y77043 a0 8).toInt := p77049
      have p77050 : 1 ≤ (pI Y77043 a0 8).toInt ∨ (pI Y77043 a0 7).toInt = (pI P a0 7).toInt + 1 := p77050
      have Xz77051 : EM [7, 8, 12] a0 P Y77043 := Xy77046.mono (by decide)
      have h77052 := Xy77046.at ha0
      have h77053 := Iy77045.rg h77052 7 rfl
      have h77054 := Iy77045.rg h77052 8 rfl
      have h77055 := Iy77045.rg h77052 7 rfl
      have h77056 := Iy77045.rg h77052 8 rfl
      obtain ⟨h77044, hi77057⟩ := h77044
      have hi77057 : (1 ≤ (pI Y77043 a0 8).toInt ∧ r77042.toInt = 0) ∨ (1 ≤ r77042.toInt ∧ r77042.toInt ≤ 20) := hi77057
      have h77044 : 0 ≤ r77042.toInt ∧ r77042.toInt ≤ 999 := h77044
      refine g_istore_n (lv' := [(1, .int r77042), (0, .ref a0)]) C dX12_readOdds_76 rfl (by decide) rfl ?_
      refine g_aload_n C dX12_readOdds_77 rfl 1 rfl ?_
      refine g_iconst (v := 0) C dX12_readOdds_78 (by decide) ?_
      refine g_sipush (v := 999) C dX12_readOdds_79 (by decide) ?_
      refine g_callVI (rest := []) C mv_X12_211 [.int 0, .int 999] (s_X12_takeNumber Iy77045 (by decide) (by decide) W77047) (h77052).1 (h77052).2 rfl rfl (by decide) (Nat.le_of_ble_eq_true rfl) (by decide) dX12_readOdds_82 (fun r77058 Y77059 h77060 => ?_)
      obtain ⟨Iy77061, Xy77062, W77063, p77064, p77065, p77066, h77060⟩ := h77060
      have p77064 : (pI Y77043 a0 7).toInt ≤ (pI Y77059 a0 7).toInt := p77064
      have p77065 : (pI Y77043 a0 8).toInt ≤ (pI Y77059 a0 8).toInt := p77065
      have p77066 : 1 ≤ (pI Y77059 a0 8).toInt ∨ (pI Y77059 a0 7).toInt = (pI Y77043 a0 7).toInt + 1 := p77066
      have Xz77067 : EM [7, 8, 12] a0 P Y77059 := EM.tr ha0 Xz77051 (Xy77062.mono (by decide))
      have h77068 := Xy77062.at h77052
      have h77069 := Iy77061.rg h77068 7 rfl
      have h77070 := Iy77061.rg h77068 8 rfl
      have h77071 := Iy77061.rg h77068 7 rfl
      have h77072 := Iy77061.rg h77068 8 rfl
      obtain ⟨h77060, hi77073⟩ := h77060
      have hi77073 : (1 ≤ (pI Y77059 a0 8).toInt ∧ r77058.toInt = 0) ∨ (0 ≤ r77058.toInt ∧ r77058.toInt ≤ 999) := hi77073
      have h77060 : 0 ≤ r77058.toInt ∧ r77058.toInt ≤ 999 := h77060
      refine g_istore_n (lv' := [(2, .int r77058), (1, .int r77042), (0, .ref a0)]) C dX12_readOdds_85 rfl (by decide) rfl ?_
      refine g_aload_n C dX12_readOdds_86 rfl 2 rfl ?_
      refine g_getI C fi_X12_162 (by decide) (h77068).1 (h77068).2 dX12_readOdds_87 ?_
      refine b_if_ne C 103 dX12_readOdds_90 (by decide) (fun h77074 => ?_) (fun h77074 => ?_)
      · have h77074 : (pI Y77059 a0 8).toInt ≠ 0 := ti_ne h77074
        exact ret _ _ _ _ _ dX12_readOdds_103 (by decide) (by decide) ⟨Iy77061, Xz77067, W77063, (by show (pI P a0 7).toInt ≤ (pI Y77059 a0 7).toInt; omega), (by show (pI P a0 8).toInt ≤ (pI Y77059 a0 8).toInt; omega)⟩
      · have h77074 : (pI Y77059 a0 8).toInt = 0 := congrArg Int32.toInt h77074
        refine g_aload_n C dX12_readOdds_93 rfl 2 rfl ?_
        obtain ⟨b77075, e77076, h77077⟩ := Iy77061.fld (h77068) 12 13 63 rfl
        refine g_getR C fi_X12_51 rfl e77076 (h77068).1 (h77068).2 dX12_readOdds_94 ?_
        refine g_bipush (v := 42) C dX12_readOdds_97 (by decide) ?_
        refine g_iload_n C dX12_readOdds_99 rfl 1 rfl ?_
        refine s_iadd C dX12_readOdds_100 (by show -2147483648 ≤ 42 + r77042.toInt ∧ 42 + r77042.toInt ≤ 2147483647; omega) (fun z77078 h77079 => ?_)
        have h77079 : z77078.toInt = 42 + r77042.toInt := h77079
        refine g_iload_n C dX12_readOdds_101 rfl 0 rfl ?_
        refine g_iast (j := (z77078.toInt.toNat)) C h77077.1 h77077.2.1 (ix_in h77077.2.2 (by omega)) dX12_readOdds_102 ?_
        refine gqW (ks := [12]) (Iy77061.setA e77076 h77077 (by decide) (arOk.of rfl (by omega))) (EM.setA Iy77061 e77076 rfl (by decide)) (fun Y77080 Iy77081 Xy77082 w77083  => ?_)
        have w77083 : (pI Y77080 b77075 (z77078.toInt.toNat)).toInt = r77058.toInt := w77083
        have q77084 := Xy77082.keepF 7 (by decide)
        have q77085 := Xy77082.keepF 8 (by decide)
        have W77086 := W77063.keep Iy77061 Xy77082 (by decide) (by decide) (by decide)
        have Xz77087 : EM [7, 8, 12] a0 P Y77080 := EM.tr ha0 Xz77067 (Xy77082.mono (by decide))
        have e77088 := Xy77082.ref h77068 (by decide) e77076
        have h77089 := Xy77082.at h77068
        have h77090 := Xy77082.ar h77077
        exact ret _ _ _ _ _ dX12_readOdds_103 (by decide) (by decide) ⟨Iy77081, Xz77087, W77086, (by show (pI P a0 7).toInt ≤ (pI Y77080 a0 7).toInt; omega), (by show (pI P a0 8).toInt ≤ (pI Y77080 a0 8).toInt; omega)⟩
    · have h77041 : 0 ≤ z77037.toInt := h77041
      refine g_aload_n C dX12_readOdds_27 rfl 0 rfl ?_
      refine g_getR C fi_X12_30 rfl e77032 (ha0).1 (ha0).2 dX12_readOdds_28 ?_
      refine g_aload_n C dX12_readOdds_31 rfl 0 rfl ?_
      refine g_getI C fi_X12_159 (by decide) (ha0).1 (ha0).2 dX12_readOdds_32 ?_
      refine g_lald (j := ((pI P a0 7).toInt.toNat)) C h77033.1 h77033.2.1 (ix_in h77033.2.2 (by omega)) dX12_readOdds_35 ?_
      refine g_topl (fun l77091 h77092 => ?_)
      have hl77093 : l77091.toInt = (pJ P b77031 ((pI P a0 7).toInt.toNat)).toInt := congrArg Int64.toInt h77092
      refine g_ldc2 (v := 20) C kl_X12_221 dX12_readOdds_36 ?_
      refine g_topl (fun l77094 el77094 => ?_)
      have hz_l77094 : ¬ l77094 = 0 := by rw [el77094]; decide
      refine g_lcmp C dX12_readOdds_39 ?_
      refine g_topi (fun z77095 h77096 => ?_)
      have hl77097 : l77094.toInt = 20 := congrArg Int64.toInt el77094
      have hc77098 := cmp_or h77096
      have h77099 := cmp_rg h77096
      refine b_if_gt C 69 dX12_readOdds_40 (by decide) (fun h77100 => ?_) (fun h77100 => ?_)
      · have h77100 : 0 < z77095.toInt := h77100
        refine g_aload_n C dX12_readOdds_69 rfl 0 rfl ?_
        refine g_iconst (v := 1) C dX12_readOdds_70 (by decide) ?_
        refine g_bipush (v := 20) C dX12_readOdds_71 (by decide) ?_
        refine g_callVI (rest := []) C mv_X12_211 [.int 1, .int 20] (s_X12_takeNumber I (by decide) (by decide) hW) (ha0).1 (ha0).2 rfl rfl (by decide) (Nat.le_of_ble_eq_true rfl) (by decide) dX12_readOdds_73 (fun r77101 Y77102 h77103 => ?_)
        obtain ⟨Iy77104, Xy77105, W77106, p77107, p77108, p77109, h77103⟩ := h77103
        have p77107 : (pI P a0 7).toInt ≤ (pI Y77102 a0 7).toInt := p77107
        have p77108 : (pI P a0 8).toInt ≤ (pI Y77102 a0 8).toInt := p77108
        have p77109 : 1 ≤ (pI Y77102 a0 8).toInt ∨ (pI Y77102 a0 7).toInt = (pI P a0 7).toInt + 1 := p77109
        have Xz77110 : EM [7, 8, 12] a0 P Y77102 := Xy77105.mono (by decide)
        have h77111 := Xy77105.at ha0
        have h77112 := Iy77104.rg h77111 7 rfl
        have h77113 := Iy77104.rg h77111 8 rfl
        have h77114 := Iy77104.rg h77111 7 rfl
        have h77115 := Iy77104.rg h77111 8 rfl
        obtain ⟨h77103, hi77116⟩ := h77103
        have hi77116 : (1 ≤ (pI Y77102 a0 8).toInt ∧ r77101.toInt = 0) ∨ (1 ≤ r77101.toInt ∧ r77101.toInt ≤ 20) := hi77116
        have h77103 : 0 ≤ r77101.toInt ∧ r77101.toInt ≤ 999 := h77103
        refine g_istore_n (lv' := [(1, .int r77101), (0, .ref a0)]) C dX12_readOdds_76 rfl (by decide) rfl ?_
        refine g_aload_n C dX12_readOdds_77 rfl 1 rfl ?_
        refine g_iconst (v := 0) C dX12_readOdds_78 (by decide) ?_
        refine g_sipush (v := 999) C dX12_readOdds_79 (by decide) ?_
        refine g_callVI (rest := []) C mv_X12_211 [.int 0, .int 999] (s_X12_takeNumber Iy77104 (by decide) (by decide) W77106) (h77111).1 (h77111).2 rfl rfl (by decide) (Nat.le_of_ble_eq_true rfl) (by decide) dX12_readOdds_82 (fun r77117 Y77118 h77119 => ?_)
        obtain ⟨Iy77120, Xy77121, W77122, p77123, p77124, p77125, h77119⟩ := h77119
        have p77123 : (pI Y77102 a0 7).toInt ≤ (pI Y77118 a0 7).toInt := p77123
        have p77124 : (pI Y77102 a0 8).toInt ≤ (pI Y77118 a0 8).toInt := p77124
        have p77125 : 1 ≤ (pI Y77118 a0 8).toInt ∨ (pI Y77118 a0 7).toInt = (pI Y77102 a0 7).toInt + 1 := p77125
        have Xz77126 : EM [7, 8, 12] a0 P Y77118 := EM.tr ha0 Xz77110 (Xy77121.mono (by decide))
        have h77127 := Xy77121.at h77111
        have h77128 := Iy77120.rg h77127 7 rfl
        have h77129 := Iy77120.rg h77127 8 rfl
        have h77130 := Iy77120.rg h77127 7 rfl
        have h77131 := Iy77120.rg h77127 8 rfl
        obtain ⟨h77119, hi77132⟩ := h77119
        have hi77132 : (1 ≤ (pI Y77118 a0 8).toInt ∧ r77117.toInt = 0) ∨ (0 ≤ r77117.toInt ∧ r77117.toInt ≤ 999) := hi77132
        have h77119 : 0 ≤ r77117.toInt ∧ r77117.toInt ≤ 999 := h77119
        refine g_istore_n (lv' := [(2, .int r77117), (1, .int r77101), (0, .ref a0)]) C dX12_readOdds_85 rfl (by decide) rfl ?_
        refine g_aload_n C dX12_readOdds_86 rfl 2 rfl ?_
        refine g_getI C fi_X12_162 (by decide) (h77127).1 (h77127).2 dX12_readOdds_87 ?_
        refine b_if_ne C 103 dX12_readOdds_90 (by decide) (fun h77133 => ?_) (fun h77133 => ?_)
        · have h77133 : (pI Y77118 a0 8).toInt ≠ 0 := ti_ne h77133
          exact ret _ _ _ _ _ dX12_readOdds_103 (by decide) (by decide) ⟨Iy77120, Xz77126, W77122, (by show (pI P a0 7).toInt ≤ (pI Y77118 a0 7).toInt; omega), (by show (pI P a0 8).toInt ≤ (pI Y77118 a0 8).toInt; omega)⟩
        · have h77133 : (pI Y77118 a0 8).toInt = 0 := congrArg Int32.toInt h77133
          refine g_aload_n C dX12_readOdds_93 rfl 2 rfl ?_
          obtain ⟨b77134, e77135, h77136⟩ := Iy77120.fld (h77127) 12 13 63 rfl
          refine g_getR C fi_X12_51 rfl e77135 (h77127).1 (h77127).2 dX12_readOdds_94 ?_
          refine g_bipush (v := 42) C dX12_readOdds_97 (by decide) ?_
          refine g_iload_n C dX12_readOdds_99 rfl 1 rfl ?_
          refine s_iadd C dX12_readOdds_100 (by show -2147483648 ≤ 42 + r77101.toInt ∧ 42 + r77101.toInt ≤ 2147483647; omega) (fun z77137 h77138 => ?_)
          have h77138 : z77137.toInt = 42 + r77101.toInt := h77138
          refine g_iload_n C dX12_readOdds_101 rfl 0 rfl ?_
          refine g_iast (j := (z77137.toInt.toNat)) C h77136.1 h77136.2.1 (ix_in h77136.2.2 (by omega)) dX12_readOdds_102 ?_
          refine gqW (ks := [12]) (Iy77120.setA e77135 h77136 (by decide) (arOk.of rfl (by omega))) (EM.setA Iy77120 e77135 rfl (by decide)) (fun Y77139 Iy77140 Xy77141 w77142  => ?_)
          have w77142 : (pI Y77139 b77134 (z77137.toInt.toNat)).toInt = r77117.toInt := w77142
          have q77143 := Xy77141.keepF 7 (by decide)
          have q77144 := Xy77141.keepF 8 (by decide)
          have W77145 := W77122.keep Iy77120 Xy77141 (by decide) (by decide) (by decide)
          have Xz77146 : EM [7, 8, 12] a0 P Y77139 := EM.tr ha0 Xz77126 (Xy77141.mono (by decide))
          have e77147 := Xy77141.ref h77127 (by decide) e77135
          have h77148 := Xy77141.at h77127
          have h77149 := Xy77141.ar h77136
          exact ret _ _ _ _ _ dX12_readOdds_103 (by decide) (by decide) ⟨Iy77140, Xz77146, W77145, (by show (pI P a0 7).toInt ≤ (pI Y77139 a0 7).toInt; omega), (by show (pI P a0 8).toInt ≤ (pI Y77139 a0 8).toInt; omega)⟩
      · have h77100 : z77095.toInt ≤ 0 := h77100
        refine g_aload_n C dX12_readOdds_43 rfl 0 rfl ?_
        obtain ⟨b77150, e77151, h77152⟩ := I.fld (ha0) 12 13 63 rfl
        refine g_getR C fi_X12_51 rfl e77151 (ha0).1 (ha0).2 dX12_readOdds_44 ?_
        refine g_bipush (v := 42) C dX12_readOdds_47 (by decide) ?_
        refine g_aload_n C dX12_readOdds_49 rfl 0 rfl ?_
        refine g_getR C fi_X12_30 rfl e77032 (ha0).1 (ha0).2 dX12_readOdds_50 ?_
        refine g_aload_n C dX12_readOdds_53 rfl 0 rfl ?_
        refine g_getI C fi_X12_159 (by decide) (ha0).1 (ha0).2 dX12_readOdds_54 ?_
        refine g_lald (j := ((pI P a0 7).toInt.toNat)) C h77033.1 h77033.2.1 (ix_in h77033.2.2 (by omega)) dX12_readOdds_57 ?_
        refine g_topl (fun l77153 h77154 => ?_)
        have hl77155 : l77153.toInt = (pJ P b77031 ((pI P a0 7).toInt.toNat)).toInt := congrArg Int64.toInt h77154
        refine g_l2i C dX12_readOdds_58 rfl ?_
        refine g_topi (fun z77156 h77157 => ?_)
        have hl77158 := l2i_val h77157 (by omega)
        refine s_iadd C dX12_readOdds_59 (by show -2147483648 ≤ 42 + z77156.toInt ∧ 42 + z77156.toInt ≤ 2147483647; omega) (fun z77159 h77160 => ?_)
        have h77160 : z77159.toInt = 42 + z77156.toInt := h77160
        refine g_iald (j := (z77159.toInt.toNat)) C h77152.1 h77152.2.1 (ix_in h77152.2.2 (by omega)) dX12_readOdds_60 ?_
        have h77161 := I.arr e77151 rfl (z77159.toInt.toNat)
        refine b_if_lt C 69 dX12_readOdds_61 (by decide) (fun h77162 => ?_) (fun h77162 => ?_)
        · have h77162 : (pI P b77150 (z77159.toInt.toNat)).toInt < 0 := h77162
          refine g_aload_n C dX12_readOdds_69 rfl 0 rfl ?_
          refine g_iconst (v := 1) C dX12_readOdds_70 (by decide) ?_
          refine g_bipush (v := 20) C dX12_readOdds_71 (by decide) ?_
          refine g_callVI (rest := []) C mv_X12_211 [.int 1, .int 20] (s_X12_takeNumber I (by decide) (by decide) hW) (ha0).1 (ha0).2 rfl rfl (by decide) (Nat.le_of_ble_eq_true rfl) (by decide) dX12_readOdds_73 (fun r77163 Y77164 h77165 => ?_)
          obtain ⟨Iy77166, Xy77167, W77168, p77169, p77170, p77171, h77165⟩ := h77165
          have p77169 : (pI P a0 7).toInt ≤ (pI Y77164 a0 7).toInt := p77169
          have p77170 : (pI P a0 8).toInt ≤ (pI Y77164 a0 8).toInt := p77170
          have p77171 : 1 ≤ (pI Y77164 a0 8).toInt ∨ (pI Y77164 a0 7).toInt = (pI P a0 7).toInt + 1 := p77171
          have q77172 := Xy77167.keepA e77151 (by decide) rfl (z77159.toInt.toNat)
          have Xz77173 : EM [7, 8, 12] a0 P Y77164 := Xy77167.mono (by decide)
          have e77174 := Xy77167.ref ha0 (by decide) e77151
          have h77175 := Xy77167.at ha0
          have h77176 := Xy77167.ar h77152
          have h77177 := Iy77166.rg h77175 7 rfl
          have h77178 := Iy77166.rg h77175 8 rfl
          have h77179 := Iy77166.rg h77175 7 rfl
          have h77180 := Iy77166.rg h77175 8 rfl
          obtain ⟨h77165, hi77181⟩ := h77165
          have hi77181 : (1 ≤ (pI Y77164 a0 8).toInt ∧ r77163.toInt = 0) ∨ (1 ≤ r77163.toInt ∧ r77163.toInt ≤ 20) := hi77181
          have h77165 : 0 ≤ r77163.toInt ∧ r77163.toInt ≤ 999 := h77165
          refine g_istore_n (lv' := [(1, .int r77163), (0, .ref a0)]) C dX12_readOdds_76 rfl (by decide) rfl ?_
          refine g_aload_n C dX12_readOdds_77 rfl 1 rfl ?_
          refine g_iconst (v := 0) C dX12_readOdds_78 (by decide) ?_
          refine g_sipush (v := 999) C dX12_readOdds_79 (by decide) ?_
          refine g_callVI (rest := []) C mv_X12_211 [.int 0, .int 999] (s_X12_takeNumber Iy77166 (by decide) (by decide) W77168) (h77175).1 (h77175).2 rfl rfl (by decide) (Nat.le_of_ble_eq_true rfl) (by decide) dX12_readOdds_82 (fun r77182 Y77183 h77184 => ?_)
          obtain ⟨Iy77185, Xy77186, W77187, p77188, p77189, p77190, h77184⟩ := h77184
          have p77188 : (pI Y77164 a0 7).toInt ≤ (pI Y77183 a0 7).toInt := p77188
          have p77189 : (pI Y77164 a0 8).toInt ≤ (pI Y77183 a0 8).toInt := p77189
          have p77190 : 1 ≤ (pI Y77183 a0 8).toInt ∨ (pI Y77183 a0 7).toInt = (pI Y77164 a0 7).toInt + 1 := p77190
          have q77191 := Xy77186.keepA e77174 (by decide) rfl (z77159.toInt.toNat)
          have Xz77192 : EM [7, 8, 12] a0 P Y77183 := EM.tr ha0 Xz77173 (Xy77186.mono (by decide))
          have e77193 := Xy77186.ref h77175 (by decide) e77174
          have h77194 := Xy77186.at h77175
          have h77195 := Xy77186.ar h77176
          have h77196 := Iy77185.rg h77194 7 rfl
          have h77197 := Iy77185.rg h77194 8 rfl
          have h77198 := Iy77185.rg h77194 7 rfl
          have h77199 := Iy77185.rg h77194 8 rfl
          obtain ⟨h77184, hi77200⟩ := h77184
          have hi77200 : (1 ≤ (pI Y77183 a0 8).toInt ∧ r77182.toInt = 0) ∨ (0 ≤ r77182.toInt ∧ r77182.toInt ≤ 999) := hi77200
          have h77184 : 0 ≤ r77182.toInt ∧ r77182.toInt ≤ 999 := h77184
          refine g_istore_n (lv' := [(2, .int r77182), (1, .int r77163), (0, .ref a0)]) C dX12_readOdds_85 rfl (by decide) rfl ?_
          refine g_aload_n C dX12_readOdds_86 rfl 2 rfl ?_
          refine g_getI C fi_X12_162 (by decide) (h77194).1 (h77194).2 dX12_readOdds_87 ?_
          refine b_if_ne C 103 dX12_readOdds_90 (by decide) (fun h77201 => ?_) (fun h77201 => ?_)
          · have h77201 : (pI Y77183 a0 8).toInt ≠ 0 := ti_ne h77201
            exact ret _ _ _ _ _ dX12_readOdds_103 (by decide) (by decide) ⟨Iy77185, Xz77192, W77187, (by show (pI P a0 7).toInt ≤ (pI Y77183 a0 7).toInt; omega), (by show (pI P a0 8).toInt ≤ (pI Y77183 a0 8).toInt; omega)⟩
          · have h77201 : (pI Y77183 a0 8).toInt = 0 := congrArg Int32.toInt h77201
            refine g_aload_n C dX12_readOdds_93 rfl 2 rfl ?_
            refine g_getR C fi_X12_51 rfl e77193 (h77194).1 (h77194).2 dX12_readOdds_94 ?_
            refine g_bipush (v := 42) C dX12_readOdds_97 (by decide) ?_
            refine g_iload_n C dX12_readOdds_99 rfl 1 rfl ?_
            refine s_iadd C dX12_readOdds_100 (by show -2147483648 ≤ 42 + r77163.toInt ∧ 42 + r77163.toInt ≤ 2147483647; omega) (fun z77202 h77203 => ?_)
            have h77203 : z77202.toInt = 42 + r77163.toInt := h77203
            refine g_iload_n C dX12_readOdds_101 rfl 0 rfl ?_
            refine g_iast (j := (z77202.toInt.toNat)) C h77195.1 h77195.2.1 (ix_in h77195.2.2 (by omega)) dX12_readOdds_102 ?_
            refine gqW (ks := [12]) (Iy77185.setA e77193 h77195 (by decide) (arOk.of rfl (by omega))) (EM.setA Iy77185 e77193 rfl (by decide)) (fun Y77204 Iy77205 Xy77206 w77207  => ?_)
            have w77207 : (pI Y77204 b77150 (z77202.toInt.toNat)).toInt = r77182.toInt := w77207
            have q77208 := Xy77206.keepF 7 (by decide)
            have q77209 := Xy77206.keepF 8 (by decide)
            have W77210 := W77187.keep Iy77185 Xy77206 (by decide) (by decide) (by decide)
            have Xz77211 : EM [7, 8, 12] a0 P Y77204 := EM.tr ha0 Xz77192 (Xy77206.mono (by decide))
            have e77212 := Xy77206.ref h77194 (by decide) e77193
            have h77213 := Xy77206.at h77194
            have h77214 := Xy77206.ar h77195
            exact ret _ _ _ _ _ dX12_readOdds_103 (by decide) (by decide) ⟨Iy77205, Xz77211, W77210, (by show (pI P a0 7).toInt ≤ (pI Y77204 a0 7).toInt; omega), (by show (pI P a0 8).toInt ≤ (pI Y77204 a0 8).toInt; omega)⟩
        · have h77162 : 0 ≤ (pI P b77150 (z77159.toInt.toNat)).toInt := h77162
          refine g_aload_n C dX12_readOdds_64 rfl 0 rfl ?_
          refine g_iconst (v := 3) C dX12_readOdds_65 (by decide) ?_
          refine g_callVV (rest := []) C mv_X12_168 [.int 3] (s_X12_wrong I (by decide) hW) (ha0).1 (ha0).2 rfl rfl (by decide) (Nat.le_of_ble_eq_true rfl) (by decide) dX12_readOdds_66 (fun Y77216 h77217 => ?_)
          obtain ⟨Iy77218, Xy77219, W77220, p77221, p77222⟩ := h77217
          have p77221 : 1 ≤ (pI Y77216 a0 8).toInt := p77221
          have p77222 : (pI P a0 8).toInt ≤ (pI Y77216 a0 8).toInt := p77222
          have q77223 := Xy77219.keepF 7 (by decide)
          have q77224 := Xy77219.keepA e77151 (by decide) rfl (z77159.toInt.toNat)
          have Xz77225 : EM [7, 8, 12] a0 P Y77216 := Xy77219.mono (by decide)
          have e77226 := Xy77219.ref ha0 (by decide) e77151
          have h77227 := Xy77219.at ha0
          have h77228 := Xy77219.ar h77152
          have h77229 := Iy77218.rg h77227 8 rfl
          refine g_aload_n C dX12_readOdds_69 rfl 0 rfl ?_
          refine g_iconst (v := 1) C dX12_readOdds_70 (by decide) ?_
          refine g_bipush (v := 20) C dX12_readOdds_71 (by decide) ?_
          refine g_callVI (rest := []) C mv_X12_211 [.int 1, .int 20] (s_X12_takeNumber Iy77218 (by decide) (by decide) W77220) (h77227).1 (h77227).2 rfl rfl (by decide) (Nat.le_of_ble_eq_true rfl) (by decide) dX12_readOdds_73 (fun r77230 Y77231 h77232 => ?_)
          obtain ⟨Iy77233, Xy77234, W77235, p77236, p77237, p77238, h77232⟩ := h77232
          have p77236 : (pI Y77216 a0 7).toInt ≤ (pI Y77231 a0 7).toInt := p77236
          have p77237 : (pI Y77216 a0 8).toInt ≤ (pI Y77231 a0 8).toInt := p77237
          have p77238 : 1 ≤ (pI Y77231 a0 8).toInt ∨ (pI Y77231 a0 7).toInt = (pI Y77216 a0 7).toInt + 1 := p77238
          have q77239 := Xy77234.keepA e77226 (by decide) rfl (z77159.toInt.toNat)
          have Xz77240 : EM [7, 8, 12] a0 P Y77231 := EM.tr ha0 Xz77225 (Xy77234.mono (by decide))
          have e77241 := Xy77234.ref h77227 (by decide) e77226
          have h77242 := Xy77234.at h77227
          have h77243 := Xy77234.ar h77228
          have h77244 := Iy77233.rg h77242 7 rfl
          have h77245 := Iy77233.rg h77242 8 rfl
          have h77246 := Iy77233.rg h77242 7 rfl
          have h77247 := Iy77233.rg h77242 8 rfl
          obtain ⟨h77232, hi77248⟩ := h77232
          have hi77248 : (1 ≤ (pI Y77231 a0 8).toInt ∧ r77230.toInt = 0) ∨ (1 ≤ r77230.toInt ∧ r77230.toInt ≤ 20) := hi77248
          have h77232 : 0 ≤ r77230.toInt ∧ r77230.toInt ≤ 999 := h77232
          refine g_istore_n (lv' := [(1, .int r77230), (0, .ref a0)]) C dX12_readOdds_76 rfl (by decide) rfl ?_
          refine g_aload_n C dX12_readOdds_77 rfl 1 rfl ?_
          refine g_iconst (v := 0) C dX12_readOdds_78 (by decide) ?_
          refine g_sipush (v := 999) C dX12_readOdds_79 (by decide) ?_
          refine g_callVI (rest := []) C mv_X12_211 [.int 0, .int 999] (s_X12_takeNumber Iy77233 (by decide) (by decide) W77235) (h77242).1 (h77242).2 rfl rfl (by decide) (Nat.le_of_ble_eq_true rfl) (by decide) dX12_readOdds_82 (fun r77249 Y77250 h77251 => ?_)
          obtain ⟨Iy77252, Xy77253, W77254, p77255, p77256, p77257, h77251⟩ := h77251
          have p77255 : (pI Y77231 a0 7).toInt ≤ (pI Y77250 a0 7).toInt := p77255
          have p77256 : (pI Y77231 a0 8).toInt ≤ (pI Y77250 a0 8).toInt := p77256
          have p77257 : 1 ≤ (pI Y77250 a0 8).toInt ∨ (pI Y77250 a0 7).toInt = (pI Y77231 a0 7).toInt + 1 := p77257
          have q77258 := Xy77253.keepA e77241 (by decide) rfl (z77159.toInt.toNat)
          have Xz77259 : EM [7, 8, 12] a0 P Y77250 := EM.tr ha0 Xz77240 (Xy77253.mono (by decide))
          have e77260 := Xy77253.ref h77242 (by decide) e77241
          have h77261 := Xy77253.at h77242
          have h77262 := Xy77253.ar h77243
          have h77263 := Iy77252.rg h77261 7 rfl
          have h77264 := Iy77252.rg h77261 8 rfl
          have h77265 := Iy77252.rg h77261 7 rfl
          have h77266 := Iy77252.rg h77261 8 rfl
          obtain ⟨h77251, hi77267⟩ := h77251
          have hi77267 : (1 ≤ (pI Y77250 a0 8).toInt ∧ r77249.toInt = 0) ∨ (0 ≤ r77249.toInt ∧ r77249.toInt ≤ 999) := hi77267
          have h77251 : 0 ≤ r77249.toInt ∧ r77249.toInt ≤ 999 := h77251
          refine g_istore_n (lv' := [(2, .int r77249), (1, .int r77230), (0, .ref a0)]) C dX12_readOdds_85 rfl (by decide) rfl ?_
          refine g_aload_n C dX12_readOdds_86 rfl 2 rfl ?_
          refine g_getI C fi_X12_162 (by decide) (h77261).1 (h77261).2 dX12_readOdds_87 ?_
          refine b_if_ne C 103 dX12_readOdds_90 (by decide) (fun h77268 => ?_) (fun h77268 => ?_)
          · have h77268 : (pI Y77250 a0 8).toInt ≠ 0 := ti_ne h77268
            exact ret _ _ _ _ _ dX12_readOdds_103 (by decide) (by decide) ⟨Iy77252, Xz77259, W77254, (by show (pI P a0 7).toInt ≤ (pI Y77250 a0 7).toInt; omega), (by show (pI P a0 8).toInt ≤ (pI Y77250 a0 8).toInt; omega)⟩
          · have h77268 : (pI Y77250 a0 8).toInt = 0 := congrArg Int32.toInt h77268
            refine g_aload_n C dX12_readOdds_93 rfl 2 rfl ?_
            refine g_getR C fi_X12_51 rfl e77260 (h77261).1 (h77261).2 dX12_readOdds_94 ?_
            refine g_bipush (v := 42) C dX12_readOdds_97 (by decide) ?_
            refine g_iload_n C dX12_readOdds_99 rfl 1 rfl ?_
            refine s_iadd C dX12_readOdds_100 (by show -2147483648 ≤ 42 + r77230.toInt ∧ 42 + r77230.toInt ≤ 2147483647; omega) (fun z77269 h77270 => ?_)
            have h77270 : z77269.toInt = 42 + r77230.toInt := h77270
            refine g_iload_n C dX12_readOdds_101 rfl 0 rfl ?_
            refine g_iast (j := (z77269.toInt.toNat)) C h77262.1 h77262.2.1 (ix_in h77262.2.2 (by omega)) dX12_readOdds_102 ?_
            refine gqW (ks := [12]) (Iy77252.setA e77260 h77262 (by decide) (arOk.of rfl (by omega))) (EM.setA Iy77252 e77260 rfl (by decide)) (fun Y77271 Iy77272 Xy77273 w77274  => ?_)
            have w77274 : (pI Y77271 b77150 (z77269.toInt.toNat)).toInt = r77249.toInt := w77274
            have q77275 := Xy77273.keepF 7 (by decide)
            have q77276 := Xy77273.keepF 8 (by decide)
            have W77277 := W77254.keep Iy77252 Xy77273 (by decide) (by decide) (by decide)
            have Xz77278 : EM [7, 8, 12] a0 P Y77271 := EM.tr ha0 Xz77259 (Xy77273.mono (by decide))
            have e77279 := Xy77273.ref h77261 (by decide) e77260
            have h77280 := Xy77273.at h77261
            have h77281 := Xy77273.ar h77262
            exact ret _ _ _ _ _ dX12_readOdds_103 (by decide) (by decide) ⟨Iy77272, Xz77278, W77277, (by show (pI P a0 7).toInt ≤ (pI Y77271 a0 7).toInt; omega), (by show (pI P a0 8).toInt ≤ (pI Y77271 a0 8).toInt; omega)⟩
theorem dX12_readLine_122 : decode cX12_readLine 122 = .ok (.return_, 1) := by decide +kernel
theorem dX12_readLine_135 : decode cX12_readLine 135 = .ok (.goto 79, 3) := by decide +kernel
theorem dX12_readLine_214 : decode cX12_readLine 214 = .ok (.aload_n 0, 1) := by decide +kernel
theorem dX12_readLine_215 : decode cX12_readLine 215 = .ok (.bipush 59, 2) := by decide +kernel
theorem dX12_readLine_217 : decode cX12_readLine 217 = .ok (.invokevirtual 218, 3) := by decide +kernel
theorem dX12_takeSign_0 : decode cX12_takeSign 0 = .ok (.aload_n 0, 1) := by decide +kernel
theorem dX12_takeSign_1 : decode cX12_takeSign 1 = .ok (.iload_n 1, 1) := by decide +kernel
theorem dX12_takeSign_2 : decode cX12_takeSign 2 = .ok (.invokevirtual 165, 3) := by decide +kernel
theorem dX12_isSign_0 : decode cX12_isSign 0 = .ok (.aload_n 0, 1) := by decide +kernel
theorem dX12_isSign_1 : decode cX12_isSign 1 = .ok (.getfield 162, 3) := by decide +kernel
theorem dX12_isSign_4 : decode cX12_isSign 4 = .ok (.ifCond .ne 35, 3) := by decide +kernel
theorem dX12_isSign_7 : decode cX12_isSign 7 = .ok (.aload_n 0, 1) := by decide +kernel
theorem dX12_isSign_8 : decode cX12_isSign 8 = .ok (.getfield 24, 3) := by decide +kernel
theorem dX12_isSign_11 : decode cX12_isSign 11 = .ok (.aload_n 0, 1) := by decide +kernel
theorem dX12_isSign_12 : decode cX12_isSign 12 = .ok (.getfield 159, 3) := by decide +kernel
theorem dX12_isSign_15 : decode cX12_isSign 15 = .ok (.iaload, 1) := by decide +kernel
theorem dX12_isSign_16 : decode cX12_isSign 16 = .ok (.iconst 3, 1) := by decide +kernel
theorem dX12_isSign_17 : decode cX12_isSign 17 = .ok (.if_icmp .ne 22, 3) := by decide +kernel
theorem dX12_isSign_20 : decode cX12_isSign 20 = .ok (.aload_n 0, 1) := by decide +kernel
theorem dX12_isSign_21 : decode cX12_isSign 21 = .ok (.getfield 30, 3) := by decide +kernel
theorem dX12_isSign_24 : decode cX12_isSign 24 = .ok (.aload_n 0, 1) := by decide +kernel
theorem dX12_isSign_25 : decode cX12_isSign 25 = .ok (.getfield 159, 3) := by decide +kernel
theorem dX12_isSign_28 : decode cX12_isSign 28 = .ok (.laload, 1) := by decide +kernel
theorem dX12_isSign_29 : decode cX12_isSign 29 = .ok (.iload_n 1, 1) := by decide +kernel
theorem dX12_isSign_30 : decode cX12_isSign 30 = .ok (.i2l, 1) := by decide +kernel
theorem dX12_isSign_31 : decode cX12_isSign 31 = .ok (.lcmp, 1) := by decide +kernel
theorem dX12_isSign_32 : decode cX12_isSign 32 = .ok (.ifCond .ne 7, 3) := by decide +kernel
theorem dX12_isSign_35 : decode cX12_isSign 35 = .ok (.iconst 1, 1) := by decide +kernel
theorem dX12_isSign_36 : decode cX12_isSign 36 = .ok (.goto 4, 3) := by decide +kernel
theorem dX12_isSign_39 : decode cX12_isSign 39 = .ok (.iconst 0, 1) := by decide +kernel
theorem dX12_isSign_40 : decode cX12_isSign 40 = .ok (.ireturn, 1) := by decide +kernel
set_option maxHeartbeats 4000000 in
set_option maxRecDepth 100000 in
theorem s_X12_isSign {P : PP} {a0 : Nat} {a1 : Int32} (I : IM P a0) (hW : MW P a0) : CtrI yX12_isSign cX12_isSign 2 (some Jvm.ClassFile.FieldType.boolean) ({ frames := 1, cells := 0, slots := 0, locals := 64 } : Room) 0 0 P [.ref a0, .int a1] (fun r P2 => P = P2 ∧ (0 ≤ r.toInt ∧ r.toInt ≤ 1) ∧ (r.toInt = 0 ∨ ((pI P2 a0 8).toInt = 0 ∧ (pI P2 a0 7).toInt ≤ 999))) := by
  refine enI (lv := [(0, .ref a0), (1, .int a1)]) (by decide) (Nat.le_of_ble_eq_true rfl) rfl (fun E D cy C Ci0 ret => ?_)
  have ha0 := I.2.1
  have h77829 := I.rg ha0 7 rfl
  have h77830 := I.rg ha0 8 rfl
  refine g_aload_n C dX12_isSign_0 rfl 0 rfl ?_
  refine g_getI C fi_X12_162 (by decide) (ha0).1 (ha0).2 dX12_isSign_1 ?_
  refine b_if_ne C 39 dX12_isSign_4 (by decide) (fun h77831 => ?_) (fun h77831 => ?_)
  · have h77831 : (pI P a0 8).toInt ≠ 0 := ti_ne h77831
    refine g_iconst (v := 0) C dX12_isSign_39 (by decide) ?_
    exact ret _ _ _ _ _ _ dX12_isSign_40 rfl (by decide) (by decide) ⟨rfl, (by decide), Or.inl rfl⟩
  · have h77831 : (pI P a0 8).toInt = 0 := congrArg Int32.toInt h77831
    refine g_aload_n C dX12_isSign_7 rfl 0 rfl ?_
    obtain ⟨b77832, e77833, h77834⟩ := I.fld (ha0) 4 13 1002 rfl
    refine g_getR C fi_X12_24 rfl e77833 (ha0).1 (ha0).2 dX12_isSign_8 ?_
    refine g_aload_n C dX12_isSign_11 rfl 0 rfl ?_
    refine g_getI C fi_X12_159 (by decide) (ha0).1 (ha0).2 dX12_isSign_12 ?_
    refine g_iald (j := ((pI P a0 7).toInt.toNat)) C h77834.1 h77834.2.1 (ix_in h77834.2.2 (by omega)) dX12_isSign_15 ?_
    have h77835 := I.arr e77833 rfl ((pI P a0 7).toInt.toNat)
    refine g_iconst (v := 3) C dX12_isSign_16 (by decide) ?_
    have hs77836 := I.s1000 e77833 (j := (pI P a0 7).toInt) (by omega)
    refine b_icmp_ne C 39 dX12_isSign_17 (by decide) (fun h77837 => ?_) (fun h77837 => ?_)
    · have h77837 : (pI P b77832 ((pI P a0 7).toInt.toNat)).toInt ≠ 3 := ti_ne h77837
      refine g_iconst (v := 0) C dX12_isSign_39 (by decide) ?_
      exact ret _ _ _ _ _ _ dX12_isSign_40 rfl (by decide) (by decide) ⟨rfl, (by decide), Or.inl rfl⟩
    · have h77837 : (pI P b77832 ((pI P a0 7).toInt.toNat)).toInt = 3 := congrArg Int32.toInt h77837
      refine g_aload_n C dX12_isSign_20 rfl 0 rfl ?_
      obtain ⟨b77838, e77839, h77840⟩ := I.fld (ha0) 6 14 1002 rfl
      refine g_getR C fi_X12_30 rfl e77839 (ha0).1 (ha0).2 dX12_isSign_21 ?_
      refine g_aload_n C dX12_isSign_24 rfl 0 rfl ?_
      refine g_getI C fi_X12_159 (by decide) (ha0).1 (ha0).2 dX12_isSign_25 ?_
      refine g_lald (j := ((pI P a0 7).toInt.toNat)) C h77840.1 h77840.2.1 (ix_in h77840.2.2 (by omega)) dX12_isSign_28 ?_
      refine g_topl (fun l77841 _ => ?_)
      refine g_iload_n C dX12_isSign_29 rfl 1 rfl ?_
      refine a_i2l C dX12_isSign_30 (fun l77842 => ?_)
      refine a_lcmp C dX12_isSign_31 (fun z77843 => ?_)
      have u77845 := ti_rng z77843
      refine b_if_ne C 39 dX12_isSign_32 (by decide) (fun h77844 => ?_) (fun h77844 => ?_)
      · have h77844 : z77843.toInt ≠ 0 := ti_ne h77844
        refine g_iconst (v := 0) C dX12_isSign_39 (by decide) ?_
        exact ret _ _ _ _ _ _ dX12_isSign_40 rfl (by decide) (by decide) ⟨rfl, (by decide), Or.inl rfl⟩
      · have h77844 : z77843.toInt = 0 := congrArg Int32.toInt h77844
        refine g_iconst (v := 1) C dX12_isSign_35 (by decide) ?_
        refine g_goto C 40 dX12_isSign_36 (by decide) ?_
        exact ret _ _ _ _ _ _ dX12_isSign_40 rfl (by decide) (by decide) ⟨rfl, (by decide), Or.inr ⟨by omega, by omega⟩⟩
theorem dX12_takeSign_5 : decode cX12_takeSign 5 = .ok (.ifCond .eq 16, 3) := by decide +kernel
theorem dX12_takeSign_8 : decode cX12_takeSign 8 = .ok (.aload_n 0, 1) := by decide +kernel
theorem dX12_takeSign_9 : decode cX12_takeSign 9 = .ok (.dup, 1) := by decide +kernel
theorem dX12_takeSign_10 : decode cX12_takeSign 10 = .ok (.getfield 159, 3) := by decide +kernel
theorem dX12_takeSign_13 : decode cX12_takeSign 13 = .ok (.iconst 1, 1) := by decide +kernel
theorem dX12_takeSign_14 : decode cX12_takeSign 14 = .ok (.iadd, 1) := by decide +kernel
theorem dX12_takeSign_15 : decode cX12_takeSign 15 = .ok (.putfield 159, 3) := by decide +kernel
theorem dX12_takeSign_18 : decode cX12_takeSign 18 = .ok (.goto 8, 3) := by decide +kernel
theorem dX12_takeSign_21 : decode cX12_takeSign 21 = .ok (.aload_n 0, 1) := by decide +kernel
theorem dX12_takeSign_22 : decode cX12_takeSign 22 = .ok (.iconst 1, 1) := by decide +kernel
theorem dX12_takeSign_23 : decode cX12_takeSign 23 = .ok (.invokevirtual 168, 3) := by decide +kernel
theorem dX12_takeSign_26 : decode cX12_takeSign 26 = .ok (.return_, 1) := by decide +kernel
set_option maxHeartbeats 4000000 in
set_option maxRecDepth 100000 in
theorem s_X12_takeSign {P : PP} {a0 : Nat} {a1 : Int32} (I : IM P a0) (hW : MW P a0) : CtrV yX12_takeSign cX12_takeSign 2 none ({ frames := 2, cells := 0, slots := 0, locals := 128 } : Room) 0 0 P [.ref a0, .int a1] (fun P2 => IM P2 a0 ∧ EM [7, 8] a0 P P2 ∧ MW P2 a0 ∧ ((pI P a0 7).toInt ≤ (pI P2 a0 7).toInt) ∧ ((pI P a0 8).toInt ≤ (pI P2 a0 8).toInt)) := by
  refine enV (lv := [(0, .ref a0), (1, .int a1)]) (by decide) (Nat.le_of_ble_eq_true rfl) rfl (fun E D cy C Ci0 ret => ?_)
  have ha0 := I.2.1
  have h77875 := I.rg ha0 7 rfl
  have h77876 := I.rg ha0 8 rfl
  refine g_aload_n C dX12_takeSign_0 rfl 0 rfl ?_
  refine g_iload_n C dX12_takeSign_1 rfl 1 rfl ?_
  refine g_callVI (rest := []) C mv_X12_165 [.int a1] (s_X12_isSign I hW) (ha0).1 (ha0).2 rfl rfl (by decide) (Nat.le_of_ble_eq_true rfl) (by decide) dX12_takeSign_2 (fun r77877 Y77878 h77879 => ?_)
  obtain ⟨rfl, h77879⟩ := h77879
  obtain ⟨h77879, hi77880⟩ := h77879
  have hi77880 : r77877.toInt = 0 ∨ ((pI P a0 8).toInt = 0 ∧ (pI P a0 7).toInt ≤ 999) := hi77880
  have h77879 : 0 ≤ r77877.toInt ∧ r77877.toInt ≤ 1 := h77879
  refine b_if_eq C 21 dX12_takeSign_5 (by decide) (fun h77881 => ?_) (fun h77881 => ?_)
  · have h77881 : r77877.toInt = 0 := congrArg Int32.toInt h77881
    refine g_aload_n C dX12_takeSign_21 rfl 0 rfl ?_
    refine g_iconst (v := 1) C dX12_takeSign_22 (by decide) ?_
    refine g_callVV (rest := []) C mv_X12_168 [.int 1] (s_X12_wrong I (by decide) hW) (ha0).1 (ha0).2 rfl rfl (by decide) (Nat.le_of_ble_eq_true rfl) (by decide) dX12_takeSign_23 (fun Y77883 h77884 => ?_)
    obtain ⟨Iy77885, Xy77886, W77887, p77888, p77889⟩ := h77884
    have p77888 : 1 ≤ (pI Y77883 a0 8).toInt := p77888
    have p77889 : (pI P a0 8).toInt ≤ (pI Y77883 a0 8).toInt := p77889
    have q77890 := Xy77886.keepF 7 (by decide)
    have Xz77891 : EM [7, 8] a0 P Y77883 := Xy77886.mono (by decide)
    have h77892 := Xy77886.at ha0
    have h77893 := Iy77885.rg h77892 8 rfl
    exact ret _ _ _ _ _ dX12_takeSign_26 (by decide) (by decide) ⟨Iy77885, Xz77891, W77887, (by show (pI P a0 7).toInt ≤ (pI Y77883 a0 7).toInt; omega), (by show (pI P a0 8).toInt ≤ (pI Y77883 a0 8).toInt; omega)⟩
  · have h77881 : r77877.toInt ≠ 0 := ti_ne h77881
    refine g_aload_n C dX12_takeSign_8 rfl 0 rfl ?_
    refine g_dup C dX12_takeSign_9 rfl ?_
    refine g_getI C fi_X12_159 (by decide) (ha0).1 (ha0).2 dX12_takeSign_10 ?_
    refine g_iconst (v := 1) C dX12_takeSign_13 (by decide) ?_
    refine s_iadd C dX12_takeSign_14 (by show -2147483648 ≤ (pI P a0 7).toInt + 1 ∧ (pI P a0 7).toInt + 1 ≤ 2147483647; omega) (fun z77894 h77895 => ?_)
    have h77895 : z77894.toInt = (pI P a0 7).toInt + 1 := h77895
    refine g_putI C fi_X12_159 rfl (ha0).1 (ha0).2 dX12_takeSign_15 ?_
    refine gqW (ks := [7]) (I.setI (rgOk.of rfl (by omega))) (EM.setI I (by decide)) (fun Y77896 Iy77897 Xy77898 w77899  => ?_)
    have w77899 : (pI Y77896 a0 7).toInt = z77894.toInt := w77899
    have q77900 := Xy77898.keepF 8 (by decide)
    have W77901 := hW.keep I Xy77898 (by decide) (by decide) (by decide)
    have Xz77902 : EM [7, 8] a0 P Y77896 := Xy77898.mono (by decide)
    have h77903 := Xy77898.at ha0
    refine g_goto C 26 dX12_takeSign_18 (by decide) ?_
    exact ret _ _ _ _ _ dX12_takeSign_26 (by decide) (by decide) ⟨Iy77897, Xz77902, W77901, (by show (pI P a0 7).toInt ≤ (pI Y77896 a0 7).toInt; omega), (by show (pI P a0 8).toInt ≤ (pI Y77896 a0 8).toInt; omega)⟩
theorem dX12_readLine_220 : decode cX12_readLine 220 = .ok (.return_, 1) := by decide +kernel
set_option maxHeartbeats 4000000 in
set_option maxRecDepth 100000 in
theorem s_X12_readLine {P : PP} {a0 : Nat} (I : IM P a0) (hf0 : ∀ b, pR P a0 14 = some b → 1 ≤ (pI P b 2).toInt ∧ (pI P b 2).toInt ≤ 9) (hW : MW P a0) : CtrV yX12_readLine cX12_readLine 2 none ({ frames := 4, cells := 0, slots := 0, locals := 256 } : Room) 0 0 P [.ref a0] (fun P2 => IM P2 a0 ∧ EM [7, 8, 12, 13, 14, 15, 16, 17] a0 P P2 ∧ MW P2 a0 ∧ (1 ≤ (pI P2 a0 8).toInt ∨ (pI P a0 7).toInt < (pI P2 a0 7).toInt) ∧ ((pI P a0 7).toInt ≤ (pI P2 a0 7).toInt) ∧ ((pI P a0 8).toInt ≤ (pI P2 a0 8).toInt) ∧ (∀ b, pR P2 a0 14 = some b → 1 ≤ (pI P2 a0 8).toInt ∨ 1 ≤ (pI P2 b 2).toInt)) := by
  refine enV (lv := [(0, .ref a0)]) (by decide) (Nat.le_of_ble_eq_true rfl) rfl (fun E D cy C Ci0 ret => ?_)
  have ha0 := I.2.1
  have J214 : ∀ (P214 : PP), (IM P214 a0) → (EM [7, 8, 12, 13, 14, 15, 16, 17] a0 P P214) → (MW P214 a0) → (∀ b, pR P214 a0 14 = some b → 0 ≤ (pI P214 b 2).toInt ∧ (pI P214 b 2).toInt ≤ 999) → (1 ≤ (pI P214 a0 8).toInt ∨ (pI P a0 7).toInt < (pI P214 a0 7).toInt) → ((pI P a0 8).toInt ≤ (pI P214 a0 8).toInt) → ((pI P a0 7).toInt ≤ (pI P214 a0 7).toInt) → (∀ b914, pR P214 a0 14 = some b914 → 1 ≤ (pI P214 a0 8).toInt ∨ 1 ≤ (pI P214 b914 2).toInt) → G E ({ frames := 4, cells := 0, slots := 0, locals := 256 } : Room) D cy 2 P214 0 0 214 [(0, .ref a0)] [] := by
    intro P214 I214 X214 W214 hq214_0 rel214_0 rel214_1 rel214_2 rel214_3
    have h78449 := X214.at ha0
    obtain ⟨b78450, e78451, h78452⟩ := I214.fld (h78449) 14 13 3 rfl
    have hq214_0 := hq214_0 b78450 e78451
    have h78453 := I214.rg h78449 8 rfl
    have h78454 := I214.rg h78449 7 rfl
    have rel214_3 := rel214_3 b78450 e78451
    have h78455 := I214.arr e78451 rfl 2
    refine g_aload_n C dX12_readLine_214 rfl 0 rfl ?_
    refine g_bipush (v := 59) C dX12_readLine_215 (by decide) ?_
    refine g_callVV (rest := []) C mv_X12_218 [.int 59] (s_X12_takeSign I214 W214) (h78449).1 (h78449).2 rfl rfl (by decide) (Nat.le_of_ble_eq_true rfl) (by decide) dX12_readLine_217 (fun Y78457 h78458 => ?_)
    obtain ⟨Iy78459, Xy78460, W78461, p78462, p78463⟩ := h78458
    have p78462 : (pI P214 a0 7).toInt ≤ (pI Y78457 a0 7).toInt := p78462
    have p78463 : (pI P214 a0 8).toInt ≤ (pI Y78457 a0 8).toInt := p78463
    have q78464 := Xy78460.keepA e78451 (by decide) rfl 2
    have Xz78465 : EM [7, 8, 12, 13, 14, 15, 16, 17] a0 P Y78457 := EM.tr ha0 X214 (Xy78460.mono (by decide))
    have e78466 := Xy78460.ref h78449 (by decide) e78451
    have h78467 := Xy78460.at h78449
    have h78468 := Xy78460.ar h78452
    have h78469 := Iy78459.rg h78467 7 rfl
    have h78470 := Iy78459.rg h78467 8 rfl
    have h78471 := Iy78459.rg h78467 7 rfl
    have h78472 := Iy78459.rg h78467 8 rfl
    exact ret _ _ _ _ _ dX12_readLine_220 (by decide) (by decide) ⟨Iy78459, Xz78465, W78461, (by show 1 ≤ (pI Y78457 a0 8).toInt ∨ (pI P a0 7).toInt < (pI Y78457 a0 7).toInt; omega), (by show (pI P a0 7).toInt ≤ (pI Y78457 a0 7).toInt; omega), (by show (pI P a0 8).toInt ≤ (pI Y78457 a0 8).toInt; omega), (fun b9 e9 => by rw [e78466] at e9; cases e9; omega)⟩
  have J115 : ∀ (P115 : PP), (IM P115 a0) → (EM [7, 8, 12, 13, 14, 15, 16, 17] a0 P P115) → (MW P115 a0) → (∀ b, pR P115 a0 14 = some b → 1 ≤ (pI P115 b 2).toInt ∧ (pI P115 b 2).toInt ≤ 9) → ((pI P a0 8).toInt ≤ (pI P115 a0 8).toInt) → ((pI P115 a0 7).toInt = (pI P a0 7).toInt) → (1 ≤ (pI P115 a0 8).toInt ∨ (pI P115 a0 7).toInt ≤ 999) → (∀ b915 b94 b96 b99, pR P115 a0 15 = some b915 → pR P115 a0 4 = some b94 → pR P115 a0 6 = some b96 → pR P115 a0 9 = some b99 → 1 ≤ (pI P115 a0 8).toInt ∨ iwA P115 a0 b94 b96 b99 2 = 0 ∨ (pI P115 b915 2).toInt ≤ 3) → G E ({ frames := 4, cells := 0, slots := 0, locals := 256 } : Room) D cy 2 P115 0 0 115 [(0, .ref a0)] [] := by
    intro P115 I115 X115 W115 hq115_0 rel115_0 rel115_1 rel115_2 rel115_3
    have h78473 := X115.at ha0
    obtain ⟨b78474, e78475, h78476⟩ := I115.fld (h78473) 14 13 3 rfl
    have hq115_0 := hq115_0 b78474 e78475
    have h78477 := I115.rg h78473 8 rfl
    have h78478 := I115.rg h78473 7 rfl
    obtain ⟨b78479, e78480, h78481⟩ := I115.fld (h78473) 15 13 3 rfl
    obtain ⟨b78482, e78483, h78484⟩ := I115.fld (h78473) 4 13 1002 rfl
    obtain ⟨b78485, e78486, h78487⟩ := I115.fld (h78473) 6 14 1002 rfl
    obtain ⟨b78488, e78489, h78490⟩ := I115.fld (h78473) 9 14 4 rfl
    have rel115_3 := rel115_3 b78479 b78482 b78485 b78488 e78480 e78483 e78486 e78489
    have h78491 := I115.arr e78480 rfl 2
    refine g_aload_n C dX12_readLine_115 rfl 0 rfl ?_
    refine g_getI C fi_X12_162 (by decide) (h78473).1 (h78473).2 dX12_readLine_116 ?_
    refine b_if_le C 123 dX12_readLine_119 (by decide) (fun h78492 => ?_) (fun h78492 => ?_)
    · have h78492 : (pI P115 a0 8).toInt ≤ 0 := h78492
      refine g_aload_n C dX12_readLine_123 rfl 0 rfl ?_
      refine g_iconst (v := 0) C dX12_readLine_124 (by decide) ?_
      refine g_callVI (rest := []) C mv_X12_175 [.int 0] (s_X12_hasWord I115 (by decide) W115) (h78473).1 (h78473).2 rfl rfl (by decide) (Nat.le_of_ble_eq_true rfl) (by decide) dX12_readLine_125 (fun r78493 Y78494 h78495 => ?_)
      obtain ⟨Iy78496, Xy78497, W78498, h78495⟩ := h78495
      have q78499 := Xy78497.keepA e78475 (by decide) rfl 2
      have q78500 := Xy78497.keepF 8 (by decide)
      have q78501 := Xy78497.keepA e78480 (by decide) rfl 2
      have Xz78502 : EM [7, 8, 12, 13, 14, 15, 16, 17] a0 P Y78494 := EM.tr ha0 X115 (Xy78497.mono (by decide))
      have e78503 := Xy78497.ref h78473 (by decide) e78475
      have e78504 := Xy78497.ref h78473 (by decide) e78480
      have e78505 := Xy78497.ref h78473 (by decide) e78483
      have e78506 := Xy78497.ref h78473 (by decide) e78486
      have e78507 := Xy78497.ref h78473 (by decide) e78489
      have h78508 := Xy78497.at h78473
      have h78509 := Xy78497.ar h78476
      have h78510 := Xy78497.ar h78481
      have h78511 := Xy78497.ar h78484
      have h78512 := Xy78497.ar h78487
      have h78513 := Xy78497.ar h78490
      obtain ⟨h78495, hi78514⟩ := h78495
      obtain ⟨hi78514, hw78515⟩ := hi78514
      have hi78514 : (r78493.toInt = 0 ∨ ((pI P115 a0 8).toInt = 0 ∧ (pI P115 a0 7).toInt ≤ 999)) ∧ (pI Y78494 a0 7).toInt = (pI P115 a0 7).toInt + r78493.toInt := hi78514
      have h78516 := Iy78496.rg h78508 7 rfl
      obtain ⟨hA78517, hB78518⟩ := hw78515 b78482 b78485 b78488 e78483 e78486 e78489
      have hA78517 : r78493.toInt = iwA P115 a0 b78482 b78485 b78488 0 := hA78517
      have hB78518 : r78493.toInt = 0 → iwA Y78494 a0 b78482 b78485 b78488 2 = iwA P115 a0 b78482 b78485 b78488 2 := fun h9 => hB78518 h9 2
      have h78495 : 0 ≤ r78493.toInt ∧ r78493.toInt ≤ 1 := h78495
      refine b_if_eq C 138 dX12_readLine_128 (by decide) (fun h78519 => ?_) (fun h78519 => ?_)
      · have h78519 : r78493.toInt = 0 := congrArg Int32.toInt h78519
        have hk78520 := hB78518 (by omega)
        refine g_aload_n C dX12_readLine_138 rfl 0 rfl ?_
        refine g_iconst (v := 1) C dX12_readLine_139 (by decide) ?_
        refine g_callVI (rest := []) C mv_X12_175 [.int 1] (s_X12_hasWord Iy78496 (by decide) W78498) (h78508).1 (h78508).2 rfl rfl (by decide) (Nat.le_of_ble_eq_true rfl) (by decide) dX12_readLine_140 (fun r78521 Y78522 h78523 => ?_)
        obtain ⟨Iy78524, Xy78525, W78526, h78523⟩ := h78523
        have q78527 := Xy78525.keepA e78503 (by decide) rfl 2
        have q78528 := Xy78525.keepF 8 (by decide)
        have q78529 := Xy78525.keepA e78504 (by decide) rfl 2
        have Xz78530 : EM [7, 8, 12, 13, 14, 15, 16, 17] a0 P Y78522 := EM.tr ha0 Xz78502 (Xy78525.mono (by decide))
        have e78531 := Xy78525.ref h78508 (by decide) e78503
        have e78532 := Xy78525.ref h78508 (by decide) e78504
        have e78533 := Xy78525.ref h78508 (by decide) e78505
        have e78534 := Xy78525.ref h78508 (by decide) e78506
        have e78535 := Xy78525.ref h78508 (by decide) e78507
        have h78536 := Xy78525.at h78508
        have h78537 := Xy78525.ar h78509
        have h78538 := Xy78525.ar h78510
        have h78539 := Xy78525.ar h78511
        have h78540 := Xy78525.ar h78512
        have h78541 := Xy78525.ar h78513
        obtain ⟨h78523, hi78542⟩ := h78523
        obtain ⟨hi78542, hw78543⟩ := hi78542
        have hi78542 : (r78521.toInt = 0 ∨ ((pI Y78494 a0 8).toInt = 0 ∧ (pI Y78494 a0 7).toInt ≤ 999)) ∧ (pI Y78522 a0 7).toInt = (pI Y78494 a0 7).toInt + r78521.toInt := hi78542
        have h78544 := Iy78524.rg h78536 7 rfl
        obtain ⟨hA78545, hB78546⟩ := hw78543 b78482 b78485 b78488 e78505 e78506 e78507
        have hA78545 : r78521.toInt = iwA Y78494 a0 b78482 b78485 b78488 1 := hA78545
        have hB78546 : r78521.toInt = 0 → iwA Y78522 a0 b78482 b78485 b78488 2 = iwA Y78494 a0 b78482 b78485 b78488 2 := fun h9 => hB78546 h9 2
        have h78523 : 0 ≤ r78521.toInt ∧ r78521.toInt ≤ 1 := h78523
        refine b_if_eq C 175 dX12_readLine_143 (by decide) (fun h78547 => ?_) (fun h78547 => ?_)
        · have h78547 : r78521.toInt = 0 := congrArg Int32.toInt h78547
          have hk78548 := hB78546 (by omega)
          refine g_aload_n C dX12_readLine_175 rfl 0 rfl ?_
          refine g_iconst (v := 2) C dX12_readLine_176 (by decide) ?_
          refine g_callVI (rest := []) C mv_X12_175 [.int 2] (s_X12_hasWord Iy78524 (by decide) W78526) (h78536).1 (h78536).2 rfl rfl (by decide) (Nat.le_of_ble_eq_true rfl) (by decide) dX12_readLine_177 (fun r78549 Y78550 h78551 => ?_)
          obtain ⟨Iy78552, Xy78553, W78554, h78551⟩ := h78551
          have q78555 := Xy78553.keepA e78531 (by decide) rfl 2
          have q78556 := Xy78553.keepF 8 (by decide)
          have q78557 := Xy78553.keepA e78532 (by decide) rfl 2
          have Xz78558 : EM [7, 8, 12, 13, 14, 15, 16, 17] a0 P Y78550 := EM.tr ha0 Xz78530 (Xy78553.mono (by decide))
          have e78559 := Xy78553.ref h78536 (by decide) e78531
          have e78560 := Xy78553.ref h78536 (by decide) e78532
          have e78561 := Xy78553.ref h78536 (by decide) e78533
          have e78562 := Xy78553.ref h78536 (by decide) e78534
          have e78563 := Xy78553.ref h78536 (by decide) e78535
          have h78564 := Xy78553.at h78536
          have h78565 := Xy78553.ar h78537
          have h78566 := Xy78553.ar h78538
          have h78567 := Xy78553.ar h78539
          have h78568 := Xy78553.ar h78540
          have h78569 := Xy78553.ar h78541
          obtain ⟨h78551, hi78570⟩ := h78551
          obtain ⟨hi78570, hw78571⟩ := hi78570
          have hi78570 : (r78549.toInt = 0 ∨ ((pI Y78522 a0 8).toInt = 0 ∧ (pI Y78522 a0 7).toInt ≤ 999)) ∧ (pI Y78550 a0 7).toInt = (pI Y78522 a0 7).toInt + r78549.toInt := hi78570
          have h78572 := Iy78552.rg h78564 7 rfl
          obtain ⟨hA78573, hB78574⟩ := hw78571 b78482 b78485 b78488 e78533 e78534 e78535
          have hA78573 : r78549.toInt = iwA Y78522 a0 b78482 b78485 b78488 2 := hA78573
          have hB78574 : r78549.toInt = 0 → iwA Y78550 a0 b78482 b78485 b78488 2 = iwA Y78522 a0 b78482 b78485 b78488 2 := fun h9 => hB78574 h9 2
          have h78551 : 0 ≤ r78549.toInt ∧ r78549.toInt ≤ 1 := h78551
          refine b_if_eq C 190 dX12_readLine_180 (by decide) (fun h78575 => ?_) (fun h78575 => ?_)
          · have h78575 : r78549.toInt = 0 := congrArg Int32.toInt h78575
            have hk78576 := hB78574 (by omega)
            refine g_aload_n C dX12_readLine_190 rfl 0 rfl ?_
            refine g_dup C dX12_readLine_191 rfl ?_
            refine g_getI C fi_X12_159 (by decide) (h78564).1 (h78564).2 dX12_readLine_192 ?_
            refine g_iconst (v := 1) C dX12_readLine_195 (by decide) ?_
            refine s_iadd C dX12_readLine_196 (by show -2147483648 ≤ (pI Y78550 a0 7).toInt + 1 ∧ (pI Y78550 a0 7).toInt + 1 ≤ 2147483647; omega) (fun z78577 h78578 => ?_)
            have h78578 : z78577.toInt = (pI Y78550 a0 7).toInt + 1 := h78578
            refine g_putI C fi_X12_159 rfl (h78564).1 (h78564).2 dX12_readLine_197 ?_
            refine gqW (ks := [7]) (Iy78552.setI (rgOk.of rfl (by omega))) (EM.setI Iy78552 (by decide)) (fun Y78579 Iy78580 Xy78581 w78582  => ?_)
            have w78582 : (pI Y78579 a0 7).toInt = z78577.toInt := w78582
            have q78583 := Xy78581.keepA e78559 (by decide) rfl 2
            have q78584 := Xy78581.keepF 8 (by decide)
            have q78585 := Xy78581.keepA e78560 (by decide) rfl 2
            have W78586 := W78554.keep Iy78552 Xy78581 (by decide) (by decide) (by decide)
            have Xz78587 : EM [7, 8, 12, 13, 14, 15, 16, 17] a0 P Y78579 := EM.tr ha0 Xz78558 (Xy78581.mono (by decide))
            have e78588 := Xy78581.ref h78564 (by decide) e78559
            have e78589 := Xy78581.ref h78564 (by decide) e78560
            have e78590 := Xy78581.ref h78564 (by decide) e78561
            have e78591 := Xy78581.ref h78564 (by decide) e78562
            have e78592 := Xy78581.ref h78564 (by decide) e78563
            have h78593 := Xy78581.at h78564
            have h78594 := Xy78581.ar h78565
            have h78595 := Xy78581.ar h78566
            have h78596 := Xy78581.ar h78567
            have h78597 := Xy78581.ar h78568
            have h78598 := Xy78581.ar h78569
            refine g_aload_n C dX12_readLine_200 rfl 0 rfl ?_
            obtain ⟨b78599, e78600, h78601⟩ := Iy78580.fld (h78593) 17 13 3 rfl
            refine g_getR C fi_X12_66 rfl e78600 (h78593).1 (h78593).2 dX12_readLine_201 ?_
            refine g_iconst (v := 2) C dX12_readLine_204 (by decide) ?_
            refine g_aload_n C dX12_readLine_205 rfl 0 rfl ?_
            refine g_iconst (v := 1) C dX12_readLine_206 (by decide) ?_
            refine g_sipush (v := 996) C dX12_readLine_207 (by decide) ?_
            refine g_callVI (rest := [.int 2, .ref b78599]) C mv_X12_211 [.int 1, .int 996] (s_X12_takeNumber Iy78580 (by decide) (by decide) W78586) (h78593).1 (h78593).2 rfl rfl (by decide) (Nat.le_of_ble_eq_true rfl) (by decide) dX12_readLine_210 (fun r78602 Y78603 h78604 => ?_)
            obtain ⟨Iy78605, Xy78606, W78607, p78608, p78609, p78610, h78604⟩ := h78604
            have p78608 : (pI Y78579 a0 7).toInt ≤ (pI Y78603 a0 7).toInt := p78608
            have p78609 : (pI Y78579 a0 8).toInt ≤ (pI Y78603 a0 8).toInt := p78609
            have p78610 : 1 ≤ (pI Y78603 a0 8).toInt ∨ (pI Y78603 a0 7).toInt = (pI Y78579 a0 7).toInt + 1 := p78610
            have q78611 := Xy78606.keepA e78588 (by decide) rfl 2
            have q78612 := Xy78606.keepA e78589 (by decide) rfl 2
            have Xz78613 : EM [7, 8, 12, 13, 14, 15, 16, 17] a0 P Y78603 := EM.tr ha0 Xz78587 (Xy78606.mono (by decide))
            have e78614 := Xy78606.ref h78593 (by decide) e78588
            have e78615 := Xy78606.ref h78593 (by decide) e78589
            have e78616 := Xy78606.ref h78593 (by decide) e78590
            have e78617 := Xy78606.ref h78593 (by decide) e78591
            have e78618 := Xy78606.ref h78593 (by decide) e78592
            have e78619 := Xy78606.ref h78593 (by decide) e78600
            have h78620 := Xy78606.at h78593
            have h78621 := Xy78606.ar h78594
            have h78622 := Xy78606.ar h78595
            have h78623 := Xy78606.ar h78596
            have h78624 := Xy78606.ar h78597
            have h78625 := Xy78606.ar h78598
            have h78626 := Xy78606.ar h78601
            have h78627 := Iy78605.rg h78620 7 rfl
            have h78628 := Iy78605.rg h78620 8 rfl
            have h78629 := Iy78605.rg h78620 7 rfl
            have h78630 := Iy78605.rg h78620 8 rfl
            obtain ⟨h78604, hi78631⟩ := h78604
            have hi78631 : (1 ≤ (pI Y78603 a0 8).toInt ∧ r78602.toInt = 0) ∨ (1 ≤ r78602.toInt ∧ r78602.toInt ≤ 996) := hi78631
            have h78604 : 0 ≤ r78602.toInt ∧ r78602.toInt ≤ 999 := h78604
            refine g_iast (j := 2) C h78626.1 h78626.2.1 (IX.litn (j := 2) h78626.2.2 rfl (by decide) (by decide)) dX12_readLine_213 ?_
            refine gqW (ks := [17]) (Iy78605.setA e78619 h78626 (by decide) (arOk.none rfl)) (EM.setA Iy78605 e78619 rfl (by decide)) (fun Y78632 Iy78633 Xy78634 w78635  => ?_)
            have w78635 : (pI Y78632 b78599 2).toInt = r78602.toInt := w78635
            have q78636 := Xy78634.keepA e78614 (by decide) rfl 2
            have q78637 := Xy78634.keepA e78615 (by decide) rfl 2
            have q78638 := Xy78634.keepF 7 (by decide)
            have q78639 := Xy78634.keepF 8 (by decide)
            have W78640 := W78607.keep Iy78605 Xy78634 (by decide) (by decide) (by decide)
            have Xz78641 : EM [7, 8, 12, 13, 14, 15, 16, 17] a0 P Y78632 := EM.tr ha0 Xz78613 (Xy78634.mono (by decide))
            have e78642 := Xy78634.ref h78620 (by decide) e78614
            have e78643 := Xy78634.ref h78620 (by decide) e78615
            have e78644 := Xy78634.ref h78620 (by decide) e78616
            have e78645 := Xy78634.ref h78620 (by decide) e78617
            have e78646 := Xy78634.ref h78620 (by decide) e78618
            have e78647 := Xy78634.ref h78620 (by decide) e78619
            have h78648 := Xy78634.at h78620
            have h78649 := Xy78634.ar h78621
            have h78650 := Xy78634.ar h78622
            have h78651 := Xy78634.ar h78623
            have h78652 := Xy78634.ar h78624
            have h78653 := Xy78634.ar h78625
            have h78654 := Xy78634.ar h78626
            exact J214 Y78632 Iy78633 Xz78641 W78640 (fun b9 e9 => by rw [e78642] at e9; cases e9; omega) (by show 1 ≤ (pI Y78632 a0 8).toInt ∨ (pI P a0 7).toInt < (pI Y78632 a0 7).toInt; omega) (by show (pI P a0 8).toInt ≤ (pI Y78632 a0 8).toInt; omega) (by show (pI P a0 7).toInt ≤ (pI Y78632 a0 7).toInt; omega) (by intro b914 e914; rw [e78642] at e914; cases e914; show 1 ≤ (pI Y78632 a0 8).toInt ∨ 1 ≤ (pI Y78632 b78474 2).toInt; omega)
          · have h78575 : r78549.toInt ≠ 0 := ti_ne h78575
            refine g_aload_n C dX12_readLine_183 rfl 0 rfl ?_
            refine g_callVV (rest := []) C mv_X12_215 [] (s_X12_readSum Iy78552 (fun b9 e9 => by rw [e78560] at e9; cases e9; show 0 ≤ (pI Y78550 b78479 2).toInt ∧ (pI Y78550 b78479 2).toInt ≤ 3; omega) W78554) (h78564).1 (h78564).2 rfl rfl (by decide) (Nat.le_of_ble_eq_true rfl) (by decide) dX12_readLine_184 (fun Y78656 h78657 => ?_)
            obtain ⟨Iy78658, Xy78659, W78660, p78661, p78662⟩ := h78657
            have p78661 : (pI Y78550 a0 7).toInt ≤ (pI Y78656 a0 7).toInt := p78661
            have p78662 : (pI Y78550 a0 8).toInt ≤ (pI Y78656 a0 8).toInt := p78662
            have q78663 := Xy78659.keepA e78559 (by decide) rfl 2
            have Xz78664 : EM [7, 8, 12, 13, 14, 15, 16, 17] a0 P Y78656 := EM.tr ha0 Xz78558 (Xy78659.mono (by decide))
            have e78665 := Xy78659.ref h78564 (by decide) e78559
            have e78666 := Xy78659.ref h78564 (by decide) e78561
            have e78667 := Xy78659.ref h78564 (by decide) e78562
            have e78668 := Xy78659.ref h78564 (by decide) e78563
            have h78669 := Xy78659.at h78564
            have h78670 := Xy78659.ar h78565
            have h78671 := Xy78659.ar h78567
            have h78672 := Xy78659.ar h78568
            have h78673 := Xy78659.ar h78569
            have h78674 := Iy78658.rg h78669 7 rfl
            have h78675 := Iy78658.rg h78669 8 rfl
            have h78676 := Iy78658.rg h78669 7 rfl
            have h78677 := Iy78658.rg h78669 8 rfl
            refine g_goto C 214 dX12_readLine_187 (by decide) ?_
            exact J214 Y78656 Iy78658 Xz78664 W78660 (fun b9 e9 => by rw [e78665] at e9; cases e9; omega) (by show 1 ≤ (pI Y78656 a0 8).toInt ∨ (pI P a0 7).toInt < (pI Y78656 a0 7).toInt; omega) (by show (pI P a0 8).toInt ≤ (pI Y78656 a0 8).toInt; omega) (by show (pI P a0 7).toInt ≤ (pI Y78656 a0 7).toInt; omega) (by intro b914 e914; rw [e78665] at e914; cases e914; show 1 ≤ (pI Y78656 a0 8).toInt ∨ 1 ≤ (pI Y78656 b78474 2).toInt; omega)
        · have h78547 : r78521.toInt ≠ 0 := ti_ne h78547
          refine g_aload_n C dX12_readLine_146 rfl 0 rfl ?_
          obtain ⟨b78678, e78679, h78680⟩ := Iy78524.fld (h78536) 13 13 3 rfl
          refine g_getR C fi_X12_54 rfl e78679 (h78536).1 (h78536).2 dX12_readLine_147 ?_
          refine g_iconst (v := 2) C dX12_readLine_150 (by decide) ?_
          refine g_aload_n C dX12_readLine_151 rfl 0 rfl ?_
          refine g_iconst (v := 1) C dX12_readLine_152 (by decide) ?_
          refine g_bipush (v := 16) C dX12_readLine_153 (by decide) ?_
          refine g_callVI (rest := [.int 2, .ref b78678]) C mv_X12_211 [.int 1, .int 16] (s_X12_takeNumber Iy78524 (by decide) (by decide) W78526) (h78536).1 (h78536).2 rfl rfl (by decide) (Nat.le_of_ble_eq_true rfl) (by decide) dX12_readLine_155 (fun r78681 Y78682 h78683 => ?_)
          obtain ⟨Iy78684, Xy78685, W78686, p78687, p78688, p78689, h78683⟩ := h78683
          have p78687 : (pI Y78522 a0 7).toInt ≤ (pI Y78682 a0 7).toInt := p78687
          have p78688 : (pI Y78522 a0 8).toInt ≤ (pI Y78682 a0 8).toInt := p78688
          have p78689 : 1 ≤ (pI Y78682 a0 8).toInt ∨ (pI Y78682 a0 7).toInt = (pI Y78522 a0 7).toInt + 1 := p78689
          have q78690 := Xy78685.keepA e78531 (by decide) rfl 2
          have q78691 := Xy78685.keepA e78532 (by decide) rfl 2
          have Xz78692 : EM [7, 8, 12, 13, 14, 15, 16, 17] a0 P Y78682 := EM.tr ha0 Xz78530 (Xy78685.mono (by decide))
          have e78693 := Xy78685.ref h78536 (by decide) e78531
          have e78694 := Xy78685.ref h78536 (by decide) e78532
          have e78695 := Xy78685.ref h78536 (by decide) e78533
          have e78696 := Xy78685.ref h78536 (by decide) e78534
          have e78697 := Xy78685.ref h78536 (by decide) e78535
          have e78698 := Xy78685.ref h78536 (by decide) e78679
          have h78699 := Xy78685.at h78536
          have h78700 := Xy78685.ar h78537
          have h78701 := Xy78685.ar h78538
          have h78702 := Xy78685.ar h78539
          have h78703 := Xy78685.ar h78540
          have h78704 := Xy78685.ar h78541
          have h78705 := Xy78685.ar h78680
          have h78706 := Iy78684.rg h78699 7 rfl
          have h78707 := Iy78684.rg h78699 8 rfl
          have h78708 := Iy78684.rg h78699 7 rfl
          have h78709 := Iy78684.rg h78699 8 rfl
          obtain ⟨h78683, hi78710⟩ := h78683
          have hi78710 : (1 ≤ (pI Y78682 a0 8).toInt ∧ r78681.toInt = 0) ∨ (1 ≤ r78681.toInt ∧ r78681.toInt ≤ 16) := hi78710
          have h78683 : 0 ≤ r78681.toInt ∧ r78681.toInt ≤ 999 := h78683
          refine g_iast (j := 2) C h78705.1 h78705.2.1 (IX.litn (j := 2) h78705.2.2 rfl (by decide) (by decide)) dX12_readLine_158 ?_
          refine gqW (ks := [13]) (Iy78684.setA e78698 h78705 (by decide) (arOk.none rfl)) (EM.setA Iy78684 e78698 rfl (by decide)) (fun Y78711 Iy78712 Xy78713 w78714  => ?_)
          have w78714 : (pI Y78711 b78678 2).toInt = r78681.toInt := w78714
          have q78715 := Xy78713.keepA e78693 (by decide) rfl 2
          have q78716 := Xy78713.keepA e78694 (by decide) rfl 2
          have q78717 := Xy78713.keepF 7 (by decide)
          have q78718 := Xy78713.keepF 8 (by decide)
          have W78719 := W78686.keep Iy78684 Xy78713 (by decide) (by decide) (by decide)
          have Xz78720 : EM [7, 8, 12, 13, 14, 15, 16, 17] a0 P Y78711 := EM.tr ha0 Xz78692 (Xy78713.mono (by decide))
          have e78721 := Xy78713.ref h78699 (by decide) e78693
          have e78722 := Xy78713.ref h78699 (by decide) e78694
          have e78723 := Xy78713.ref h78699 (by decide) e78695
          have e78724 := Xy78713.ref h78699 (by decide) e78696
          have e78725 := Xy78713.ref h78699 (by decide) e78697
          have e78726 := Xy78713.ref h78699 (by decide) e78698
          have h78727 := Xy78713.at h78699
          have h78728 := Xy78713.ar h78700
          have h78729 := Xy78713.ar h78701
          have h78730 := Xy78713.ar h78702
          have h78731 := Xy78713.ar h78703
          have h78732 := Xy78713.ar h78704
          have h78733 := Xy78713.ar h78705
          refine g_aload_n C dX12_readLine_159 rfl 0 rfl ?_
          refine g_getR C fi_X12_57 rfl e78721 (h78727).1 (h78727).2 dX12_readLine_160 ?_
          refine g_iconst (v := 2) C dX12_readLine_163 (by decide) ?_
          refine g_aload_n C dX12_readLine_164 rfl 0 rfl ?_
          refine g_iconst (v := 2) C dX12_readLine_165 (by decide) ?_
          refine g_bipush (v := 9) C dX12_readLine_166 (by decide) ?_
          refine g_callVI (rest := [.int 2, .ref b78474]) C mv_X12_211 [.int 2, .int 9] (s_X12_takeNumber Iy78712 (by decide) (by decide) W78719) (h78727).1 (h78727).2 rfl rfl (by decide) (Nat.le_of_ble_eq_true rfl) (by decide) dX12_readLine_168 (fun r78734 Y78735 h78736 => ?_)
          obtain ⟨Iy78737, Xy78738, W78739, p78740, p78741, p78742, h78736⟩ := h78736
          have p78740 : (pI Y78711 a0 7).toInt ≤ (pI Y78735 a0 7).toInt := p78740
          have p78741 : (pI Y78711 a0 8).toInt ≤ (pI Y78735 a0 8).toInt := p78741
          have p78742 : 1 ≤ (pI Y78735 a0 8).toInt ∨ (pI Y78735 a0 7).toInt = (pI Y78711 a0 7).toInt + 1 := p78742
          have q78743 := Xy78738.keepA e78721 (by decide) rfl 2
          have q78744 := Xy78738.keepA e78722 (by decide) rfl 2
          have q78745 := Xy78738.keepA e78726 (by decide) rfl 2
          have Xz78746 : EM [7, 8, 12, 13, 14, 15, 16, 17] a0 P Y78735 := EM.tr ha0 Xz78720 (Xy78738.mono (by decide))
          have e78747 := Xy78738.ref h78727 (by decide) e78721
          have e78748 := Xy78738.ref h78727 (by decide) e78722
          have e78749 := Xy78738.ref h78727 (by decide) e78723
          have e78750 := Xy78738.ref h78727 (by decide) e78724
          have e78751 := Xy78738.ref h78727 (by decide) e78725
          have e78752 := Xy78738.ref h78727 (by decide) e78726
          have h78753 := Xy78738.at h78727
          have h78754 := Xy78738.ar h78728
          have h78755 := Xy78738.ar h78729
          have h78756 := Xy78738.ar h78730
          have h78757 := Xy78738.ar h78731
          have h78758 := Xy78738.ar h78732
          have h78759 := Xy78738.ar h78733
          have h78760 := Iy78737.rg h78753 7 rfl
          have h78761 := Iy78737.rg h78753 8 rfl
          have h78762 := Iy78737.rg h78753 7 rfl
          have h78763 := Iy78737.rg h78753 8 rfl
          obtain ⟨h78736, hi78764⟩ := h78736
          have hi78764 : (1 ≤ (pI Y78735 a0 8).toInt ∧ r78734.toInt = 0) ∨ (2 ≤ r78734.toInt ∧ r78734.toInt ≤ 9) := hi78764
          have h78736 : 0 ≤ r78734.toInt ∧ r78734.toInt ≤ 999 := h78736
          refine g_iast (j := 2) C h78754.1 h78754.2.1 (IX.litn (j := 2) h78754.2.2 rfl (by decide) (by decide)) dX12_readLine_171 ?_
          refine gqX (ks := [14]) (W := (fun P => MW P a0)) (Iy78737.setA e78747 h78754 (by decide) (arOk.of rfl (by omega))) (EM.setA Iy78737 e78747 rfl (by decide)) (W78739.set14 Iy78737 e78747 (by first | exact Or.inl (by decide) | exact Or.inr (by omega))) (fun Y78765 Iy78766 Xy78767 w78768 W78769 => ?_)
          have w78768 : (pI Y78765 b78474 2).toInt = r78734.toInt := w78768
          have q78770 := Xy78767.keepA e78748 (by decide) rfl 2
          have q78771 := Xy78767.keepA e78752 (by decide) rfl 2
          have q78772 := Xy78767.keepF 7 (by decide)
          have q78773 := Xy78767.keepF 8 (by decide)
          have Xz78774 : EM [7, 8, 12, 13, 14, 15, 16, 17] a0 P Y78765 := EM.tr ha0 Xz78746 (Xy78767.mono (by decide))
          have e78775 := Xy78767.ref h78753 (by decide) e78747
          have e78776 := Xy78767.ref h78753 (by decide) e78748
          have e78777 := Xy78767.ref h78753 (by decide) e78749
          have e78778 := Xy78767.ref h78753 (by decide) e78750
          have e78779 := Xy78767.ref h78753 (by decide) e78751
          have e78780 := Xy78767.ref h78753 (by decide) e78752
          have h78781 := Xy78767.at h78753
          have h78782 := Xy78767.ar h78754
          have h78783 := Xy78767.ar h78755
          have h78784 := Xy78767.ar h78756
          have h78785 := Xy78767.ar h78757
          have h78786 := Xy78767.ar h78758
          have h78787 := Xy78767.ar h78759
          refine g_goto C 214 dX12_readLine_172 (by decide) ?_
          exact J214 Y78765 Iy78766 Xz78774 W78769 (fun b9 e9 => by rw [e78775] at e9; cases e9; omega) (by show 1 ≤ (pI Y78765 a0 8).toInt ∨ (pI P a0 7).toInt < (pI Y78765 a0 7).toInt; omega) (by show (pI P a0 8).toInt ≤ (pI Y78765 a0 8).toInt; omega) (by show (pI P a0 7).toInt ≤ (pI Y78765 a0 7).toInt; omega) (by intro b914 e914; rw [e78775] at e914; cases e914; show 1 ≤ (pI Y78765 a0 8).toInt ∨ 1 ≤ (pI Y78765 b78474 2).toInt; omega)
      · have h78519 : r78493.toInt ≠ 0 := ti_ne h78519
        refine g_aload_n C dX12_readLine_131 rfl 0 rfl ?_
        refine g_callVV (rest := []) C mv_X12_208 [] (s_X12_readOdds Iy78496 W78498) (h78508).1 (h78508).2 rfl rfl (by decide) (Nat.le_of_ble_eq_true rfl) (by decide) dX12_readLine_132 (fun Y78789 h78790 => ?_)
        obtain ⟨Iy78791, Xy78792, W78793, p78794, p78795⟩ := h78790
        have p78794 : (pI Y78494 a0 7).toInt ≤ (pI Y78789 a0 7).toInt := p78794
        have p78795 : (pI Y78494 a0 8).toInt ≤ (pI Y78789 a0 8).toInt := p78795
        have q78796 := Xy78792.keepA e78503 (by decide) rfl 2
        have q78797 := Xy78792.keepA e78504 (by decide) rfl 2
        have Xz78798 : EM [7, 8, 12, 13, 14, 15, 16, 17] a0 P Y78789 := EM.tr ha0 Xz78502 (Xy78792.mono (by decide))
        have e78799 := Xy78792.ref h78508 (by decide) e78503
        have e78800 := Xy78792.ref h78508 (by decide) e78504
        have e78801 := Xy78792.ref h78508 (by decide) e78505
        have e78802 := Xy78792.ref h78508 (by decide) e78506
        have e78803 := Xy78792.ref h78508 (by decide) e78507
        have h78804 := Xy78792.at h78508
        have h78805 := Xy78792.ar h78509
        have h78806 := Xy78792.ar h78510
        have h78807 := Xy78792.ar h78511
        have h78808 := Xy78792.ar h78512
        have h78809 := Xy78792.ar h78513
        have h78810 := Iy78791.rg h78804 7 rfl
        have h78811 := Iy78791.rg h78804 8 rfl
        have h78812 := Iy78791.rg h78804 7 rfl
        have h78813 := Iy78791.rg h78804 8 rfl
        refine g_goto C 214 dX12_readLine_135 (by decide) ?_
        exact J214 Y78789 Iy78791 Xz78798 W78793 (fun b9 e9 => by rw [e78799] at e9; cases e9; omega) (by show 1 ≤ (pI Y78789 a0 8).toInt ∨ (pI P a0 7).toInt < (pI Y78789 a0 7).toInt; omega) (by show (pI P a0 8).toInt ≤ (pI Y78789 a0 8).toInt; omega) (by show (pI P a0 7).toInt ≤ (pI Y78789 a0 7).toInt; omega) (by intro b914 e914; rw [e78799] at e914; cases e914; show 1 ≤ (pI Y78789 a0 8).toInt ∨ 1 ≤ (pI Y78789 b78474 2).toInt; omega)
    · have h78492 : 0 < (pI P115 a0 8).toInt := h78492
      exact ret _ _ _ _ _ dX12_readLine_122 (by decide) (by decide) ⟨I115, X115, W115, (by show 1 ≤ (pI P115 a0 8).toInt ∨ (pI P a0 7).toInt < (pI P115 a0 7).toInt; omega), (by show (pI P a0 7).toInt ≤ (pI P115 a0 7).toInt; omega), (by show (pI P a0 8).toInt ≤ (pI P115 a0 8).toInt; omega), (fun b9 e9 => by rw [e78475] at e9; cases e9; omega)⟩
  have J80 : ∀ (v80_1 : Int32), (0 ≤ v80_1.toInt ∧ v80_1.toInt ≤ 1) → (∀ b, pR P a0 14 = some b → 1 ≤ (pI P b 2).toInt ∧ (pI P b 2).toInt ≤ 9) → ((pI P a0 7).toInt ≤ 999) → G E ({ frames := 4, cells := 0, slots := 0, locals := 256 } : Room) D cy 2 P 0 0 80 [(0, .ref a0), (1, .int v80_1)] [] := by
    intro v80_1 hv80_1 hq80_0 rel80_0
    obtain ⟨b78814, e78815, h78816⟩ := I.fld (ha0) 14 13 3 rfl
    have hq80_0 := hq80_0 b78814 e78815
    have h78817 := I.rg ha0 7 rfl
    refine g_iload_n C dX12_readLine_80 rfl 1 rfl ?_
    refine b_if_eq C 92 dX12_readLine_81 (by decide) (fun h78818 => ?_) (fun h78818 => ?_)
    · have h78818 : v80_1.toInt = 0 := congrArg Int32.toInt h78818
      refine g_aload_n C dX12_readLine_92 rfl 0 rfl ?_
      refine g_iconst (v := 2) C dX12_readLine_93 (by decide) ?_
      refine g_callVI (rest := []) C mv_X12_172 [.int 2] (s_X12_isWord I (by decide) hW) (ha0).1 (ha0).2 rfl rfl (by decide) (Nat.le_of_ble_eq_true rfl) (by decide) dX12_readLine_94 (fun r78819 Y78820 h78821 => ?_)
      obtain ⟨rfl, h78821⟩ := h78821
      obtain ⟨h78821, hi78822⟩ := h78821
      obtain ⟨b78823, e78824, h78825⟩ := I.fld (ha0) 4 13 1002 rfl
      obtain ⟨b78826, e78827, h78828⟩ := I.fld (ha0) 6 14 1002 rfl
      obtain ⟨b78829, e78830, h78831⟩ := I.fld (ha0) 9 14 4 rfl
      obtain ⟨hi78822, hw78832⟩ := hi78822
      have hi78822 : r78819.toInt = 0 ∨ ((pI P a0 8).toInt = 0 ∧ (pI P a0 7).toInt ≤ 999) := hi78822
      have h78833 := I.rg ha0 8 rfl
      have hw78832 : r78819.toInt = iwA P a0 b78823 b78826 b78829 2 := hw78832 b78823 b78826 b78829 e78824 e78827 e78830
      have h78821 : 0 ≤ r78819.toInt ∧ r78819.toInt ≤ 1 := h78821
      refine b_if_eq C 115 dX12_readLine_97 (by decide) (fun h78834 => ?_) (fun h78834 => ?_)
      · have h78834 : r78819.toInt = 0 := congrArg Int32.toInt h78834
        refine g_lv (lv' := [(0, .ref a0)]) [0] rfl ?_
        obtain ⟨b78835, e78836, h78837⟩ := I.fld (ha0) 15 13 3 rfl
        exact J115 P I EM.rf hW (fun b9 e9 => by rw [e78815] at e9; cases e9; omega) (by show (pI P a0 8).toInt ≤ (pI P a0 8).toInt; omega) (by show (pI P a0 7).toInt = (pI P a0 7).toInt; omega) (by show 1 ≤ (pI P a0 8).toInt ∨ (pI P a0 7).toInt ≤ 999; omega) (by intro b915 b94 b96 b99 e915 e94 e96 e99; rw [e78836] at e915; cases e915; rw [e78824] at e94; cases e94; rw [e78827] at e96; cases e96; rw [e78830] at e99; cases e99; show 1 ≤ (pI P a0 8).toInt ∨ iwA P a0 b78823 b78826 b78829 2 = 0 ∨ (pI P b78835 2).toInt ≤ 3; omega)
      · have h78834 : r78819.toInt ≠ 0 := ti_ne h78834
        refine g_aload_n C dX12_readLine_100 rfl 0 rfl ?_
        obtain ⟨b78838, e78839, h78840⟩ := I.fld (ha0) 15 13 3 rfl
        refine g_getR C fi_X12_60 rfl e78839 (ha0).1 (ha0).2 dX12_readLine_101 ?_
        refine g_iconst (v := 2) C dX12_readLine_104 (by decide) ?_
        refine g_iald (j := 2) C h78840.1 h78840.2.1 (IX.litn (j := 2) h78840.2.2 rfl (by decide) (by decide)) dX12_readLine_105 ?_
        have h78841 := I.arr e78839 rfl 2
        refine g_iconst (v := 4) C dX12_readLine_106 (by decide) ?_
        refine b_icmp_ne C 115 dX12_readLine_107 (by decide) (fun h78842 => ?_) (fun h78842 => ?_)
        · have h78842 : (pI P b78838 2).toInt ≠ 4 := ti_ne h78842
          refine g_lv (lv' := [(0, .ref a0)]) [0] rfl ?_
          exact J115 P I EM.rf hW (fun b9 e9 => by rw [e78815] at e9; cases e9; omega) (by show (pI P a0 8).toInt ≤ (pI P a0 8).toInt; omega) (by show (pI P a0 7).toInt = (pI P a0 7).toInt; omega) (by show 1 ≤ (pI P a0 8).toInt ∨ (pI P a0 7).toInt ≤ 999; omega) (by intro b915 b94 b96 b99 e915 e94 e96 e99; rw [e78839] at e915; cases e915; rw [e78824] at e94; cases e94; rw [e78827] at e96; cases e96; rw [e78830] at e99; cases e99; show 1 ≤ (pI P a0 8).toInt ∨ iwA P a0 b78823 b78826 b78829 2 = 0 ∨ (pI P b78838 2).toInt ≤ 3; omega)
        · have h78842 : (pI P b78838 2).toInt = 4 := congrArg Int32.toInt h78842
          refine g_aload_n C dX12_readLine_110 rfl 0 rfl ?_
          refine g_iconst (v := 5) C dX12_readLine_111 (by decide) ?_
          refine g_callVV (rest := []) C mv_X12_168 [.int 5] (s_X12_wrong I (by decide) hW) (ha0).1 (ha0).2 rfl rfl (by decide) (Nat.le_of_ble_eq_true rfl) (by decide) dX12_readLine_112 (fun Y78844 h78845 => ?_)
          obtain ⟨Iy78846, Xy78847, W78848, p78849, p78850⟩ := h78845
          have p78849 : 1 ≤ (pI Y78844 a0 8).toInt := p78849
          have p78850 : (pI P a0 8).toInt ≤ (pI Y78844 a0 8).toInt := p78850
          have q78851 := Xy78847.keepA e78815 (by decide) rfl 2
          have q78852 := Xy78847.keepF 7 (by decide)
          have q78853 := Xy78847.keepA e78839 (by decide) rfl 2
          have Xz78854 : EM [7, 8, 12, 13, 14, 15, 16, 17] a0 P Y78844 := Xy78847.mono (by decide)
          have e78855 := Xy78847.ref ha0 (by decide) e78815
          have e78856 := Xy78847.ref ha0 (by decide) e78824
          have e78857 := Xy78847.ref ha0 (by decide) e78827
          have e78858 := Xy78847.ref ha0 (by decide) e78830
          have e78859 := Xy78847.ref ha0 (by decide) e78839
          have h78860 := Xy78847.at ha0
          have h78861 := Xy78847.ar h78816
          have h78862 := Xy78847.ar h78825
          have h78863 := Xy78847.ar h78828
          have h78864 := Xy78847.ar h78831
          have h78865 := Xy78847.ar h78840
          have h78866 := Iy78846.rg h78860 8 rfl
          refine g_lv (lv' := [(0, .ref a0)]) [0] rfl ?_
          exact J115 Y78844 Iy78846 Xz78854 W78848 (fun b9 e9 => by rw [e78855] at e9; cases e9; omega) (by show (pI P a0 8).toInt ≤ (pI Y78844 a0 8).toInt; omega) (by show (pI Y78844 a0 7).toInt = (pI P a0 7).toInt; omega) (by show 1 ≤ (pI Y78844 a0 8).toInt ∨ (pI Y78844 a0 7).toInt ≤ 999; omega) (by intro b915 b94 b96 b99 e915 e94 e96 e99; rw [e78859] at e915; cases e915; rw [e78856] at e94; cases e94; rw [e78857] at e96; cases e96; rw [e78858] at e99; cases e99; show 1 ≤ (pI Y78844 a0 8).toInt ∨ iwA Y78844 a0 b78823 b78826 b78829 2 = 0 ∨ (pI Y78844 b78838 2).toInt ≤ 3; omega)
    · have h78818 : v80_1.toInt ≠ 0 := ti_ne h78818
      refine g_aload_n C dX12_readLine_84 rfl 0 rfl ?_
      refine g_iconst (v := 3) C dX12_readLine_85 (by decide) ?_
      refine g_callVV (rest := []) C mv_X12_168 [.int 3] (s_X12_wrong I (by decide) hW) (ha0).1 (ha0).2 rfl rfl (by decide) (Nat.le_of_ble_eq_true rfl) (by decide) dX12_readLine_86 (fun Y78868 h78869 => ?_)
      obtain ⟨Iy78870, Xy78871, W78872, p78873, p78874⟩ := h78869
      have p78873 : 1 ≤ (pI Y78868 a0 8).toInt := p78873
      have p78874 : (pI P a0 8).toInt ≤ (pI Y78868 a0 8).toInt := p78874
      have q78875 := Xy78871.keepA e78815 (by decide) rfl 2
      have q78876 := Xy78871.keepF 7 (by decide)
      have Xz78877 : EM [7, 8, 12, 13, 14, 15, 16, 17] a0 P Y78868 := Xy78871.mono (by decide)
      have e78878 := Xy78871.ref ha0 (by decide) e78815
      have h78879 := Xy78871.at ha0
      have h78880 := Xy78871.ar h78816
      have h78881 := Iy78870.rg h78879 8 rfl
      refine g_goto C 115 dX12_readLine_89 (by decide) ?_
      refine g_lv (lv' := [(0, .ref a0)]) [0] rfl ?_
      obtain ⟨b78882, e78883, h78884⟩ := Iy78870.fld (h78879) 15 13 3 rfl
      obtain ⟨b78885, e78886, h78887⟩ := Iy78870.fld (h78879) 4 13 1002 rfl
      obtain ⟨b78888, e78889, h78890⟩ := Iy78870.fld (h78879) 6 14 1002 rfl
      obtain ⟨b78891, e78892, h78893⟩ := Iy78870.fld (h78879) 9 14 4 rfl
      exact J115 Y78868 Iy78870 Xz78877 W78872 (fun b9 e9 => by rw [e78878] at e9; cases e9; omega) (by show (pI P a0 8).toInt ≤ (pI Y78868 a0 8).toInt; omega) (by show (pI Y78868 a0 7).toInt = (pI P a0 7).toInt; omega) (by show 1 ≤ (pI Y78868 a0 8).toInt ∨ (pI Y78868 a0 7).toInt ≤ 999; omega) (by intro b915 b94 b96 b99 e915 e94 e96 e99; rw [e78883] at e915; cases e915; rw [e78886] at e94; cases e94; rw [e78889] at e96; cases e96; rw [e78892] at e99; cases e99; show 1 ≤ (pI Y78868 a0 8).toInt ∨ iwA Y78868 a0 b78885 b78888 b78891 2 = 0 ∨ (pI Y78868 b78882 2).toInt ≤ 3; omega)
  have J39 : ∀ (v39_s0 : Int32), (0 ≤ v39_s0.toInt ∧ v39_s0.toInt ≤ 1) → (∀ b, pR P a0 14 = some b → 1 ≤ (pI P b 2).toInt ∧ (pI P b 2).toInt ≤ 9) → G E ({ frames := 4, cells := 0, slots := 0, locals := 256 } : Room) D cy 2 P 0 0 39 [(0, .ref a0)] [.int v39_s0] := by
    intro v39_s0 hv39_s0 hq39_0
    obtain ⟨b78894, e78895, h78896⟩ := I.fld (ha0) 14 13 3 rfl
    have hq39_0 := hq39_0 b78894 e78895
    refine g_istore_n (lv' := [(1, .int v39_s0), (0, .ref a0)]) C dX12_readLine_39 rfl (by decide) rfl ?_
    refine g_aload_n C dX12_readLine_40 rfl 1 rfl ?_
    refine g_iconst (v := 0) C dX12_readLine_41 (by decide) ?_
    refine g_callVI (rest := []) C mv_X12_172 [.int 0] (s_X12_isWord I (by decide) hW) (ha0).1 (ha0).2 rfl rfl (by decide) (Nat.le_of_ble_eq_true rfl) (by decide) dX12_readLine_42 (fun r78897 Y78898 h78899 => ?_)
    obtain ⟨rfl, h78899⟩ := h78899
    obtain ⟨h78899, hi78900⟩ := h78899
    obtain ⟨b78901, e78902, h78903⟩ := I.fld (ha0) 4 13 1002 rfl
    obtain ⟨b78904, e78905, h78906⟩ := I.fld (ha0) 6 14 1002 rfl
    obtain ⟨b78907, e78908, h78909⟩ := I.fld (ha0) 9 14 4 rfl
    obtain ⟨hi78900, hw78910⟩ := hi78900
    have hi78900 : r78897.toInt = 0 ∨ ((pI P a0 8).toInt = 0 ∧ (pI P a0 7).toInt ≤ 999) := hi78900
    have h78911 := I.rg ha0 7 rfl
    have h78912 := I.rg ha0 8 rfl
    have hw78910 : r78897.toInt = iwA P a0 b78901 b78904 b78907 0 := hw78910 b78901 b78904 b78907 e78902 e78905 e78908
    have h78899 : 0 ≤ r78897.toInt ∧ r78897.toInt ≤ 1 := h78899
    refine b_if_ne C 80 dX12_readLine_45 (by decide) (fun h78913 => ?_) (fun h78913 => ?_)
    · have h78913 : r78897.toInt ≠ 0 := ti_ne h78913
      refine g_lv (lv' := [(0, .ref a0), (1, .int v39_s0)]) [1, 0] rfl ?_
      exact J80 v39_s0 (by omega) (fun b9 e9 => by rw [e78895] at e9; cases e9; omega) (by show (pI P a0 7).toInt ≤ 999; omega)
    · have h78913 : r78897.toInt = 0 := congrArg Int32.toInt h78913
      refine g_aload_n C dX12_readLine_48 rfl 1 rfl ?_
      refine g_iconst (v := 1) C dX12_readLine_49 (by decide) ?_
      refine g_callVI (rest := []) C mv_X12_172 [.int 1] (s_X12_isWord I (by decide) hW) (ha0).1 (ha0).2 rfl rfl (by decide) (Nat.le_of_ble_eq_true rfl) (by decide) dX12_readLine_50 (fun r78914 Y78915 h78916 => ?_)
      obtain ⟨rfl, h78916⟩ := h78916
      obtain ⟨h78916, hi78917⟩ := h78916
      obtain ⟨hi78917, hw78918⟩ := hi78917
      have hi78917 : r78914.toInt = 0 ∨ ((pI P a0 8).toInt = 0 ∧ (pI P a0 7).toInt ≤ 999) := hi78917
      have hw78918 : r78914.toInt = iwA P a0 b78901 b78904 b78907 1 := hw78918 b78901 b78904 b78907 e78902 e78905 e78908
      have h78916 : 0 ≤ r78914.toInt ∧ r78914.toInt ≤ 1 := h78916
      refine b_if_ne C 80 dX12_readLine_53 (by decide) (fun h78919 => ?_) (fun h78919 => ?_)
      · have h78919 : r78914.toInt ≠ 0 := ti_ne h78919
        refine g_lv (lv' := [(0, .ref a0), (1, .int v39_s0)]) [1, 0] rfl ?_
        exact J80 v39_s0 (by omega) (fun b9 e9 => by rw [e78895] at e9; cases e9; omega) (by show (pI P a0 7).toInt ≤ 999; omega)
      · have h78919 : r78914.toInt = 0 := congrArg Int32.toInt h78919
        refine g_aload_n C dX12_readLine_56 rfl 1 rfl ?_
        refine g_iconst (v := 2) C dX12_readLine_57 (by decide) ?_
        refine g_callVI (rest := []) C mv_X12_172 [.int 2] (s_X12_isWord I (by decide) hW) (ha0).1 (ha0).2 rfl rfl (by decide) (Nat.le_of_ble_eq_true rfl) (by decide) dX12_readLine_58 (fun r78920 Y78921 h78922 => ?_)
        obtain ⟨rfl, h78922⟩ := h78922
        obtain ⟨h78922, hi78923⟩ := h78922
        obtain ⟨hi78923, hw78924⟩ := hi78923
        have hi78923 : r78920.toInt = 0 ∨ ((pI P a0 8).toInt = 0 ∧ (pI P a0 7).toInt ≤ 999) := hi78923
        have hw78924 : r78920.toInt = iwA P a0 b78901 b78904 b78907 2 := hw78924 b78901 b78904 b78907 e78902 e78905 e78908
        have h78922 : 0 ≤ r78920.toInt ∧ r78920.toInt ≤ 1 := h78922
        refine b_if_ne C 80 dX12_readLine_61 (by decide) (fun h78925 => ?_) (fun h78925 => ?_)
        · have h78925 : r78920.toInt ≠ 0 := ti_ne h78925
          refine g_lv (lv' := [(0, .ref a0), (1, .int v39_s0)]) [1, 0] rfl ?_
          exact J80 v39_s0 (by omega) (fun b9 e9 => by rw [e78895] at e9; cases e9; omega) (by show (pI P a0 7).toInt ≤ 999; omega)
        · have h78925 : r78920.toInt = 0 := congrArg Int32.toInt h78925
          refine g_aload_n C dX12_readLine_64 rfl 1 rfl ?_
          refine g_iconst (v := 3) C dX12_readLine_65 (by decide) ?_
          refine g_callVI (rest := []) C mv_X12_172 [.int 3] (s_X12_isWord I (by decide) hW) (ha0).1 (ha0).2 rfl rfl (by decide) (Nat.le_of_ble_eq_true rfl) (by decide) dX12_readLine_66 (fun r78926 Y78927 h78928 => ?_)
          obtain ⟨rfl, h78928⟩ := h78928
          obtain ⟨h78928, hi78929⟩ := h78928
          obtain ⟨hi78929, hw78930⟩ := hi78929
          have hi78929 : r78926.toInt = 0 ∨ ((pI P a0 8).toInt = 0 ∧ (pI P a0 7).toInt ≤ 999) := hi78929
          have hw78930 : r78926.toInt = iwA P a0 b78901 b78904 b78907 3 := hw78930 b78901 b78904 b78907 e78902 e78905 e78908
          have h78928 : 0 ≤ r78926.toInt ∧ r78926.toInt ≤ 1 := h78928
          refine b_if_ne C 80 dX12_readLine_69 (by decide) (fun h78931 => ?_) (fun h78931 => ?_)
          · have h78931 : r78926.toInt ≠ 0 := ti_ne h78931
            refine g_lv (lv' := [(0, .ref a0), (1, .int v39_s0)]) [1, 0] rfl ?_
            exact J80 v39_s0 (by omega) (fun b9 e9 => by rw [e78895] at e9; cases e9; omega) (by show (pI P a0 7).toInt ≤ 999; omega)
          · have h78931 : r78926.toInt = 0 := congrArg Int32.toInt h78931
            refine g_aload_n C dX12_readLine_72 rfl 1 rfl ?_
            refine g_iconst (v := 1) C dX12_readLine_73 (by decide) ?_
            refine g_callVV (rest := []) C mv_X12_168 [.int 1] (s_X12_wrong I (by decide) hW) (ha0).1 (ha0).2 rfl rfl (by decide) (Nat.le_of_ble_eq_true rfl) (by decide) dX12_readLine_74 (fun Y78933 h78934 => ?_)
            obtain ⟨Iy78935, Xy78936, W78937, p78938, p78939⟩ := h78934
            have p78938 : 1 ≤ (pI Y78933 a0 8).toInt := p78938
            have p78939 : (pI P a0 8).toInt ≤ (pI Y78933 a0 8).toInt := p78939
            have q78940 := Xy78936.keepA e78895 (by decide) rfl 2
            have q78941 := Xy78936.keepF 7 (by decide)
            have Xz78942 : EM [7, 8, 12, 13, 14, 15, 16, 17] a0 P Y78933 := Xy78936.mono (by decide)
            have e78943 := Xy78936.ref ha0 (by decide) e78895
            have e78944 := Xy78936.ref ha0 (by decide) e78902
            have e78945 := Xy78936.ref ha0 (by decide) e78905
            have e78946 := Xy78936.ref ha0 (by decide) e78908
            have h78947 := Xy78936.at ha0
            have h78948 := Xy78936.ar h78896
            have h78949 := Xy78936.ar h78903
            have h78950 := Xy78936.ar h78906
            have h78951 := Xy78936.ar h78909
            have h78952 := Iy78935.rg h78947 8 rfl
            refine g_goto C 115 dX12_readLine_77 (by decide) ?_
            refine g_lv (lv' := [(0, .ref a0)]) [1] rfl ?_
            obtain ⟨b78953, e78954, h78955⟩ := Iy78935.fld (h78947) 15 13 3 rfl
            exact J115 Y78933 Iy78935 Xz78942 W78937 (fun b9 e9 => by rw [e78943] at e9; cases e9; omega) (by show (pI P a0 8).toInt ≤ (pI Y78933 a0 8).toInt; omega) (by show (pI Y78933 a0 7).toInt = (pI P a0 7).toInt; omega) (by show 1 ≤ (pI Y78933 a0 8).toInt ∨ (pI Y78933 a0 7).toInt ≤ 999; omega) (by intro b915 b94 b96 b99 e915 e94 e96 e99; rw [e78954] at e915; cases e915; rw [e78944] at e94; cases e94; rw [e78945] at e96; cases e96; rw [e78946] at e99; cases e99; show 1 ≤ (pI Y78933 a0 8).toInt ∨ iwA Y78933 a0 b78901 b78904 b78907 2 = 0 ∨ (pI Y78933 b78953 2).toInt ≤ 3; omega)
  have J38 : (∀ b, pR P a0 14 = some b → 1 ≤ (pI P b 2).toInt ∧ (pI P b 2).toInt ≤ 9) → G E ({ frames := 4, cells := 0, slots := 0, locals := 256 } : Room) D cy 2 P 0 0 38 [(0, .ref a0)] [] := by
    intro hq38_0
    obtain ⟨b78956, e78957, h78958⟩ := I.fld (ha0) 14 13 3 rfl
    have hq38_0 := hq38_0 b78956 e78957
    refine g_iconst (v := 0) C dX12_readLine_38 (by decide) ?_
    exact J39 0 (by decide) (fun b9 e9 => by rw [e78957] at e9; cases e9; omega)
  have J34 : (∀ b, pR P a0 14 = some b → 1 ≤ (pI P b 2).toInt ∧ (pI P b 2).toInt ≤ 9) → G E ({ frames := 4, cells := 0, slots := 0, locals := 256 } : Room) D cy 2 P 0 0 34 [(0, .ref a0)] [] := by
    intro hq34_0
    obtain ⟨b78959, e78960, h78961⟩ := I.fld (ha0) 14 13 3 rfl
    have hq34_0 := hq34_0 b78959 e78960
    refine g_iconst (v := 1) C dX12_readLine_34 (by decide) ?_
    refine g_goto C 39 dX12_readLine_35 (by decide) ?_
    exact J39 1 (by decide) (fun b9 e9 => by rw [e78960] at e9; cases e9; omega)
  have J17 : (∀ b, pR P a0 14 = some b → 1 ≤ (pI P b 2).toInt ∧ (pI P b 2).toInt ≤ 9) → G E ({ frames := 4, cells := 0, slots := 0, locals := 256 } : Room) D cy 2 P 0 0 17 [(0, .ref a0)] [] := by
    intro hq17_0
    obtain ⟨b78962, e78963, h78964⟩ := I.fld (ha0) 14 13 3 rfl
    have hq17_0 := hq17_0 b78962 e78963
    refine g_aload_n C dX12_readLine_17 rfl 0 rfl ?_
    refine g_iconst (v := 3) C dX12_readLine_18 (by decide) ?_
    refine g_callVI (rest := []) C mv_X12_172 [.int 3] (s_X12_isWord I (by decide) hW) (ha0).1 (ha0).2 rfl rfl (by decide) (Nat.le_of_ble_eq_true rfl) (by decide) dX12_readLine_19 (fun r78965 Y78966 h78967 => ?_)
    obtain ⟨rfl, h78967⟩ := h78967
    obtain ⟨h78967, hi78968⟩ := h78967
    obtain ⟨b78969, e78970, h78971⟩ := I.fld (ha0) 4 13 1002 rfl
    obtain ⟨b78972, e78973, h78974⟩ := I.fld (ha0) 6 14 1002 rfl
    obtain ⟨b78975, e78976, h78977⟩ := I.fld (ha0) 9 14 4 rfl
    obtain ⟨hi78968, hw78978⟩ := hi78968
    have hi78968 : r78965.toInt = 0 ∨ ((pI P a0 8).toInt = 0 ∧ (pI P a0 7).toInt ≤ 999) := hi78968
    have h78979 := I.rg ha0 7 rfl
    have h78980 := I.rg ha0 8 rfl
    have hw78978 : r78965.toInt = iwA P a0 b78969 b78972 b78975 3 := hw78978 b78969 b78972 b78975 e78970 e78973 e78976
    have h78967 : 0 ≤ r78965.toInt ∧ r78965.toInt ≤ 1 := h78967
    refine b_if_eq C 38 dX12_readLine_22 (by decide) (fun h78981 => ?_) (fun h78981 => ?_)
    · have h78981 : r78965.toInt = 0 := congrArg Int32.toInt h78981
      exact J38 (fun b9 e9 => by rw [e78963] at e9; cases e9; omega)
    · have h78981 : r78965.toInt ≠ 0 := ti_ne h78981
      refine g_aload_n C dX12_readLine_25 rfl 0 rfl ?_
      obtain ⟨b78982, e78983, h78984⟩ := I.fld (ha0) 17 13 3 rfl
      refine g_getR C fi_X12_66 rfl e78983 (ha0).1 (ha0).2 dX12_readLine_26 ?_
      refine g_iconst (v := 2) C dX12_readLine_29 (by decide) ?_
      refine g_iald (j := 2) C h78984.1 h78984.2.1 (IX.litn (j := 2) h78984.2.2 rfl (by decide) (by decide)) dX12_readLine_30 ?_
      have u78986 := ti_rng (pI P b78982 2)
      refine b_if_le C 38 dX12_readLine_31 (by decide) (fun h78985 => ?_) (fun h78985 => ?_)
      · have h78985 : (pI P b78982 2).toInt ≤ 0 := h78985
        exact J38 (fun b9 e9 => by rw [e78963] at e9; cases e9; omega)
      · have h78985 : 0 < (pI P b78982 2).toInt := h78985
        exact J34 (fun b9 e9 => by rw [e78963] at e9; cases e9; omega)
  obtain ⟨b78987, e78988, h78989⟩ := I.fld (ha0) 14 13 3 rfl
  have hf0 := hf0 b78987 e78988
  have h78990 := I.rg ha0 7 rfl
  have h78991 := I.rg ha0 8 rfl
  refine g_aload_n C dX12_readLine_0 rfl 0 rfl ?_
  refine g_iconst (v := 1) C dX12_readLine_1 (by decide) ?_
  refine g_callVI (rest := []) C mv_X12_172 [.int 1] (s_X12_isWord I (by decide) hW) (ha0).1 (ha0).2 rfl rfl (by decide) (Nat.le_of_ble_eq_true rfl) (by decide) dX12_readLine_2 (fun r78992 Y78993 h78994 => ?_)
  obtain ⟨rfl, h78994⟩ := h78994
  obtain ⟨h78994, hi78995⟩ := h78994
  obtain ⟨b78996, e78997, h78998⟩ := I.fld (ha0) 4 13 1002 rfl
  obtain ⟨b78999, e79000, h79001⟩ := I.fld (ha0) 6 14 1002 rfl
  obtain ⟨b79002, e79003, h79004⟩ := I.fld (ha0) 9 14 4 rfl
  obtain ⟨hi78995, hw79005⟩ := hi78995
  have hi78995 : r78992.toInt = 0 ∨ ((pI P a0 8).toInt = 0 ∧ (pI P a0 7).toInt ≤ 999) := hi78995
  have hw79005 : r78992.toInt = iwA P a0 b78996 b78999 b79002 1 := hw79005 b78996 b78999 b79002 e78997 e79000 e79003
  have h78994 : 0 ≤ r78992.toInt ∧ r78992.toInt ≤ 1 := h78994
  refine b_if_eq C 17 dX12_readLine_5 (by decide) (fun h79006 => ?_) (fun h79006 => ?_)
  · have h79006 : r78992.toInt = 0 := congrArg Int32.toInt h79006
    exact J17 (fun b9 e9 => by rw [e78988] at e9; cases e9; omega)
  · have h79006 : r78992.toInt ≠ 0 := ti_ne h79006
    refine g_aload_n C dX12_readLine_8 rfl 0 rfl ?_
    obtain ⟨b79007, e79008, h79009⟩ := I.fld (ha0) 13 13 3 rfl
    refine g_getR C fi_X12_54 rfl e79008 (ha0).1 (ha0).2 dX12_readLine_9 ?_
    refine g_iconst (v := 2) C dX12_readLine_12 (by decide) ?_
    refine g_iald (j := 2) C h79009.1 h79009.2.1 (IX.litn (j := 2) h79009.2.2 rfl (by decide) (by decide)) dX12_readLine_13 ?_
    have u79011 := ti_rng (pI P b79007 2)
    refine b_if_gt C 34 dX12_readLine_14 (by decide) (fun h79010 => ?_) (fun h79010 => ?_)
    · have h79010 : 0 < (pI P b79007 2).toInt := h79010
      exact J34 (fun b9 e9 => by rw [e78988] at e9; cases e9; omega)
    · have h79010 : (pI P b79007 2).toInt ≤ 0 := h79010
      exact J17 (fun b9 e9 => by rw [e78988] at e9; cases e9; omega)
theorem dX12_draw_70 : decode cX12_draw 70 = .ok (.goto (-23), 3) := by decide +kernel
theorem dX12_draw_73 : decode cX12_draw 73 = .ok (.aload_n 0, 1) := by decide +kernel
theorem dX12_draw_74 : decode cX12_draw 74 = .ok (.getfield 162, 3) := by decide +kernel
theorem dX12_draw_77 : decode cX12_draw 77 = .ok (.ifCond .ne 121, 3) := by decide +kernel
theorem dX12_draw_80 : decode cX12_draw 80 = .ok (.iconst 0, 1) := by decide +kernel
theorem dX12_draw_81 : decode cX12_draw 81 = .ok (.istore_n 2, 1) := by decide +kernel
theorem dX12_draw_82 : decode cX12_draw 82 = .ok (.iload_n 2, 1) := by decide +kernel
theorem dX12_draw_83 : decode cX12_draw 83 = .ok (.bipush 21, 2) := by decide +kernel
theorem dX12_draw_85 : decode cX12_draw 85 = .ok (.if_icmp .ge 29, 3) := by decide +kernel
theorem dX12_draw_88 : decode cX12_draw 88 = .ok (.aload_n 0, 1) := by decide +kernel
theorem dX12_draw_89 : decode cX12_draw 89 = .ok (.getfield 51, 3) := by decide +kernel
theorem dX12_draw_92 : decode cX12_draw 92 = .ok (.bipush 21, 2) := by decide +kernel
theorem dX12_draw_94 : decode cX12_draw 94 = .ok (.iload_n 1, 1) := by decide +kernel
theorem dX12_draw_95 : decode cX12_draw 95 = .ok (.imul, 1) := by decide +kernel
theorem dX12_draw_96 : decode cX12_draw 96 = .ok (.iload_n 2, 1) := by decide +kernel
theorem dX12_draw_97 : decode cX12_draw 97 = .ok (.iadd, 1) := by decide +kernel
theorem dX12_draw_98 : decode cX12_draw 98 = .ok (.aload_n 0, 1) := by decide +kernel
theorem dX12_draw_99 : decode cX12_draw 99 = .ok (.getfield 51, 3) := by decide +kernel
theorem dX12_draw_102 : decode cX12_draw 102 = .ok (.bipush 42, 2) := by decide +kernel
theorem dX12_draw_104 : decode cX12_draw 104 = .ok (.iload_n 2, 1) := by decide +kernel
theorem dX12_draw_105 : decode cX12_draw 105 = .ok (.iadd, 1) := by decide +kernel
theorem dX12_draw_106 : decode cX12_draw 106 = .ok (.iaload, 1) := by decide +kernel
theorem dX12_draw_107 : decode cX12_draw 107 = .ok (.iastore, 1) := by decide +kernel
theorem dX12_draw_108 : decode cX12_draw 108 = .ok (.iinc 2 1, 3) := by decide +kernel
theorem dX12_draw_111 : decode cX12_draw 111 = .ok (.goto (-29), 3) := by decide +kernel
theorem dX12_draw_114 : decode cX12_draw 114 = .ok (.aload_n 0, 1) := by decide +kernel
theorem dX12_draw_115 : decode cX12_draw 115 = .ok (.getfield 54, 3) := by decide +kernel
theorem dX12_draw_118 : decode cX12_draw 118 = .ok (.iload_n 1, 1) := by decide +kernel
theorem dX12_draw_119 : decode cX12_draw 119 = .ok (.aload_n 0, 1) := by decide +kernel
theorem dX12_draw_120 : decode cX12_draw 120 = .ok (.getfield 54, 3) := by decide +kernel
theorem dX12_draw_123 : decode cX12_draw 123 = .ok (.iconst 2, 1) := by decide +kernel
theorem dX12_draw_124 : decode cX12_draw 124 = .ok (.iaload, 1) := by decide +kernel
theorem dX12_draw_125 : decode cX12_draw 125 = .ok (.iastore, 1) := by decide +kernel
theorem dX12_draw_126 : decode cX12_draw 126 = .ok (.aload_n 0, 1) := by decide +kernel
theorem dX12_draw_127 : decode cX12_draw 127 = .ok (.getfield 57, 3) := by decide +kernel
theorem dX12_draw_130 : decode cX12_draw 130 = .ok (.iload_n 1, 1) := by decide +kernel
theorem dX12_draw_131 : decode cX12_draw 131 = .ok (.aload_n 0, 1) := by decide +kernel
theorem dX12_draw_132 : decode cX12_draw 132 = .ok (.getfield 57, 3) := by decide +kernel
theorem dX12_draw_135 : decode cX12_draw 135 = .ok (.iconst 2, 1) := by decide +kernel
theorem dX12_draw_136 : decode cX12_draw 136 = .ok (.iaload, 1) := by decide +kernel
theorem dX12_draw_137 : decode cX12_draw 137 = .ok (.iastore, 1) := by decide +kernel
theorem dX12_draw_138 : decode cX12_draw 138 = .ok (.aload_n 0, 1) := by decide +kernel
theorem dX12_draw_139 : decode cX12_draw 139 = .ok (.getfield 60, 3) := by decide +kernel
theorem dX12_draw_142 : decode cX12_draw 142 = .ok (.iload_n 1, 1) := by decide +kernel
theorem dX12_draw_143 : decode cX12_draw 143 = .ok (.aload_n 0, 1) := by decide +kernel
theorem dX12_draw_144 : decode cX12_draw 144 = .ok (.getfield 60, 3) := by decide +kernel
theorem dX12_draw_147 : decode cX12_draw 147 = .ok (.iconst 2, 1) := by decide +kernel
theorem dX12_draw_148 : decode cX12_draw 148 = .ok (.iaload, 1) := by decide +kernel
theorem dX12_draw_149 : decode cX12_draw 149 = .ok (.iastore, 1) := by decide +kernel
theorem dX12_draw_150 : decode cX12_draw 150 = .ok (.iconst 0, 1) := by decide +kernel
theorem dX12_draw_151 : decode cX12_draw 151 = .ok (.istore_n 2, 1) := by decide +kernel
theorem dX12_draw_152 : decode cX12_draw 152 = .ok (.iload_n 2, 1) := by decide +kernel
theorem dX12_draw_153 : decode cX12_draw 153 = .ok (.iconst 4, 1) := by decide +kernel
theorem dX12_draw_154 : decode cX12_draw 154 = .ok (.if_icmp .ge 28, 3) := by decide +kernel
theorem dX12_draw_157 : decode cX12_draw 157 = .ok (.aload_n 0, 1) := by decide +kernel
theorem dX12_draw_158 : decode cX12_draw 158 = .ok (.getfield 63, 3) := by decide +kernel
theorem dX12_draw_161 : decode cX12_draw 161 = .ok (.iconst 4, 1) := by decide +kernel
theorem dX12_draw_162 : decode cX12_draw 162 = .ok (.iload_n 1, 1) := by decide +kernel
theorem dX12_draw_163 : decode cX12_draw 163 = .ok (.imul, 1) := by decide +kernel
theorem dX12_draw_164 : decode cX12_draw 164 = .ok (.iload_n 2, 1) := by decide +kernel
theorem dX12_draw_165 : decode cX12_draw 165 = .ok (.iadd, 1) := by decide +kernel
theorem dX12_draw_166 : decode cX12_draw 166 = .ok (.aload_n 0, 1) := by decide +kernel
theorem dX12_draw_167 : decode cX12_draw 167 = .ok (.getfield 63, 3) := by decide +kernel
theorem dX12_draw_170 : decode cX12_draw 170 = .ok (.bipush 8, 2) := by decide +kernel
theorem dX12_draw_172 : decode cX12_draw 172 = .ok (.iload_n 2, 1) := by decide +kernel
theorem dX12_draw_173 : decode cX12_draw 173 = .ok (.iadd, 1) := by decide +kernel
theorem dX12_draw_174 : decode cX12_draw 174 = .ok (.iaload, 1) := by decide +kernel
theorem dX12_draw_175 : decode cX12_draw 175 = .ok (.iastore, 1) := by decide +kernel
theorem dX12_draw_176 : decode cX12_draw 176 = .ok (.iinc 2 1, 3) := by decide +kernel
theorem dX12_draw_179 : decode cX12_draw 179 = .ok (.goto (-27), 3) := by decide +kernel
theorem dX12_draw_182 : decode cX12_draw 182 = .ok (.aload_n 0, 1) := by decide +kernel
theorem dX12_draw_183 : decode cX12_draw 183 = .ok (.getfield 66, 3) := by decide +kernel
theorem dX12_draw_186 : decode cX12_draw 186 = .ok (.iload_n 1, 1) := by decide +kernel
theorem dX12_draw_187 : decode cX12_draw 187 = .ok (.aload_n 0, 1) := by decide +kernel
theorem dX12_draw_188 : decode cX12_draw 188 = .ok (.getfield 66, 3) := by decide +kernel
theorem dX12_draw_191 : decode cX12_draw 191 = .ok (.iconst 2, 1) := by decide +kernel
theorem dX12_draw_192 : decode cX12_draw 192 = .ok (.iaload, 1) := by decide +kernel
theorem dX12_draw_193 : decode cX12_draw 193 = .ok (.iastore, 1) := by decide +kernel
theorem dX12_draw_194 : decode cX12_draw 194 = .ok (.aload_n 0, 1) := by decide +kernel
theorem dX12_draw_195 : decode cX12_draw 195 = .ok (.invokevirtual 189, 3) := by decide +kernel
theorem dX12_draw_198 : decode cX12_draw 198 = .ok (.aload_n 0, 1) := by decide +kernel
theorem dX12_draw_199 : decode cX12_draw 199 = .ok (.getfield 162, 3) := by decide +kernel
theorem dX12_draw_202 : decode cX12_draw 202 = .ok (.ireturn, 1) := by decide +kernel
set_option maxHeartbeats 4000000 in
set_option maxRecDepth 100000 in
theorem s_X12_draw {P : PP} {a0 : Nat} {a1 : Int32} (I : IM P a0) (hW : MW P a0) : CtrI yX12_draw cX12_draw 3 (some Jvm.ClassFile.FieldType.int) ({ frames := 5, cells := 0, slots := 0, locals := 320 } : Room) 0 0 P [.ref a0, .int a1] (fun r P2 => IM P2 a0 ∧ EM [0, 2, 3, 4, 5, 7, 8, 12, 13, 14, 15, 16, 17, 18, 26] a0 P P2 ∧ MW P2 a0 ∧ (-1 ≤ r.toInt ∧ r.toInt ≤ 16005)) := by
  refine enI (lv := [(0, .ref a0), (1, .int a1)]) (by decide) (Nat.le_of_ble_eq_true rfl) rfl (fun E D cy C Ci0 ret => ?_)
  have ha0 := I.2.1
  have J198 : ∀ (P198 : PP), (IM P198 a0) → (EM [0, 2, 3, 4, 5, 7, 8, 12, 13, 14, 15, 16, 17, 18, 26] a0 P P198) → (MW P198 a0) → (0 ≤ (pI P198 a0 0).toInt ∧ (pI P198 a0 0).toInt ≤ 0) → (1 ≤ (pI P198 a0 18).toInt ∧ (pI P198 a0 18).toInt ≤ 16) → (0 ≤ (pI P198 a0 8).toInt ∧ (pI P198 a0 8).toInt ≤ 16005) → (∀ b, pR P198 a0 10 = some b → 1 ≤ (pI P198 b (a1.toInt.toNat)).toInt ∧ (pI P198 b (a1.toInt.toNat)).toInt ≤ 16) → G E ({ frames := 5, cells := 0, slots := 0, locals := 320 } : Room) D cy 3 P198 0 0 198 [(0, .ref a0)] [] := by
    intro P198 I198 X198 W198 hq198_0 hq198_1 hq198_2 hq198_3
    have h79972 := X198.at ha0
    obtain ⟨b79973, e79974, h79975⟩ := I198.fld (h79972) 10 13 2 rfl
    have hq198_3 := hq198_3 b79973 e79974
    refine g_aload_n C dX12_draw_198 rfl 0 rfl ?_
    refine g_getI C fi_X12_162 (by decide) (h79972).1 (h79972).2 dX12_draw_199 ?_
    exact ret _ _ _ _ _ _ dX12_draw_202 rfl (by decide) (by decide) ⟨I198, X198, W198, (by omega)⟩
  have J152 : ∀ (n152 : Nat) (P152 : PP) (v152_2 : Int32), (4 - v152_2.toInt).toNat < n152 → (IM P152 a0) → (EM [0, 2, 3, 4, 5, 7, 8, 12, 13, 14, 15, 16, 17, 18, 26] a0 P P152) → (MW P152 a0) → (0 ≤ a1.toInt ∧ a1.toInt ≤ 1) → (0 ≤ v152_2.toInt ∧ v152_2.toInt ≤ 4) → (0 ≤ (pI P152 a0 0).toInt ∧ (pI P152 a0 0).toInt ≤ 0) → (1 ≤ (pI P152 a0 18).toInt ∧ (pI P152 a0 18).toInt ≤ 16) → (0 ≤ (pI P152 a0 8).toInt ∧ (pI P152 a0 8).toInt ≤ 0) → (∀ b, pR P152 a0 10 = some b → 1 ≤ (pI P152 b (a1.toInt.toNat)).toInt ∧ (pI P152 b (a1.toInt.toNat)).toInt ≤ 16) → (∀ b, pR P152 a0 14 = some b → 1 ≤ (pI P152 b (a1.toInt.toNat)).toInt ∧ (pI P152 b (a1.toInt.toNat)).toInt ≤ 9) → G E ({ frames := 5, cells := 0, slots := 0, locals := 320 } : Room) D cy 3 P152 0 0 152 [(0, .ref a0), (1, .int a1), (2, .int v152_2)] [] := by
    intro n152
    induction n152 with
    | zero => intro P152 v152_2 hm152 I152 X152 W152 hv152_1 hv152_2 hq152_0 hq152_1 hq152_2 hq152_3 hq152_4; omega
    | succ n152 ih152 =>
      intro P152 v152_2 hm152 I152 X152 W152 hv152_1 hv152_2 hq152_0 hq152_1 hq152_2 hq152_3 hq152_4
      have h79976 := X152.at ha0
      obtain ⟨b79977, e79978, h79979⟩ := I152.fld (h79976) 10 13 2 rfl
      have hq152_3 := hq152_3 b79977 e79978
      obtain ⟨b79980, e79981, h79982⟩ := I152.fld (h79976) 14 13 3 rfl
      have hq152_4 := hq152_4 b79980 e79981
      refine g_iload_n C dX12_draw_152 rfl 2 rfl ?_
      refine g_iconst (v := 4) C dX12_draw_153 (by decide) ?_
      refine b_icmp_ge C 182 dX12_draw_154 (by decide) (fun h79983 => ?_) (fun h79983 => ?_)
      · have h79983 : 4 ≤ v152_2.toInt := h79983
        refine g_aload_n C dX12_draw_182 rfl 0 rfl ?_
        obtain ⟨b79984, e79985, h79986⟩ := I152.fld (h79976) 17 13 3 rfl
        refine g_getR C fi_X12_66 rfl e79985 (h79976).1 (h79976).2 dX12_draw_183 ?_
        refine g_iload_n C dX12_draw_186 rfl 1 rfl ?_
        refine g_aload_n C dX12_draw_187 rfl 0 rfl ?_
        refine g_getR C fi_X12_66 rfl e79985 (h79976).1 (h79976).2 dX12_draw_188 ?_
        refine g_iconst (v := 2) C dX12_draw_191 (by decide) ?_
        refine g_iald (j := 2) C h79986.1 h79986.2.1 (IX.litn (j := 2) h79986.2.2 rfl (by decide) (by decide)) dX12_draw_192 ?_
        refine g_iast (j := (a1.toInt.toNat)) C h79986.1 h79986.2.1 (ix_in h79986.2.2 (by omega)) dX12_draw_193 ?_
        refine gqW (ks := [17]) (I152.setA e79985 h79986 (by decide) (arOk.none rfl)) (EM.setA I152 e79985 rfl (by decide)) (fun Y79987 Iy79988 Xy79989 w79990  => ?_)
        have w79990 : (pI Y79987 b79984 (a1.toInt.toNat)).toInt = (pI P152 b79984 2).toInt := w79990
        have q79991 := Xy79989.keepF 0 (by decide)
        have q79992 := Xy79989.keepF 18 (by decide)
        have q79993 := Xy79989.keepF 8 (by decide)
        have q79994 := Xy79989.keepA e79978 (by decide) rfl (a1.toInt.toNat)
        have q79995 := Xy79989.keepA e79981 (by decide) rfl (a1.toInt.toNat)
        have W79996 := W152.keep I152 Xy79989 (by decide) (by decide) (by decide)
        have Xz79997 : EM [0, 2, 3, 4, 5, 7, 8, 12, 13, 14, 15, 16, 17, 18, 26] a0 P Y79987 := EM.tr ha0 X152 (Xy79989.mono (by decide))
        have e79998 := Xy79989.ref h79976 (by decide) e79978
        have e79999 := Xy79989.ref h79976 (by decide) e79981
        have e80000 := Xy79989.ref h79976 (by decide) e79985
        have h80001 := Xy79989.at h79976
        have h80002 := Xy79989.ar h79979
        have h80003 := Xy79989.ar h79982
        have h80004 := Xy79989.ar h79986
        refine g_aload_n C dX12_draw_194 rfl 0 rfl ?_
        refine g_callVV (rest := []) C mv_X12_189 [] (s_X12_forgetsMarks Iy79988 W79996) (h80001).1 (h80001).2 rfl rfl (by decide) (Nat.le_of_ble_eq_true rfl) (by decide) dX12_draw_195 (fun Y80006 h80007 => ?_)
        obtain ⟨Iy80008, Xy80009, W80010⟩ := h80007
        have q80011 := Xy80009.keepF 0 (by decide)
        have q80012 := Xy80009.keepF 18 (by decide)
        have q80013 := Xy80009.keepF 8 (by decide)
        have q80014 := Xy80009.keepA e79998 (by decide) rfl (a1.toInt.toNat)
        have q80015 := Xy80009.keepA e79999 (by decide) rfl (a1.toInt.toNat)
        have q80016 := Xy80009.keepA e80000 (by decide) rfl (a1.toInt.toNat)
        have Xz80017 : EM [0, 2, 3, 4, 5, 7, 8, 12, 13, 14, 15, 16, 17, 18, 26] a0 P Y80006 := EM.tr ha0 Xz79997 (Xy80009.mono (by decide))
        have e80018 := Xy80009.ref h80001 (by decide) e79998
        have e80019 := Xy80009.ref h80001 (by decide) e79999
        have e80020 := Xy80009.ref h80001 (by decide) e80000
        have h80021 := Xy80009.at h80001
        have h80022 := Xy80009.ar h80002
        have h80023 := Xy80009.ar h80003
        have h80024 := Xy80009.ar h80004
        refine g_lv (lv' := [(0, .ref a0)]) [0] rfl ?_
        exact J198 Y80006 Iy80008 Xz80017 W80010 (by omega) (by omega) (by omega) (fun b9 e9 => by rw [e80018] at e9; cases e9; omega)
      · have h79983 : v152_2.toInt < 4 := h79983
        refine g_aload_n C dX12_draw_157 rfl 0 rfl ?_
        obtain ⟨b80025, e80026, h80027⟩ := I152.fld (h79976) 16 13 12 rfl
        refine g_getR C fi_X12_63 rfl e80026 (h79976).1 (h79976).2 dX12_draw_158 ?_
        refine g_iconst (v := 4) C dX12_draw_161 (by decide) ?_
        refine g_iload_n C dX12_draw_162 rfl 1 rfl ?_
        refine s_imul C dX12_draw_163 (by show -2147483648 ≤ 4 * a1.toInt ∧ 4 * a1.toInt ≤ 2147483647; omega) (fun z80028 h80029 => ?_)
        have h80029 : z80028.toInt = 4 * a1.toInt := h80029
        refine g_iload_n C dX12_draw_164 rfl 2 rfl ?_
        refine s_iadd C dX12_draw_165 (by show -2147483648 ≤ z80028.toInt + v152_2.toInt ∧ z80028.toInt + v152_2.toInt ≤ 2147483647; omega) (fun z80030 h80031 => ?_)
        have h80031 : z80030.toInt = z80028.toInt + v152_2.toInt := h80031
        refine g_aload_n C dX12_draw_166 rfl 0 rfl ?_
        refine g_getR C fi_X12_63 rfl e80026 (h79976).1 (h79976).2 dX12_draw_167 ?_
        refine g_bipush (v := 8) C dX12_draw_170 (by decide) ?_
        refine g_iload_n C dX12_draw_172 rfl 2 rfl ?_
        refine s_iadd C dX12_draw_173 (by show -2147483648 ≤ 8 + v152_2.toInt ∧ 8 + v152_2.toInt ≤ 2147483647; omega) (fun z80032 h80033 => ?_)
        have h80033 : z80032.toInt = 8 + v152_2.toInt := h80033
        refine g_iald (j := (z80032.toInt.toNat)) C h80027.1 h80027.2.1 (ix_in h80027.2.2 (by omega)) dX12_draw_174 ?_
        refine g_iast (j := (z80030.toInt.toNat)) C h80027.1 h80027.2.1 (ix_in h80027.2.2 (by omega)) dX12_draw_175 ?_
        refine gqW (ks := [16]) (I152.setA e80026 h80027 (by decide) (arOk.none rfl)) (EM.setA I152 e80026 rfl (by decide)) (fun Y80034 Iy80035 Xy80036 w80037  => ?_)
        have w80037 : (pI Y80034 b80025 (z80030.toInt.toNat)).toInt = (pI P152 b80025 (z80032.toInt.toNat)).toInt := w80037
        have q80038 := Xy80036.keepF 0 (by decide)
        have q80039 := Xy80036.keepF 18 (by decide)
        have q80040 := Xy80036.keepF 8 (by decide)
        have q80041 := Xy80036.keepA e79978 (by decide) rfl (a1.toInt.toNat)
        have q80042 := Xy80036.keepA e79981 (by decide) rfl (a1.toInt.toNat)
        have W80043 := W152.keep I152 Xy80036 (by decide) (by decide) (by decide)
        have Xz80044 : EM [0, 2, 3, 4, 5, 7, 8, 12, 13, 14, 15, 16, 17, 18, 26] a0 P Y80034 := EM.tr ha0 X152 (Xy80036.mono (by decide))
        have e80045 := Xy80036.ref h79976 (by decide) e79978
        have e80046 := Xy80036.ref h79976 (by decide) e79981
        have e80047 := Xy80036.ref h79976 (by decide) e80026
        have h80048 := Xy80036.at h79976
        have h80049 := Xy80036.ar h79979
        have h80050 := Xy80036.ar h79982
        have h80051 := Xy80036.ar h80027
        refine s_iinc (lv0 := [(0, .ref a0), (1, .int a1)]) (m := 1) C dX12_draw_176 2 rfl (by decide) rfl (by decide) (by omega) (fun z80052 h80053 => ?_)
        have h80053 : z80052.toInt = v152_2.toInt + 1 := h80053
        refine g_goto C 152 dX12_draw_179 (by decide) ?_
        refine g_lv (lv' := [(0, .ref a0), (1, .int a1), (2, .int z80052)]) [1, 2, 0] rfl ?_
        exact ih152 Y80034 z80052 (by omega) Iy80035 Xz80044 W80043 (by omega) (by omega) (by omega) (by omega) (by omega) (fun b9 e9 => by rw [e80045] at e9; cases e9; omega) (fun b9 e9 => by rw [e80046] at e9; cases e9; omega)
  have J82 : ∀ (n82 : Nat) (P82 : PP) (v82_2 : Int32), (21 - v82_2.toInt).toNat < n82 → (IM P82 a0) → (EM [0, 2, 3, 4, 5, 7, 8, 12, 13, 14, 15, 16, 17, 18, 26] a0 P P82) → (MW P82 a0) → (0 ≤ a1.toInt ∧ a1.toInt ≤ 1) → (0 ≤ v82_2.toInt ∧ v82_2.toInt ≤ 21) → (0 ≤ (pI P82 a0 0).toInt ∧ (pI P82 a0 0).toInt ≤ 0) → (1 ≤ (pI P82 a0 18).toInt ∧ (pI P82 a0 18).toInt ≤ 16) → (0 ≤ (pI P82 a0 8).toInt ∧ (pI P82 a0 8).toInt ≤ 0) → (∀ b, pR P82 a0 10 = some b → 1 ≤ (pI P82 b (a1.toInt.toNat)).toInt ∧ (pI P82 b (a1.toInt.toNat)).toInt ≤ 16) → (∀ b, pR P82 a0 14 = some b → 1 ≤ (pI P82 b 2).toInt ∧ (pI P82 b 2).toInt ≤ 9) → G E ({ frames := 5, cells := 0, slots := 0, locals := 320 } : Room) D cy 3 P82 0 0 82 [(0, .ref a0), (1, .int a1), (2, .int v82_2)] [] := by
    intro n82
    induction n82 with
    | zero => intro P82 v82_2 hm82 I82 X82 W82 hv82_1 hv82_2 hq82_0 hq82_1 hq82_2 hq82_3 hq82_4; omega
    | succ n82 ih82 =>
      intro P82 v82_2 hm82 I82 X82 W82 hv82_1 hv82_2 hq82_0 hq82_1 hq82_2 hq82_3 hq82_4
      have h80054 := X82.at ha0
      obtain ⟨b80055, e80056, h80057⟩ := I82.fld (h80054) 10 13 2 rfl
      have hq82_3 := hq82_3 b80055 e80056
      obtain ⟨b80058, e80059, h80060⟩ := I82.fld (h80054) 14 13 3 rfl
      have hq82_4 := hq82_4 b80058 e80059
      refine g_iload_n C dX12_draw_82 rfl 2 rfl ?_
      refine g_bipush (v := 21) C dX12_draw_83 (by decide) ?_
      refine b_icmp_ge C 114 dX12_draw_85 (by decide) (fun h80061 => ?_) (fun h80061 => ?_)
      · have h80061 : 21 ≤ v82_2.toInt := h80061
        refine g_aload_n C dX12_draw_114 rfl 0 rfl ?_
        obtain ⟨b80062, e80063, h80064⟩ := I82.fld (h80054) 13 13 3 rfl
        refine g_getR C fi_X12_54 rfl e80063 (h80054).1 (h80054).2 dX12_draw_115 ?_
        refine g_iload_n C dX12_draw_118 rfl 1 rfl ?_
        refine g_aload_n C dX12_draw_119 rfl 0 rfl ?_
        refine g_getR C fi_X12_54 rfl e80063 (h80054).1 (h80054).2 dX12_draw_120 ?_
        refine g_iconst (v := 2) C dX12_draw_123 (by decide) ?_
        refine g_iald (j := 2) C h80064.1 h80064.2.1 (IX.litn (j := 2) h80064.2.2 rfl (by decide) (by decide)) dX12_draw_124 ?_
        refine g_iast (j := (a1.toInt.toNat)) C h80064.1 h80064.2.1 (ix_in h80064.2.2 (by omega)) dX12_draw_125 ?_
        refine gqW (ks := [13]) (I82.setA e80063 h80064 (by decide) (arOk.none rfl)) (EM.setA I82 e80063 rfl (by decide)) (fun Y80065 Iy80066 Xy80067 w80068  => ?_)
        have w80068 : (pI Y80065 b80062 (a1.toInt.toNat)).toInt = (pI P82 b80062 2).toInt := w80068
        have q80069 := Xy80067.keepF 0 (by decide)
        have q80070 := Xy80067.keepF 18 (by decide)
        have q80071 := Xy80067.keepF 8 (by decide)
        have q80072 := Xy80067.keepA e80056 (by decide) rfl (a1.toInt.toNat)
        have q80073 := Xy80067.keepA e80059 (by decide) rfl 2
        have W80074 := W82.keep I82 Xy80067 (by decide) (by decide) (by decide)
        have Xz80075 : EM [0, 2, 3, 4, 5, 7, 8, 12, 13, 14, 15, 16, 17, 18, 26] a0 P Y80065 := EM.tr ha0 X82 (Xy80067.mono (by decide))
        have e80076 := Xy80067.ref h80054 (by decide) e80056
        have e80077 := Xy80067.ref h80054 (by decide) e80059
        have e80078 := Xy80067.ref h80054 (by decide) e80063
        have h80079 := Xy80067.at h80054
        have h80080 := Xy80067.ar h80057
        have h80081 := Xy80067.ar h80060
        have h80082 := Xy80067.ar h80064
        refine g_aload_n C dX12_draw_126 rfl 0 rfl ?_
        refine g_getR C fi_X12_57 rfl e80077 (h80079).1 (h80079).2 dX12_draw_127 ?_
        refine g_iload_n C dX12_draw_130 rfl 1 rfl ?_
        refine g_aload_n C dX12_draw_131 rfl 0 rfl ?_
        refine g_getR C fi_X12_57 rfl e80077 (h80079).1 (h80079).2 dX12_draw_132 ?_
        refine g_iconst (v := 2) C dX12_draw_135 (by decide) ?_
        refine g_iald (j := 2) C h80081.1 h80081.2.1 (IX.litn (j := 2) h80081.2.2 rfl (by decide) (by decide)) dX12_draw_136 ?_
        refine g_iast (j := (a1.toInt.toNat)) C h80081.1 h80081.2.1 (ix_in h80081.2.2 (by omega)) dX12_draw_137 ?_
        refine gqX (ks := [14]) (W := (fun P => MW P a0)) (Iy80066.setA e80077 h80081 (by decide) (arOk.of rfl (by omega))) (EM.setA Iy80066 e80077 rfl (by decide)) (W80074.set14 Iy80066 e80077 (by first | exact Or.inl (by omega) | exact Or.inr (by omega))) (fun Y80083 Iy80084 Xy80085 w80086 W80087 => ?_)
        have w80086 : (pI Y80083 b80058 (a1.toInt.toNat)).toInt = (pI Y80065 b80058 2).toInt := w80086
        have q80088 := Xy80085.keepF 0 (by decide)
        have q80089 := Xy80085.keepF 18 (by decide)
        have q80090 := Xy80085.keepF 8 (by decide)
        have q80091 := Xy80085.keepA e80076 (by decide) rfl (a1.toInt.toNat)
        have q80092 := Xy80085.keepA e80078 (by decide) rfl (a1.toInt.toNat)
        have Xz80093 : EM [0, 2, 3, 4, 5, 7, 8, 12, 13, 14, 15, 16, 17, 18, 26] a0 P Y80083 := EM.tr ha0 Xz80075 (Xy80085.mono (by decide))
        have e80094 := Xy80085.ref h80079 (by decide) e80076
        have e80095 := Xy80085.ref h80079 (by decide) e80077
        have e80096 := Xy80085.ref h80079 (by decide) e80078
        have h80097 := Xy80085.at h80079
        have h80098 := Xy80085.ar h80080
        have h80099 := Xy80085.ar h80081
        have h80100 := Xy80085.ar h80082
        refine g_aload_n C dX12_draw_138 rfl 0 rfl ?_
        obtain ⟨b80101, e80102, h80103⟩ := Iy80084.fld (h80097) 15 13 3 rfl
        refine g_getR C fi_X12_60 rfl e80102 (h80097).1 (h80097).2 dX12_draw_139 ?_
        refine g_iload_n C dX12_draw_142 rfl 1 rfl ?_
        refine g_aload_n C dX12_draw_143 rfl 0 rfl ?_
        refine g_getR C fi_X12_60 rfl e80102 (h80097).1 (h80097).2 dX12_draw_144 ?_
        refine g_iconst (v := 2) C dX12_draw_147 (by decide) ?_
        refine g_iald (j := 2) C h80103.1 h80103.2.1 (IX.litn (j := 2) h80103.2.2 rfl (by decide) (by decide)) dX12_draw_148 ?_
        have h80104 := Iy80084.arr e80102 rfl 2
        refine g_iast (j := (a1.toInt.toNat)) C h80103.1 h80103.2.1 (ix_in h80103.2.2 (by omega)) dX12_draw_149 ?_
        refine gqW (ks := [15]) (Iy80084.setA e80102 h80103 (by decide) (arOk.of rfl (by omega))) (EM.setA Iy80084 e80102 rfl (by decide)) (fun Y80105 Iy80106 Xy80107 w80108  => ?_)
        have w80108 : (pI Y80105 b80101 (a1.toInt.toNat)).toInt = (pI Y80083 b80101 2).toInt := w80108
        have q80109 := Xy80107.keepF 0 (by decide)
        have q80110 := Xy80107.keepF 18 (by decide)
        have q80111 := Xy80107.keepF 8 (by decide)
        have q80112 := Xy80107.keepA e80094 (by decide) rfl (a1.toInt.toNat)
        have q80113 := Xy80107.keepA e80096 (by decide) rfl (a1.toInt.toNat)
        have q80114 := Xy80107.keepA e80095 (by decide) rfl (a1.toInt.toNat)
        have W80115 := W80087.keep Iy80084 Xy80107 (by decide) (by decide) (by decide)
        have Xz80116 : EM [0, 2, 3, 4, 5, 7, 8, 12, 13, 14, 15, 16, 17, 18, 26] a0 P Y80105 := EM.tr ha0 Xz80093 (Xy80107.mono (by decide))
        have e80117 := Xy80107.ref h80097 (by decide) e80094
        have e80118 := Xy80107.ref h80097 (by decide) e80095
        have e80119 := Xy80107.ref h80097 (by decide) e80096
        have e80120 := Xy80107.ref h80097 (by decide) e80102
        have h80121 := Xy80107.at h80097
        have h80122 := Xy80107.ar h80098
        have h80123 := Xy80107.ar h80099
        have h80124 := Xy80107.ar h80100
        have h80125 := Xy80107.ar h80103
        refine g_iconst (v := 0) C dX12_draw_150 (by decide) ?_
        refine g_istore_n (lv' := [(2, .int 0), (0, .ref a0), (1, .int a1)]) C dX12_draw_151 rfl (by decide) rfl ?_
        refine g_lv (lv' := [(0, .ref a0), (1, .int a1), (2, .int 0)]) [1, 2, 0] rfl ?_
        exact J152 _ Y80105 0 (Nat.lt_succ_self _) Iy80106 Xz80116 W80115 (by omega) (by decide) (by omega) (by omega) (by omega) (fun b9 e9 => by rw [e80117] at e9; cases e9; omega) (fun b9 e9 => by rw [e80118] at e9; cases e9; omega)
      · have h80061 : v82_2.toInt < 21 := h80061
        refine g_aload_n C dX12_draw_88 rfl 0 rfl ?_
        obtain ⟨b80126, e80127, h80128⟩ := I82.fld (h80054) 12 13 63 rfl
        refine g_getR C fi_X12_51 rfl e80127 (h80054).1 (h80054).2 dX12_draw_89 ?_
        refine g_bipush (v := 21) C dX12_draw_92 (by decide) ?_
        refine g_iload_n C dX12_draw_94 rfl 1 rfl ?_
        refine s_imul C dX12_draw_95 (by show -2147483648 ≤ 21 * a1.toInt ∧ 21 * a1.toInt ≤ 2147483647; omega) (fun z80129 h80130 => ?_)
        have h80130 : z80129.toInt = 21 * a1.toInt := h80130
        refine g_iload_n C dX12_draw_96 rfl 2 rfl ?_
        refine s_iadd C dX12_draw_97 (by show -2147483648 ≤ z80129.toInt + v82_2.toInt ∧ z80129.toInt + v82_2.toInt ≤ 2147483647; omega) (fun z80131 h80132 => ?_)
        have h80132 : z80131.toInt = z80129.toInt + v82_2.toInt := h80132
        refine g_aload_n C dX12_draw_98 rfl 0 rfl ?_
        refine g_getR C fi_X12_51 rfl e80127 (h80054).1 (h80054).2 dX12_draw_99 ?_
        refine g_bipush (v := 42) C dX12_draw_102 (by decide) ?_
        refine g_iload_n C dX12_draw_104 rfl 2 rfl ?_
        refine s_iadd C dX12_draw_105 (by show -2147483648 ≤ 42 + v82_2.toInt ∧ 42 + v82_2.toInt ≤ 2147483647; omega) (fun z80133 h80134 => ?_)
        have h80134 : z80133.toInt = 42 + v82_2.toInt := h80134
        refine g_iald (j := (z80133.toInt.toNat)) C h80128.1 h80128.2.1 (ix_in h80128.2.2 (by omega)) dX12_draw_106 ?_
        have h80135 := I82.arr e80127 rfl (z80133.toInt.toNat)
        refine g_iast (j := (z80131.toInt.toNat)) C h80128.1 h80128.2.1 (ix_in h80128.2.2 (by omega)) dX12_draw_107 ?_
        refine gqW (ks := [12]) (I82.setA e80127 h80128 (by decide) (arOk.of rfl (by omega))) (EM.setA I82 e80127 rfl (by decide)) (fun Y80136 Iy80137 Xy80138 w80139  => ?_)
        have w80139 : (pI Y80136 b80126 (z80131.toInt.toNat)).toInt = (pI P82 b80126 (z80133.toInt.toNat)).toInt := w80139
        have q80140 := Xy80138.keepF 0 (by decide)
        have q80141 := Xy80138.keepF 18 (by decide)
        have q80142 := Xy80138.keepF 8 (by decide)
        have q80143 := Xy80138.keepA e80056 (by decide) rfl (a1.toInt.toNat)
        have q80144 := Xy80138.keepA e80059 (by decide) rfl 2
        have W80145 := W82.keep I82 Xy80138 (by decide) (by decide) (by decide)
        have Xz80146 : EM [0, 2, 3, 4, 5, 7, 8, 12, 13, 14, 15, 16, 17, 18, 26] a0 P Y80136 := EM.tr ha0 X82 (Xy80138.mono (by decide))
        have e80147 := Xy80138.ref h80054 (by decide) e80056
        have e80148 := Xy80138.ref h80054 (by decide) e80059
        have e80149 := Xy80138.ref h80054 (by decide) e80127
        have h80150 := Xy80138.at h80054
        have h80151 := Xy80138.ar h80057
        have h80152 := Xy80138.ar h80060
        have h80153 := Xy80138.ar h80128
        refine s_iinc (lv0 := [(0, .ref a0), (1, .int a1)]) (m := 1) C dX12_draw_108 2 rfl (by decide) rfl (by decide) (by omega) (fun z80154 h80155 => ?_)
        have h80155 : z80154.toInt = v82_2.toInt + 1 := h80155
        refine g_goto C 82 dX12_draw_111 (by decide) ?_
        refine g_lv (lv' := [(0, .ref a0), (1, .int a1), (2, .int z80154)]) [1, 2, 0] rfl ?_
        exact ih82 Y80136 z80154 (by omega) Iy80137 Xz80146 W80145 (by omega) (by omega) (by omega) (by omega) (by omega) (fun b9 e9 => by rw [e80147] at e9; cases e9; omega) (fun b9 e9 => by rw [e80148] at e9; cases e9; omega)
  have J73 : ∀ (P73 : PP), (IM P73 a0) → (EM [0, 2, 3, 4, 5, 7, 8, 12, 13, 14, 15, 16, 17, 18, 26] a0 P P73) → (MW P73 a0) → (0 ≤ a1.toInt ∧ a1.toInt ≤ 1) → (0 ≤ (pI P73 a0 0).toInt ∧ (pI P73 a0 0).toInt ≤ 0) → (1 ≤ (pI P73 a0 18).toInt ∧ (pI P73 a0 18).toInt ≤ 16) → (0 ≤ (pI P73 a0 8).toInt ∧ (pI P73 a0 8).toInt ≤ 16005) → (∀ b, pR P73 a0 10 = some b → 1 ≤ (pI P73 b (a1.toInt.toNat)).toInt ∧ (pI P73 b (a1.toInt.toNat)).toInt ≤ 16) → (∀ b914, pR P73 a0 14 = some b914 → 1 ≤ (pI P73 a0 8).toInt ∨ 1 ≤ (pI P73 b914 2).toInt) → G E ({ frames := 5, cells := 0, slots := 0, locals := 320 } : Room) D cy 3 P73 0 0 73 [(0, .ref a0), (1, .int a1)] [] := by
    intro P73 I73 X73 W73 hv73_1 hq73_0 hq73_1 hq73_2 hq73_3 rel73_0
    have h80156 := X73.at ha0
    obtain ⟨b80157, e80158, h80159⟩ := I73.fld (h80156) 10 13 2 rfl
    have hq73_3 := hq73_3 b80157 e80158
    obtain ⟨b80160, e80161, h80162⟩ := I73.fld (h80156) 14 13 3 rfl
    have rel73_0 := rel73_0 b80160 e80161
    have h80163 := I73.arr e80161 rfl 2
    have h80164 := I73.rg h80156 7 rfl
    refine g_aload_n C dX12_draw_73 rfl 0 rfl ?_
    refine g_getI C fi_X12_162 (by decide) (h80156).1 (h80156).2 dX12_draw_74 ?_
    refine b_if_ne C 198 dX12_draw_77 (by decide) (fun h80165 => ?_) (fun h80165 => ?_)
    · have h80165 : (pI P73 a0 8).toInt ≠ 0 := ti_ne h80165
      refine g_lv (lv' := [(0, .ref a0)]) [0] rfl ?_
      exact J198 P73 I73 X73 W73 (by omega) (by omega) (by omega) (fun b9 e9 => by rw [e80158] at e9; cases e9; omega)
    · have h80165 : (pI P73 a0 8).toInt = 0 := congrArg Int32.toInt h80165
      refine g_iconst (v := 0) C dX12_draw_80 (by decide) ?_
      refine g_istore_n (lv' := [(2, .int 0), (0, .ref a0), (1, .int a1)]) C dX12_draw_81 rfl (by decide) rfl ?_
      refine g_lv (lv' := [(0, .ref a0), (1, .int a1), (2, .int 0)]) [1, 2, 0] rfl ?_
      exact J82 _ P73 0 (Nat.lt_succ_self _) I73 X73 W73 (by omega) (by decide) (by omega) (by omega) (by omega) (fun b9 e9 => by rw [e80158] at e9; cases e9; omega) (fun b9 e9 => by rw [e80161] at e9; cases e9; omega)
  have J47 : ∀ (n47 : Nat) (P47 : PP), (2 * (1000 - (pI P47 a0 7).toInt) + 1 - min 1 (pI P47 a0 8).toInt).toNat < n47 → (IM P47 a0) → (EM [0, 2, 3, 4, 5, 7, 8, 12, 13, 14, 15, 16, 17, 18, 26] a0 P P47) → (MW P47 a0) → (0 ≤ a1.toInt ∧ a1.toInt ≤ 1) → (0 ≤ (pI P47 a0 0).toInt ∧ (pI P47 a0 0).toInt ≤ 0) → (1 ≤ (pI P47 a0 18).toInt ∧ (pI P47 a0 18).toInt ≤ 16) → (∀ b, pR P47 a0 10 = some b → 1 ≤ (pI P47 b (a1.toInt.toNat)).toInt ∧ (pI P47 b (a1.toInt.toNat)).toInt ≤ 16) → (∀ b914, pR P47 a0 14 = some b914 → 1 ≤ (pI P47 a0 8).toInt ∨ 1 ≤ (pI P47 b914 2).toInt) → G E ({ frames := 5, cells := 0, slots := 0, locals := 320 } : Room) D cy 3 P47 0 0 47 [(0, .ref a0), (1, .int a1)] [] := by
    intro n47
    induction n47 with
    | zero => intro P47 hm47 I47 X47 W47 hv47_1 hq47_0 hq47_1 hq47_2 rel47_0; omega
    | succ n47 ih47 =>
      intro P47 hm47 I47 X47 W47 hv47_1 hq47_0 hq47_1 hq47_2 rel47_0
      have h80166 := X47.at ha0
      obtain ⟨b80167, e80168, h80169⟩ := I47.fld (h80166) 10 13 2 rfl
      have hq47_2 := hq47_2 b80167 e80168
      have h80170 := I47.rg h80166 8 rfl
      obtain ⟨b80171, e80172, h80173⟩ := I47.fld (h80166) 14 13 3 rfl
      have rel47_0 := rel47_0 b80171 e80172
      have h80174 := I47.arr e80172 rfl 2
      have h80175 := I47.rg h80166 7 rfl
      refine g_aload_n C dX12_draw_47 rfl 0 rfl ?_
      refine g_getI C fi_X12_162 (by decide) (h80166).1 (h80166).2 dX12_draw_48 ?_
      refine b_if_ne C 73 dX12_draw_51 (by decide) (fun h80176 => ?_) (fun h80176 => ?_)
      · have h80176 : (pI P47 a0 8).toInt ≠ 0 := ti_ne h80176
        exact J73 P47 I47 X47 W47 (by omega) (by omega) (by omega) (by omega) (fun b9 e9 => by rw [e80168] at e9; cases e9; omega) (by intro b914 e914; rw [e80172] at e914; cases e914; show 1 ≤ (pI P47 a0 8).toInt ∨ 1 ≤ (pI P47 b80171 2).toInt; omega)
      · have h80176 : (pI P47 a0 8).toInt = 0 := congrArg Int32.toInt h80176
        refine g_aload_n C dX12_draw_54 rfl 0 rfl ?_
        obtain ⟨b80177, e80178, h80179⟩ := I47.fld (h80166) 4 13 1002 rfl
        refine g_getR C fi_X12_24 rfl e80178 (h80166).1 (h80166).2 dX12_draw_55 ?_
        refine g_aload_n C dX12_draw_58 rfl 0 rfl ?_
        refine g_getI C fi_X12_159 (by decide) (h80166).1 (h80166).2 dX12_draw_59 ?_
        refine g_iald (j := ((pI P47 a0 7).toInt.toNat)) C h80179.1 h80179.2.1 (ix_in h80179.2.2 (by omega)) dX12_draw_62 ?_
        have h80180 := I47.arr e80178 rfl ((pI P47 a0 7).toInt.toNat)
        refine b_if_eq C 73 dX12_draw_63 (by decide) (fun h80181 => ?_) (fun h80181 => ?_)
        · have h80181 : (pI P47 b80177 ((pI P47 a0 7).toInt.toNat)).toInt = 0 := congrArg Int32.toInt h80181
          exact J73 P47 I47 X47 W47 (by omega) (by omega) (by omega) (by omega) (fun b9 e9 => by rw [e80168] at e9; cases e9; omega) (by intro b914 e914; rw [e80172] at e914; cases e914; show 1 ≤ (pI P47 a0 8).toInt ∨ 1 ≤ (pI P47 b80171 2).toInt; omega)
        · have h80181 : (pI P47 b80177 ((pI P47 a0 7).toInt.toNat)).toInt ≠ 0 := ti_ne h80181
          refine g_aload_n C dX12_draw_66 rfl 0 rfl ?_
          refine g_callVV (rest := []) C mv_X12_205 [] (s_X12_readLine I47 (fun b9 e9 => by rw [e80172] at e9; cases e9; show 1 ≤ (pI P47 b80171 2).toInt ∧ (pI P47 b80171 2).toInt ≤ 9; omega) W47) (h80166).1 (h80166).2 rfl rfl (by decide) (Nat.le_of_ble_eq_true rfl) (by decide) dX12_draw_67 (fun Y80183 h80184 => ?_)
          obtain ⟨Iy80185, Xy80186, W80187, p80188, p80189, p80190, p80191⟩ := h80184
          have p80188 : 1 ≤ (pI Y80183 a0 8).toInt ∨ (pI P47 a0 7).toInt < (pI Y80183 a0 7).toInt := p80188
          have p80189 : (pI P47 a0 7).toInt ≤ (pI Y80183 a0 7).toInt := p80189
          have p80190 : (pI P47 a0 8).toInt ≤ (pI Y80183 a0 8).toInt := p80190
          have q80192 := Xy80186.keepF 0 (by decide)
          have q80193 := Xy80186.keepF 18 (by decide)
          have q80194 := Xy80186.keepA e80168 (by decide) rfl (a1.toInt.toNat)
          have Xz80195 : EM [0, 2, 3, 4, 5, 7, 8, 12, 13, 14, 15, 16, 17, 18, 26] a0 P Y80183 := EM.tr ha0 X47 (Xy80186.mono (by decide))
          have e80196 := Xy80186.ref h80166 (by decide) e80168
          have h80197 := Xy80186.at h80166
          have h80198 := Xy80186.ar h80169
          obtain ⟨b80199, e80200, h80201⟩ := Iy80185.fld (h80197) 14 13 3 rfl
          have p80191 : 1 ≤ (pI Y80183 a0 8).toInt ∨ 1 ≤ (pI Y80183 b80199 2).toInt := p80191 b80199 e80200
          have h80202 := Iy80185.arr e80200 rfl 2
          have h80203 := Iy80185.rg h80197 7 rfl
          have h80204 := Iy80185.rg h80197 8 rfl
          have h80205 := Iy80185.rg h80197 7 rfl
          have h80206 := Iy80185.rg h80197 8 rfl
          have h80207 := Iy80185.rg h80197 7 rfl
          have h80208 := Iy80185.rg h80197 8 rfl
          have h80209 := Iy80185.rg h80197 7 rfl
          have h80210 := Iy80185.rg h80197 8 rfl
          refine g_goto C 47 dX12_draw_70 (by decide) ?_
          exact ih47 Y80183 (by omega) Iy80185 Xz80195 W80187 (by omega) (by omega) (by omega) (fun b9 e9 => by rw [e80196] at e9; cases e9; omega) (by intro b914 e914; rw [e80200] at e914; cases e914; show 1 ≤ (pI Y80183 a0 8).toInt ∨ 1 ≤ (pI Y80183 b80199 2).toInt; omega)
  have J21 : ∀ (P21 : PP), (IM P21 a0) → (EM [0, 2, 3, 4, 5, 7, 8, 12, 13, 14, 15, 16, 17, 18, 26] a0 P P21) → (MW P21 a0) → (0 ≤ (pI P21 a0 0).toInt ∧ (pI P21 a0 0).toInt ≤ 0) → G E ({ frames := 5, cells := 0, slots := 0, locals := 320 } : Room) D cy 3 P21 0 0 21 [(0, .ref a0)] [] := by
    intro P21 I21 X21 W21 hq21_0
    have h80211 := X21.at ha0
    refine g_aload_n C dX12_draw_21 rfl 0 rfl ?_
    refine g_iconst (v := 0) C dX12_draw_22 (by decide) ?_
    refine g_putI C fi_X12_11 rfl (h80211).1 (h80211).2 dX12_draw_23 ?_
    refine gqW (ks := [2]) (I21.setI (rgOk.of rfl (by decide))) (EM.setI I21 (by decide)) (fun Y80212 Iy80213 Xy80214 w80215  => ?_)
    have w80215 : (pI Y80212 a0 2).toInt = 0 := w80215
    have q80216 := Xy80214.keepF 0 (by decide)
    have W80217 := W21.keep I21 Xy80214 (by decide) (by decide) (by decide)
    have Xz80218 : EM [0, 2, 3, 4, 5, 7, 8, 12, 13, 14, 15, 16, 17, 18, 26] a0 P Y80212 := EM.tr ha0 X21 (Xy80214.mono (by decide))
    have h80219 := Xy80214.at h80211
    refine g_iconst (v := (-1)) C dX12_draw_26 (by decide) ?_
    exact ret _ _ _ _ _ _ dX12_draw_27 rfl (by decide) (by decide) ⟨Iy80213, Xz80218, W80217, (by decide)⟩
  refine g_aload_n C dX12_draw_0 rfl 0 rfl ?_
  refine g_iconst (v := 0) C dX12_draw_1 (by decide) ?_
  refine g_putI C fi_X12_1 rfl (ha0).1 (ha0).2 dX12_draw_2 ?_
  refine gqW (ks := [0]) (I.setI (rgOk.of rfl (by decide))) (EM.setI I (by decide)) (fun Y80220 Iy80221 Xy80222 w80223  => ?_)
  have w80223 : (pI Y80220 a0 0).toInt = 0 := w80223
  have W80224 := hW.keep I Xy80222 (by decide) (by decide) (by decide)
  have Xz80225 : EM [0, 2, 3, 4, 5, 7, 8, 12, 13, 14, 15, 16, 17, 18, 26] a0 P Y80220 := Xy80222.mono (by decide)
  have h80226 := Xy80222.at ha0
  refine g_aload_n C dX12_draw_5 rfl 0 rfl ?_
  refine g_iload_n C dX12_draw_6 rfl 1 rfl ?_
  refine g_callVI (rest := []) C mv_X12_192 [.int a1] (s_X12_isBook Iy80221 W80224) (h80226).1 (h80226).2 rfl rfl (by decide) (Nat.le_of_ble_eq_true rfl) (by decide) dX12_draw_7 (fun r80227 Y80228 h80229 => ?_)
  obtain ⟨rfl, h80229⟩ := h80229
  obtain ⟨h80229, hi80230, hi80231⟩ := h80229
  have hi80230 : r80227.toInt = 0 ∨ (((0 : Int) ≤ a1.toInt ∧ a1.toInt ≤ (1 : Int))) := hi80230
  have h80229 : 0 ≤ r80227.toInt ∧ r80227.toInt ≤ 1 := h80229
  refine b_if_eq C 21 dX12_draw_10 (by decide) (fun h80232 => ?_) (fun h80232 => ?_)
  · have h80232 : r80227.toInt = 0 := congrArg Int32.toInt h80232
    clear hi80230
    refine g_lv (lv' := [(0, .ref a0)]) [0] rfl ?_
    exact J21 Y80220 Iy80221 Xz80225 W80224 (by omega)
  · have h80232 : r80227.toInt ≠ 0 := ti_ne h80232
    replace hi80230 := hi80230.resolve_left (by omega)
    obtain ⟨b80233, e80234, h80235⟩ := Iy80221.fld (h80226) 10 13 2 rfl
    have hi80231 := (hi80231.resolve_left (by omega)) b80233 e80234
    have hi80231 : 0 < (pI Y80220 b80233 (a1.toInt.toNat)).toInt := hi80231
    have h80236 := Iy80221.arr e80234 rfl (a1.toInt.toNat)
    refine g_aload_n C dX12_draw_13 rfl 0 rfl ?_
    refine g_iload_n C dX12_draw_14 rfl 1 rfl ?_
    refine g_callVI (rest := []) C mv_X12_196 [.int a1] (s_X12_isOut Iy80221 W80224) (h80226).1 (h80226).2 rfl rfl (by decide) (Nat.le_of_ble_eq_true rfl) (by decide) dX12_draw_15 (fun r80237 Y80238 h80239 => ?_)
    obtain ⟨rfl, h80239⟩ := h80239
    have h80239 : 0 ≤ r80237.toInt ∧ r80237.toInt ≤ 1 := h80239
    refine b_if_eq C 28 dX12_draw_18 (by decide) (fun h80240 => ?_) (fun h80240 => ?_)
    · have h80240 : r80237.toInt = 0 := congrArg Int32.toInt h80240
      refine g_aload_n C dX12_draw_28 rfl 0 rfl ?_
      refine g_callVV (rest := []) C mv_X12_199 [] (s_X12_cutAll Iy80221 W80224) (h80226).1 (h80226).2 rfl rfl (by decide) (Nat.le_of_ble_eq_true rfl) (by decide) dX12_draw_29 (fun Y80242 h80243 => ?_)
      obtain ⟨Iy80244, Xy80245, W80246⟩ := h80243
      have q80247 := Xy80245.keepF 0 (by decide)
      have q80248 := Xy80245.keepA e80234 (by decide) rfl (a1.toInt.toNat)
      have Xz80249 : EM [0, 2, 3, 4, 5, 7, 8, 12, 13, 14, 15, 16, 17, 18, 26] a0 P Y80242 := EM.tr ha0 Xz80225 (Xy80245.mono (by decide))
      have e80250 := Xy80245.ref h80226 (by decide) e80234
      have h80251 := Xy80245.at h80226
      have h80252 := Xy80245.ar h80235
      refine g_aload_n C dX12_draw_32 rfl 0 rfl ?_
      refine g_iconst (v := 2) C dX12_draw_33 (by decide) ?_
      refine g_callVV (rest := []) C mv_X12_182 [.int 2] (s_X12_forgetsDraw Iy80244 (by decide) W80246) (h80251).1 (h80251).2 rfl rfl (by decide) (Nat.le_of_ble_eq_true rfl) (by decide) dX12_draw_34 (fun Y80254 h80255 => ?_)
      obtain ⟨Iy80256, Xy80257, W80258, p80259⟩ := h80255
      obtain ⟨b80260, e80261, h80262⟩ := Iy80244.fld (h80251) 14 13 3 rfl
      have p80259 := p80259 b80260 e80261
      have p80259 : (pI Y80254 b80260 2).toInt = 1 := p80259
      have h80263 := Iy80244.arr e80261 rfl 2
      have q80264 := Xy80257.keepF 0 (by decide)
      have q80265 := Xy80257.keepA e80250 (by decide) rfl (a1.toInt.toNat)
      have Xz80266 : EM [0, 2, 3, 4, 5, 7, 8, 12, 13, 14, 15, 16, 17, 18, 26] a0 P Y80254 := EM.tr ha0 Xz80249 (Xy80257.mono (by decide))
      have e80267 := Xy80257.ref h80251 (by decide) e80250
      have e80268 := Xy80257.ref h80251 (by decide) e80261
      have h80269 := Xy80257.at h80251
      have h80270 := Xy80257.ar h80252
      have h80271 := Xy80257.ar h80262
      refine g_aload_n C dX12_draw_37 rfl 0 rfl ?_
      refine g_aload_n C dX12_draw_38 rfl 0 rfl ?_
      refine g_getR C fi_X12_45 rfl e80267 (h80269).1 (h80269).2 dX12_draw_39 ?_
      refine g_iload_n C dX12_draw_42 rfl 1 rfl ?_
      refine g_iald (j := (a1.toInt.toNat)) C h80270.1 h80270.2.1 (ix_in h80270.2.2 (by omega)) dX12_draw_43 ?_
      refine g_putI C fi_X12_202 rfl (h80269).1 (h80269).2 dX12_draw_44 ?_
      refine gqW (ks := [18]) (Iy80256.setI (rgOk.of rfl (by omega))) (EM.setI Iy80256 (by decide)) (fun Y80272 Iy80273 Xy80274 w80275  => ?_)
      have w80275 : (pI Y80272 a0 18).toInt = (pI Y80254 b80233 (a1.toInt.toNat)).toInt := w80275
      have q80276 := Xy80274.keepA e80268 (by decide) rfl 2
      have q80277 := Xy80274.keepF 0 (by decide)
      have q80278 := Xy80274.keepA e80267 (by decide) rfl (a1.toInt.toNat)
      have W80279 := W80258.keep Iy80256 Xy80274 (by decide) (by decide) (by decide)
      have Xz80280 : EM [0, 2, 3, 4, 5, 7, 8, 12, 13, 14, 15, 16, 17, 18, 26] a0 P Y80272 := EM.tr ha0 Xz80266 (Xy80274.mono (by decide))
      have e80281 := Xy80274.ref h80269 (by decide) e80267
      have e80282 := Xy80274.ref h80269 (by decide) e80268
      have h80283 := Xy80274.at h80269
      have h80284 := Xy80274.ar h80270
      have h80285 := Xy80274.ar h80271
      exact J47 _ Y80272 (Nat.lt_succ_self _) Iy80273 Xz80280 W80279 (by omega) (by omega) (by omega) (fun b9 e9 => by rw [e80281] at e9; cases e9; omega) (by intro b914 e914; rw [e80282] at e914; cases e914; show 1 ≤ (pI Y80272 a0 8).toInt ∨ 1 ≤ (pI Y80272 b80260 2).toInt; omega)
    · have h80240 : r80237.toInt ≠ 0 := ti_ne h80240
      refine g_lv (lv' := [(0, .ref a0)]) [0] rfl ?_
      exact J21 Y80220 Iy80221 Xz80225 W80224 (by omega)
theorem dX12_enough_0 : decode cX12_enough 0 = .ok (.aload_n 0, 1) := by decide +kernel
theorem dX12_enough_1 : decode cX12_enough 1 = .ok (.iconst 0, 1) := by decide +kernel
theorem dX12_enough_2 : decode cX12_enough 2 = .ok (.putfield 1, 3) := by decide +kernel
theorem dX12_enough_5 : decode cX12_enough 5 = .ok (.aload_n 0, 1) := by decide +kernel
theorem dX12_enough_6 : decode cX12_enough 6 = .ok (.iload_n 1, 1) := by decide +kernel
theorem dX12_enough_7 : decode cX12_enough 7 = .ok (.iload_n 2, 1) := by decide +kernel
theorem dX12_enough_8 : decode cX12_enough 8 = .ok (.iload_n 3, 1) := by decide +kernel
theorem dX12_enough_9 : decode cX12_enough 9 = .ok (.invokevirtual 377, 3) := by decide +kernel
theorem dX12_enough_12 : decode cX12_enough 12 = .ok (.ifCond .ne 5, 3) := by decide +kernel
theorem dX12_enough_15 : decode cX12_enough 15 = .ok (.iconst (-1), 1) := by decide +kernel
theorem dX12_enough_16 : decode cX12_enough 16 = .ok (.ireturn, 1) := by decide +kernel
theorem dX12_enough_17 : decode cX12_enough 17 = .ok (.aload_n 0, 1) := by decide +kernel
theorem dX12_enough_18 : decode cX12_enough 18 = .ok (.iload_n 1, 1) := by decide +kernel
theorem dX12_enough_19 : decode cX12_enough 19 = .ok (.iload_n 2, 1) := by decide +kernel
theorem dX12_enough_20 : decode cX12_enough 20 = .ok (.invokevirtual 380, 3) := by decide +kernel
theorem dX12_enough_23 : decode cX12_enough 23 = .ok (.iconst 0, 1) := by decide +kernel
theorem dX12_enough_24 : decode cX12_enough 24 = .ok (.istore 5, 2) := by decide +kernel
theorem dX12_enough_26 : decode cX12_enough 26 = .ok (.iload 5, 2) := by decide +kernel
theorem dX12_enough_28 : decode cX12_enough 28 = .ok (.iload_n 2, 1) := by decide +kernel
theorem dX12_enough_29 : decode cX12_enough 29 = .ok (.if_icmp .gt 55, 3) := by decide +kernel
theorem dX12_enough_32 : decode cX12_enough 32 = .ok (.aload_n 0, 1) := by decide +kernel
theorem dX12_enough_33 : decode cX12_enough 33 = .ok (.iload_n 1, 1) := by decide +kernel
theorem dX12_enough_34 : decode cX12_enough 34 = .ok (.iload_n 2, 1) := by decide +kernel
theorem dX12_enough_35 : decode cX12_enough 35 = .ok (.iload 5, 2) := by decide +kernel
theorem dX12_enough_37 : decode cX12_enough 37 = .ok (.iload_n 3, 1) := by decide +kernel
theorem dX12_enough_38 : decode cX12_enough 38 = .ok (.invokevirtual 383, 3) := by decide +kernel
theorem dX12_enough_41 : decode cX12_enough 41 = .ok (.istore 6, 2) := by decide +kernel
theorem dX12_enough_43 : decode cX12_enough 43 = .ok (.iload 4, 2) := by decide +kernel
theorem dX12_enough_45 : decode cX12_enough 45 = .ok (.ifCond .eq 19, 3) := by decide +kernel
theorem dX12_enough_48 : decode cX12_enough 48 = .ok (.iconst 2, 1) := by decide +kernel
theorem dX12_enough_49 : decode cX12_enough 49 = .ok (.iload 6, 2) := by decide +kernel
theorem dX12_enough_51 : decode cX12_enough 51 = .ok (.imul, 1) := by decide +kernel
theorem dX12_enough_52 : decode cX12_enough 52 = .ok (.iload_n 2, 1) := by decide +kernel
theorem dX12_enough_53 : decode cX12_enough 53 = .ok (.iload 5, 2) := by decide +kernel
theorem dX12_enough_55 : decode cX12_enough 55 = .ok (.invokestatic 387, 3) := by decide +kernel
theorem dX12_enough_58 : decode cX12_enough 58 = .ok (.if_icmp .lt 20, 3) := by decide +kernel
theorem dX12_enough_61 : decode cX12_enough 61 = .ok (.goto 14, 3) := by decide +kernel
theorem dX12_enough_64 : decode cX12_enough 64 = .ok (.iload 6, 2) := by decide +kernel
theorem dX12_enough_66 : decode cX12_enough 66 = .ok (.iload_n 2, 1) := by decide +kernel
theorem dX12_enough_67 : decode cX12_enough 67 = .ok (.iload 5, 2) := by decide +kernel
theorem dX12_enough_69 : decode cX12_enough 69 = .ok (.invokestatic 387, 3) := by decide +kernel
theorem dX12_enough_72 : decode cX12_enough 72 = .ok (.if_icmp .ne 6, 3) := by decide +kernel
theorem dX12_enough_75 : decode cX12_enough 75 = .ok (.iload 5, 2) := by decide +kernel
theorem dX12_enough_77 : decode cX12_enough 77 = .ok (.ireturn, 1) := by decide +kernel
theorem dX12_enough_78 : decode cX12_enough 78 = .ok (.iinc 5 1, 3) := by decide +kernel
theorem dX12_enough_81 : decode cX12_enough 81 = .ok (.goto (-55), 3) := by decide +kernel
theorem dX12_enough_84 : decode cX12_enough 84 = .ok (.iconst (-1), 1) := by decide +kernel
theorem dX12_enough_85 : decode cX12_enough 85 = .ok (.ireturn, 1) := by decide +kernel
set_option maxHeartbeats 4000000 in
set_option maxRecDepth 100000 in
theorem s_X12_enough {P : PP} {a0 : Nat} {a1 : Int32} {a2 : Int32} {a3 : Int32} {a4 : Int32} (I : IM P a0) (ha4 : 0 ≤ a4.toInt ∧ a4.toInt ≤ 1) (hW : MW P a0) : CtrI yX12_enough cX12_enough 7 (some Jvm.ClassFile.FieldType.int) ({ frames := 5, cells := 0, slots := 0, locals := 320 } : Room) 0 0 P [.ref a0, .int a1, .int a2, .int a3, .int a4] (fun r P2 => IM P2 a0 ∧ EM [0, 28, 29, 30, 31, 33, 34, 35, 36, 37, 38, 43] a0 P P2 ∧ MW P2 a0 ∧ (-1 ≤ r.toInt ∧ r.toInt ≤ 11)) := by
  refine enI (lv := [(0, .ref a0), (1, .int a1), (2, .int a2), (3, .int a3), (4, .int a4)]) (by decide) (Nat.le_of_ble_eq_true rfl) rfl (fun E D cy C Ci0 ret => ?_)
  have ha0 := I.2.1
  have J75 : ∀ (P75 : PP) (v75_5 : Int32), (IM P75 a0) → (EM [0, 28, 29, 30, 31, 33, 34, 35, 36, 37, 38, 43] a0 P P75) → (MW P75 a0) → (0 ≤ v75_5.toInt ∧ v75_5.toInt ≤ 11) → (0 ≤ (pI P75 a0 0).toInt ∧ (pI P75 a0 0).toInt ≤ 0) → (∀ b, pR P75 a0 10 = some b → 1 ≤ (pI P75 b (a1.toInt.toNat)).toInt ∧ (pI P75 b (a1.toInt.toNat)).toInt ≤ 16) → G E ({ frames := 5, cells := 0, slots := 0, locals := 320 } : Room) D cy 7 P75 0 0 75 [(5, .int v75_5)] [] := by
    intro P75 v75_5 I75 X75 W75 hv75_5 hq75_0 hq75_1
    have h80745 := X75.at ha0
    obtain ⟨b80746, e80747, h80748⟩ := I75.fld (h80745) 10 13 2 rfl
    have hq75_1 := hq75_1 b80746 e80747
    refine g_iload C dX12_enough_75 0 rfl ?_
    exact ret _ _ _ _ _ _ dX12_enough_77 rfl (by decide) (by decide) ⟨I75, X75, W75, (by omega)⟩
  have J26 : ∀ (n26 : Nat) (P26 : PP) (v26_5 : Int32), (12 - v26_5.toInt).toNat < n26 → (IM P26 a0) → (EM [0, 28, 29, 30, 31, 33, 34, 35, 36, 37, 38, 43] a0 P P26) → (MW P26 a0) → (0 ≤ a1.toInt ∧ a1.toInt ≤ 1) → (1 ≤ a2.toInt ∧ a2.toInt ≤ 11) → (0 ≤ a3.toInt ∧ a3.toInt ≤ 1) → (0 ≤ v26_5.toInt ∧ v26_5.toInt ≤ 12) → (0 ≤ (pI P26 a0 0).toInt ∧ (pI P26 a0 0).toInt ≤ 0) → (∀ b, pR P26 a0 10 = some b → 1 ≤ (pI P26 b (a1.toInt.toNat)).toInt ∧ (pI P26 b (a1.toInt.toNat)).toInt ≤ 16) → G E ({ frames := 5, cells := 0, slots := 0, locals := 320 } : Room) D cy 7 P26 0 0 26 [(0, .ref a0), (1, .int a1), (2, .int a2), (3, .int a3), (4, .int a4), (5, .int v26_5)] [] := by
    intro n26
    induction n26 with
    | zero => intro P26 v26_5 hm26 I26 X26 W26 hv26_1 hv26_2 hv26_3 hv26_5 hq26_0 hq26_1; omega
    | succ n26 ih26 =>
      intro P26 v26_5 hm26 I26 X26 W26 hv26_1 hv26_2 hv26_3 hv26_5 hq26_0 hq26_1
      have h80749 := X26.at ha0
      obtain ⟨b80750, e80751, h80752⟩ := I26.fld (h80749) 10 13 2 rfl
      have hq26_1 := hq26_1 b80750 e80751
      have J78 : ∀ (P78 : PP), (IM P78 a0) → (EM [0, 28, 29, 30, 31, 33, 34, 35, 36, 37, 38, 43] a0 P P78) → (MW P78 a0) → (0 ≤ a1.toInt ∧ a1.toInt ≤ 1) → (1 ≤ a2.toInt ∧ a2.toInt ≤ 11) → (0 ≤ a3.toInt ∧ a3.toInt ≤ 1) → (0 ≤ v26_5.toInt ∧ v26_5.toInt ≤ 11) → (0 ≤ (pI P78 a0 0).toInt ∧ (pI P78 a0 0).toInt ≤ 0) → (∀ b, pR P78 a0 10 = some b → 1 ≤ (pI P78 b (a1.toInt.toNat)).toInt ∧ (pI P78 b (a1.toInt.toNat)).toInt ≤ 16) → G E ({ frames := 5, cells := 0, slots := 0, locals := 320 } : Room) D cy 7 P78 0 0 78 [(0, .ref a0), (1, .int a1), (2, .int a2), (3, .int a3), (4, .int a4), (5, .int v26_5)] [] := by
        intro P78 I78 X78 W78 hv78_1 hv78_2 hv78_3 hv78_5 hq78_0 hq78_1
        have h80753 := X78.at ha0
        obtain ⟨b80754, e80755, h80756⟩ := I78.fld (h80753) 10 13 2 rfl
        have hq78_1 := hq78_1 b80754 e80755
        refine s_iinc (lv0 := [(0, .ref a0), (1, .int a1), (2, .int a2), (3, .int a3), (4, .int a4)]) (m := 1) C dX12_enough_78 5 rfl (by decide) rfl (by decide) (by omega) (fun z80757 h80758 => ?_)
        have h80758 : z80757.toInt = v26_5.toInt + 1 := h80758
        refine g_goto C 26 dX12_enough_81 (by decide) ?_
        refine g_lv (lv' := [(0, .ref a0), (1, .int a1), (2, .int a2), (3, .int a3), (4, .int a4), (5, .int z80757)]) [1, 2, 3, 4, 5, 0] rfl ?_
        exact ih26 P78 z80757 (by omega) I78 X78 W78 (by omega) (by omega) (by omega) (by omega) (by omega) (fun b9 e9 => by rw [e80755] at e9; cases e9; omega)
      refine g_iload C dX12_enough_26 5 rfl ?_
      refine g_iload_n C dX12_enough_28 rfl 2 rfl ?_
      refine b_icmp_gt C 84 dX12_enough_29 (by decide) (fun h80759 => ?_) (fun h80759 => ?_)
      · have h80759 : a2.toInt < v26_5.toInt := h80759
        refine g_iconst (v := (-1)) C dX12_enough_84 (by decide) ?_
        exact ret _ _ _ _ _ _ dX12_enough_85 rfl (by decide) (by decide) ⟨I26, X26, W26, (by decide)⟩
      · have h80759 : v26_5.toInt ≤ a2.toInt := h80759
        refine g_aload_n C dX12_enough_32 rfl 0 rfl ?_
        refine g_iload_n C dX12_enough_33 rfl 1 rfl ?_
        refine g_iload_n C dX12_enough_34 rfl 2 rfl ?_
        refine g_iload C dX12_enough_35 5 rfl ?_
        refine g_iload_n C dX12_enough_37 rfl 3 rfl ?_
        refine g_callVI (rest := []) C mv_X12_383 [.int a1, .int a2, .int v26_5, .int a3] (s_X12_chancesOf I26 (by omega) (by omega) (fun b9 e9 => by rw [e80751] at e9; cases e9; show 1 ≤ (pI P26 b80750 (a1.toInt.toNat)).toInt ∧ (pI P26 b80750 (a1.toInt.toNat)).toInt ≤ 16; omega) W26) (h80749).1 (h80749).2 rfl rfl (by decide) (Nat.le_of_ble_eq_true rfl) (by decide) dX12_enough_38 (fun r80760 Y80761 h80762 => ?_)
        obtain ⟨Iy80763, Xy80764, W80765, h80762⟩ := h80762
        have q80766 := Xy80764.keepF 0 (by decide)
        have q80767 := Xy80764.keepA e80751 (by decide) rfl (a1.toInt.toNat)
        have Xz80768 : EM [0, 28, 29, 30, 31, 33, 34, 35, 36, 37, 38, 43] a0 P Y80761 := EM.tr ha0 X26 (Xy80764.mono (by decide))
        have e80769 := Xy80764.ref h80749 (by decide) e80751
        have h80770 := Xy80764.at h80749
        have h80771 := Xy80764.ar h80752
        have h80762 : True := h80762
        refine g_istore (lv' := [(6, .int r80760), (0, .ref a0), (1, .int a1), (2, .int a2), (3, .int a3), (4, .int a4), (5, .int v26_5)]) C dX12_enough_41 (by decide) rfl ?_
        refine g_iload C dX12_enough_43 5 rfl ?_
        refine b_if_eq C 64 dX12_enough_45 (by decide) (fun h80772 => ?_) (fun h80772 => ?_)
        · have h80772 : a4.toInt = 0 := congrArg Int32.toInt h80772
          refine g_iload C dX12_enough_64 0 rfl ?_
          refine g_iload_n C dX12_enough_66 rfl 3 rfl ?_
          refine g_iload C dX12_enough_67 6 rfl ?_
          refine g_callSI (b := 0) (ci := 0) (rest := [.int r80760]) C ms_X12_387 [.int a2, .int v26_5] (s_X12_choices Iy80763.1 (by omega) (by omega)) rfl rfl (by decide) (Nat.le_of_ble_eq_true rfl) (by decide) dX12_enough_69 (fun r80773 Y80774 h80775 => ?_)
          obtain ⟨rfl, h80775⟩ := h80775
          obtain ⟨h80775, hi80776⟩ := h80775
          have hi80776 : v26_5.toInt ≤ a2.toInt → (1 ≤ r80773.toInt ∧ r80773.toInt ≤ 462) ∧ r80773.toInt.natAbs ∣ 27720 := hi80776
          have h80775 : True := h80775
          have u80778 := ti_rng r80760
          have u80779 := ti_rng r80773
          refine b_icmp_ne C 78 dX12_enough_72 (by decide) (fun h80777 => ?_) (fun h80777 => ?_)
          · have h80777 : r80760.toInt ≠ r80773.toInt := ti_ne h80777
            refine g_lv (lv' := [(0, .ref a0), (1, .int a1), (2, .int a2), (3, .int a3), (4, .int a4), (5, .int v26_5)]) [1, 2, 3, 4, 5, 6] rfl ?_
            exact J78 Y80761 Iy80763 Xz80768 W80765 (by omega) (by omega) (by omega) (by omega) (by omega) (fun b9 e9 => by rw [e80769] at e9; cases e9; omega)
          · have h80777 : r80760.toInt = r80773.toInt := congrArg Int32.toInt h80777
            refine g_lv (lv' := [(5, .int v26_5)]) [6] rfl ?_
            exact J75 Y80761 v26_5 Iy80763 Xz80768 W80765 (by omega) (by omega) (fun b9 e9 => by rw [e80769] at e9; cases e9; omega)
        · have h80772 : a4.toInt ≠ 0 := ti_ne h80772
          refine g_iconst (v := 2) C dX12_enough_48 (by decide) ?_
          refine g_iload C dX12_enough_49 0 rfl ?_
          refine a_imul C dX12_enough_51 (fun z80780 => ?_)
          refine g_iload_n C dX12_enough_52 rfl 3 rfl ?_
          refine g_iload C dX12_enough_53 6 rfl ?_
          refine g_callSI (b := 0) (ci := 0) (rest := [.int z80780]) C ms_X12_387 [.int a2, .int v26_5] (s_X12_choices Iy80763.1 (by omega) (by omega)) rfl rfl (by decide) (Nat.le_of_ble_eq_true rfl) (by decide) dX12_enough_55 (fun r80782 Y80783 h80784 => ?_)
          obtain ⟨rfl, h80784⟩ := h80784
          obtain ⟨h80784, hi80785⟩ := h80784
          have hi80785 : v26_5.toInt ≤ a2.toInt → (1 ≤ r80782.toInt ∧ r80782.toInt ≤ 462) ∧ r80782.toInt.natAbs ∣ 27720 := hi80785
          have h80784 : True := h80784
          have u80787 := ti_rng z80780
          have u80788 := ti_rng r80782
          refine b_icmp_lt C 78 dX12_enough_58 (by decide) (fun h80786 => ?_) (fun h80786 => ?_)
          · have h80786 : z80780.toInt < r80782.toInt := h80786
            refine g_lv (lv' := [(0, .ref a0), (1, .int a1), (2, .int a2), (3, .int a3), (4, .int a4), (5, .int v26_5)]) [1, 2, 3, 4, 5, 6] rfl ?_
            exact J78 Y80761 Iy80763 Xz80768 W80765 (by omega) (by omega) (by omega) (by omega) (by omega) (fun b9 e9 => by rw [e80769] at e9; cases e9; omega)
          · have h80786 : r80782.toInt ≤ z80780.toInt := h80786
            refine g_goto C 75 dX12_enough_61 (by decide) ?_
            refine g_lv (lv' := [(5, .int v26_5)]) [6] rfl ?_
            exact J75 Y80761 v26_5 Iy80763 Xz80768 W80765 (by omega) (by omega) (fun b9 e9 => by rw [e80769] at e9; cases e9; omega)
  refine g_aload_n C dX12_enough_0 rfl 0 rfl ?_
  refine g_iconst (v := 0) C dX12_enough_1 (by decide) ?_
  refine g_putI C fi_X12_1 rfl (ha0).1 (ha0).2 dX12_enough_2 ?_
  refine gqW (ks := [0]) (I.setI (rgOk.of rfl (by decide))) (EM.setI I (by decide)) (fun Y80789 Iy80790 Xy80791 w80792  => ?_)
  have w80792 : (pI Y80789 a0 0).toInt = 0 := w80792
  have W80793 := hW.keep I Xy80791 (by decide) (by decide) (by decide)
  have Xz80794 : EM [0, 28, 29, 30, 31, 33, 34, 35, 36, 37, 38, 43] a0 P Y80789 := Xy80791.mono (by decide)
  have h80795 := Xy80791.at ha0
  refine g_aload_n C dX12_enough_5 rfl 0 rfl ?_
  refine g_iload_n C dX12_enough_6 rfl 1 rfl ?_
  refine g_iload_n C dX12_enough_7 rfl 2 rfl ?_
  refine g_iload_n C dX12_enough_8 rfl 3 rfl ?_
  refine g_callVI (rest := []) C mv_X12_377 [.int a1, .int a2, .int a3] (s_X12_areChances Iy80790 W80793) (h80795).1 (h80795).2 rfl rfl (by decide) (Nat.le_of_ble_eq_true rfl) (by decide) dX12_enough_9 (fun r80796 Y80797 h80798 => ?_)
  obtain ⟨rfl, h80798⟩ := h80798
  obtain ⟨h80798, hi80799, hi80800⟩ := h80798
  have hi80799 : r80796.toInt = 0 ∨ (((0 : Int) ≤ a1.toInt ∧ a1.toInt ≤ (1 : Int)) ∧ ((1 : Int) ≤ a2.toInt ∧ a2.toInt ≤ (11 : Int)) ∧ ((0 : Int) ≤ a3.toInt ∧ a3.toInt ≤ (1 : Int))) := hi80799
  have h80798 : 0 ≤ r80796.toInt ∧ r80796.toInt ≤ 1 := h80798
  refine b_if_ne C 17 dX12_enough_12 (by decide) (fun h80801 => ?_) (fun h80801 => ?_)
  · have h80801 : r80796.toInt ≠ 0 := ti_ne h80801
    replace hi80799 := hi80799.resolve_left (by omega)
    obtain ⟨b80802, e80803, h80804⟩ := Iy80790.fld (h80795) 10 13 2 rfl
    have hi80800 := (hi80800.resolve_left (by omega)) b80802 e80803
    have hi80800 : 0 < (pI Y80789 b80802 (a1.toInt.toNat)).toInt := hi80800
    have h80805 := Iy80790.arr e80803 rfl (a1.toInt.toNat)
    refine g_aload_n C dX12_enough_17 rfl 0 rfl ?_
    refine g_iload_n C dX12_enough_18 rfl 1 rfl ?_
    refine g_iload_n C dX12_enough_19 rfl 2 rfl ?_
    refine g_callVV (rest := []) C mv_X12_380 [.int a1, .int a2] (s_X12_keepsSets Iy80790 (by omega) (by omega) (fun b9 e9 => by rw [e80803] at e9; cases e9; show 1 ≤ (pI Y80789 b80802 (a1.toInt.toNat)).toInt ∧ (pI Y80789 b80802 (a1.toInt.toNat)).toInt ≤ 16; omega) W80793) (h80795).1 (h80795).2 rfl rfl (by decide) (Nat.le_of_ble_eq_true rfl) (by decide) dX12_enough_20 (fun Y80807 h80808 => ?_)
    obtain ⟨Iy80809, Xy80810, W80811⟩ := h80808
    have q80812 := Xy80810.keepF 0 (by decide)
    have q80813 := Xy80810.keepA e80803 (by decide) rfl (a1.toInt.toNat)
    have Xz80814 : EM [0, 28, 29, 30, 31, 33, 34, 35, 36, 37, 38, 43] a0 P Y80807 := EM.tr ha0 Xz80794 (Xy80810.mono (by decide))
    have e80815 := Xy80810.ref h80795 (by decide) e80803
    have h80816 := Xy80810.at h80795
    have h80817 := Xy80810.ar h80804
    refine g_iconst (v := 0) C dX12_enough_23 (by decide) ?_
    refine g_istore (lv' := [(5, .int 0), (0, .ref a0), (1, .int a1), (2, .int a2), (3, .int a3), (4, .int a4)]) C dX12_enough_24 (by decide) rfl ?_
    refine g_lv (lv' := [(0, .ref a0), (1, .int a1), (2, .int a2), (3, .int a3), (4, .int a4), (5, .int 0)]) [1, 2, 3, 4, 5, 0] rfl ?_
    exact J26 _ Y80807 0 (Nat.lt_succ_self _) Iy80809 Xz80814 W80811 (by omega) (by omega) (by omega) (by decide) (by omega) (fun b9 e9 => by rw [e80815] at e9; cases e9; omega)
  · have h80801 : r80796.toInt = 0 := congrArg Int32.toInt h80801
    clear hi80799
    refine g_iconst (v := (-1)) C dX12_enough_15 (by decide) ?_
    exact ret _ _ _ _ _ _ dX12_enough_16 rfl (by decide) (by decide) ⟨Iy80790, Xz80794, W80793, (by decide)⟩
theorem dX12_falls_0 : decode cX12_falls 0 = .ok (.iload_n 3, 1) := by decide +kernel
theorem dX12_falls_1 : decode cX12_falls 1 = .ok (.bipush 37, 2) := by decide +kernel
theorem dX12_falls_3 : decode cX12_falls 3 = .ok (.imul, 1) := by decide +kernel
theorem dX12_falls_4 : decode cX12_falls 4 = .ok (.bipush 11, 2) := by decide +kernel
theorem dX12_falls_6 : decode cX12_falls 6 = .ok (.iload_n 2, 1) := by decide +kernel
theorem dX12_falls_7 : decode cX12_falls 7 = .ok (.imul, 1) := by decide +kernel
theorem dX12_falls_8 : decode cX12_falls 8 = .ok (.iadd, 1) := by decide +kernel
theorem dX12_falls_9 : decode cX12_falls 9 = .ok (.bipush 101, 2) := by decide +kernel
theorem dX12_falls_11 : decode cX12_falls 11 = .ok (.iload_n 1, 1) := by decide +kernel
theorem dX12_falls_12 : decode cX12_falls 12 = .ok (.imul, 1) := by decide +kernel
theorem dX12_falls_13 : decode cX12_falls 13 = .ok (.iadd, 1) := by decide +kernel
theorem dX12_falls_14 : decode cX12_falls 14 = .ok (.bipush 13, 2) := by decide +kernel
theorem dX12_falls_16 : decode cX12_falls 16 = .ok (.iadd, 1) := by decide +kernel
theorem dX12_falls_17 : decode cX12_falls 17 = .ok (.bipush 7, 2) := by decide +kernel
theorem dX12_falls_19 : decode cX12_falls 19 = .ok (.imul, 1) := by decide +kernel
theorem dX12_falls_20 : decode cX12_falls 20 = .ok (.bipush 100, 2) := by decide +kernel
theorem dX12_falls_22 : decode cX12_falls 22 = .ok (.irem, 1) := by decide +kernel
theorem dX12_falls_23 : decode cX12_falls 23 = .ok (.aload_n 0, 1) := by decide +kernel
theorem dX12_falls_24 : decode cX12_falls 24 = .ok (.getfield 127, 3) := by decide +kernel
theorem dX12_falls_27 : decode cX12_falls 27 = .ok (.iload_n 1, 1) := by decide +kernel
theorem dX12_falls_28 : decode cX12_falls 28 = .ok (.iaload, 1) := by decide +kernel
theorem dX12_falls_29 : decode cX12_falls 29 = .ok (.if_icmp .lt 7, 3) := by decide +kernel
theorem dX12_falls_32 : decode cX12_falls 32 = .ok (.iconst 1, 1) := by decide +kernel
theorem dX12_falls_33 : decode cX12_falls 33 = .ok (.goto 4, 3) := by decide +kernel
theorem dX12_falls_36 : decode cX12_falls 36 = .ok (.iconst 0, 1) := by decide +kernel
theorem dX12_falls_37 : decode cX12_falls 37 = .ok (.ireturn, 1) := by decide +kernel
set_option maxHeartbeats 4000000 in
set_option maxRecDepth 100000 in
theorem s_X12_falls {P : PP} {a0 : Nat} {a1 : Int32} {a2 : Int32} {a3 : Int32} (I : IM P a0) (ha1 : 0 ≤ a1.toInt ∧ a1.toInt ≤ 3) (hW : MW P a0) : CtrI yX12_falls cX12_falls 4 (some Jvm.ClassFile.FieldType.boolean) ({ frames := 1, cells := 0, slots := 0, locals := 64 } : Room) 0 0 P [.ref a0, .int a1, .int a2, .int a3] (fun r P2 => P = P2 ∧ (0 ≤ r.toInt ∧ r.toInt ≤ 1)) := by
  refine enI (lv := [(0, .ref a0), (1, .int a1), (2, .int a2), (3, .int a3)]) (by decide) (Nat.le_of_ble_eq_true rfl) rfl (fun E D cy C Ci0 ret => ?_)
  have ha0 := I.2.1
  refine g_iload_n C dX12_falls_0 rfl 3 rfl ?_
  refine g_bipush (v := 37) C dX12_falls_1 (by decide) ?_
  refine a_imul C dX12_falls_3 (fun z80839 => ?_)
  refine g_bipush (v := 11) C dX12_falls_4 (by decide) ?_
  refine g_iload_n C dX12_falls_6 rfl 2 rfl ?_
  refine a_imul C dX12_falls_7 (fun z80841 => ?_)
  refine a_iadd C dX12_falls_8 (fun z80843 => ?_)
  refine g_bipush (v := 101) C dX12_falls_9 (by decide) ?_
  refine g_iload_n C dX12_falls_11 rfl 1 rfl ?_
  refine s_imul C dX12_falls_12 (by show -2147483648 ≤ 101 * a1.toInt ∧ 101 * a1.toInt ≤ 2147483647; omega) (fun z80845 h80846 => ?_)
  have h80846 : z80845.toInt = 101 * a1.toInt := h80846
  refine a_iadd C dX12_falls_13 (fun z80847 => ?_)
  refine g_bipush (v := 13) C dX12_falls_14 (by decide) ?_
  refine a_iadd C dX12_falls_16 (fun z80849 => ?_)
  refine g_bipush (v := 7) C dX12_falls_17 (by decide) ?_
  refine a_imul C dX12_falls_19 (fun z80851 => ?_)
  refine g_bipush (v := 100) C dX12_falls_20 (by decide) ?_
  refine s_irem C dX12_falls_22 (by show 0 < 100; omega) (fun z80853 h80854 => ?_)
  have h80854 : -100 < z80853.toInt ∧ z80853.toInt < 100 := h80854
  refine g_aload_n C dX12_falls_23 rfl 0 rfl ?_
  obtain ⟨b80855, e80856, h80857⟩ := I.fld (ha0) 45 13 4 rfl
  refine g_getR C fi_X12_127 rfl e80856 (ha0).1 (ha0).2 dX12_falls_24 ?_
  refine g_iload_n C dX12_falls_27 rfl 1 rfl ?_
  refine g_iald (j := (a1.toInt.toNat)) C h80857.1 h80857.2.1 (ix_in h80857.2.2 (by omega)) dX12_falls_28 ?_
  have u80859 := ti_rng (pI P b80855 (a1.toInt.toNat))
  refine b_icmp_lt C 36 dX12_falls_29 (by decide) (fun h80858 => ?_) (fun h80858 => ?_)
  · have h80858 : z80853.toInt < (pI P b80855 (a1.toInt.toNat)).toInt := h80858
    refine g_iconst (v := 0) C dX12_falls_36 (by decide) ?_
    exact ret _ _ _ _ _ _ dX12_falls_37 rfl (by decide) (by decide) ⟨rfl, (by decide)⟩
  · have h80858 : (pI P b80855 (a1.toInt.toNat)).toInt ≤ z80853.toInt := h80858
    refine g_iconst (v := 1) C dX12_falls_32 (by decide) ?_
    refine g_goto C 37 dX12_falls_33 (by decide) ?_
    exact ret _ _ _ _ _ _ dX12_falls_37 rfl (by decide) (by decide) ⟨rfl, (by decide)⟩
theorem dX12_feed_0 : decode cX12_feed 0 = .ok (.aload_n 0, 1) := by decide +kernel
theorem dX12_feed_1 : decode cX12_feed 1 = .ok (.iconst 0, 1) := by decide +kernel
theorem dX12_feed_2 : decode cX12_feed 2 = .ok (.putfield 1, 3) := by decide +kernel
theorem dX12_feed_5 : decode cX12_feed 5 = .ok (.aload_n 0, 1) := by decide +kernel
theorem dX12_feed_6 : decode cX12_feed 6 = .ok (.lload_n 1, 1) := by decide +kernel
theorem dX12_feed_7 : decode cX12_feed 7 = .ok (.invokevirtual 7, 3) := by decide +kernel
theorem dX12_lay_0 : decode cX12_lay 0 = .ok (.bipush 56, 2) := by decide +kernel
theorem dX12_lay_2 : decode cX12_lay 2 = .ok (.istore_n 3, 1) := by decide +kernel
theorem dX12_lay_3 : decode cX12_lay 3 = .ok (.iload_n 3, 1) := by decide +kernel
theorem dX12_lay_4 : decode cX12_lay 4 = .ok (.ifCond .lt 71, 3) := by decide +kernel
theorem dX12_lay_7 : decode cX12_lay 7 = .ok (.lload_n 1, 1) := by decide +kernel
theorem dX12_lay_8 : decode cX12_lay 8 = .ok (.iload_n 3, 1) := by decide +kernel
theorem dX12_lay_9 : decode cX12_lay 9 = .ok (.lshr, 1) := by decide +kernel
theorem dX12_lay_10 : decode cX12_lay 10 = .ok (.l2i, 1) := by decide +kernel
theorem dX12_lay_11 : decode cX12_lay 11 = .ok (.sipush 255, 3) := by decide +kernel
theorem dX12_lay_14 : decode cX12_lay 14 = .ok (.iand, 1) := by decide +kernel
theorem dX12_lay_15 : decode cX12_lay 15 = .ok (.istore 4, 2) := by decide +kernel
theorem dX12_lay_17 : decode cX12_lay 17 = .ok (.iload 4, 2) := by decide +kernel
theorem dX12_lay_19 : decode cX12_lay 19 = .ok (.bipush 10, 2) := by decide +kernel
theorem dX12_lay_21 : decode cX12_lay 21 = .ok (.if_icmp .eq 17, 3) := by decide +kernel
theorem dX12_lay_24 : decode cX12_lay 24 = .ok (.iload 4, 2) := by decide +kernel
theorem dX12_lay_26 : decode cX12_lay 26 = .ok (.bipush 32, 2) := by decide +kernel
theorem dX12_lay_28 : decode cX12_lay 28 = .ok (.if_icmp .lt 41, 3) := by decide +kernel
theorem dX12_lay_31 : decode cX12_lay 31 = .ok (.iload 4, 2) := by decide +kernel
theorem dX12_lay_33 : decode cX12_lay 33 = .ok (.bipush 126, 2) := by decide +kernel
theorem dX12_lay_35 : decode cX12_lay 35 = .ok (.if_icmp .gt 34, 3) := by decide +kernel
theorem dX12_lay_38 : decode cX12_lay 38 = .ok (.aload_n 0, 1) := by decide +kernel
theorem dX12_lay_39 : decode cX12_lay 39 = .ok (.getfield 11, 3) := by decide +kernel
theorem dX12_lay_42 : decode cX12_lay 42 = .ok (.sipush 1000, 3) := by decide +kernel
theorem dX12_lay_45 : decode cX12_lay 45 = .ok (.if_icmp .ge 24, 3) := by decide +kernel
theorem dX12_lay_48 : decode cX12_lay 48 = .ok (.aload_n 0, 1) := by decide +kernel
theorem dX12_lay_49 : decode cX12_lay 49 = .ok (.getfield 14, 3) := by decide +kernel
theorem dX12_lay_52 : decode cX12_lay 52 = .ok (.aload_n 0, 1) := by decide +kernel
theorem dX12_lay_53 : decode cX12_lay 53 = .ok (.getfield 11, 3) := by decide +kernel
theorem dX12_lay_56 : decode cX12_lay 56 = .ok (.iload 4, 2) := by decide +kernel
theorem dX12_lay_58 : decode cX12_lay 58 = .ok (.iastore, 1) := by decide +kernel
theorem dX12_lay_59 : decode cX12_lay 59 = .ok (.aload_n 0, 1) := by decide +kernel
theorem dX12_lay_60 : decode cX12_lay 60 = .ok (.dup, 1) := by decide +kernel
theorem dX12_lay_61 : decode cX12_lay 61 = .ok (.getfield 11, 3) := by decide +kernel
theorem dX12_lay_64 : decode cX12_lay 64 = .ok (.iconst 1, 1) := by decide +kernel
theorem dX12_lay_65 : decode cX12_lay 65 = .ok (.iadd, 1) := by decide +kernel
theorem dX12_lay_66 : decode cX12_lay 66 = .ok (.putfield 11, 3) := by decide +kernel
theorem dX12_lay_69 : decode cX12_lay 69 = .ok (.iinc 3 (-8), 3) := by decide +kernel
theorem dX12_lay_72 : decode cX12_lay 72 = .ok (.goto (-69), 3) := by decide +kernel
theorem dX12_lay_75 : decode cX12_lay 75 = .ok (.return_, 1) := by decide +kernel
set_option maxHeartbeats 4000000 in
set_option maxRecDepth 100000 in
theorem s_X12_lay {P : PP} {a0 : Nat} {a1 : Int64} (I : IM P a0) (hW : MW P a0) : CtrV yX12_lay cX12_lay 5 none ({ frames := 1, cells := 0, slots := 0, locals := 64 } : Room) 0 0 P [.ref a0, .long a1] (fun P2 => IM P2 a0 ∧ EM [1, 2] a0 P P2 ∧ MW P2 a0) := by
  refine enV (lv := [(0, .ref a0), (1, .long a1)]) (by decide) (Nat.le_of_ble_eq_true rfl) rfl (fun E D cy C Ci0 ret => ?_)
  have ha0 := I.2.1
  have J3 : ∀ (n3 : Nat) (P3 : PP) (v3_3 : Int32), (v3_3.toInt - (-8)).toNat < n3 → (IM P3 a0) → (EM [1, 2] a0 P P3) → (MW P3 a0) → (-8 ≤ v3_3.toInt ∧ v3_3.toInt ≤ 56) → G E ({ frames := 1, cells := 0, slots := 0, locals := 64 } : Room) D cy 5 P3 0 0 3 [(0, .ref a0), (1, .long a1), (3, .int v3_3)] [] := by
    intro n3
    induction n3 with
    | zero => intro P3 v3_3 hm3 I3 X3 W3 hv3_3; omega
    | succ n3 ih3 =>
      intro P3 v3_3 hm3 I3 X3 W3 hv3_3
      have h81110 := X3.at ha0
      have J69 : ∀ (P69 : PP), (IM P69 a0) → (EM [1, 2] a0 P P69) → (MW P69 a0) → (0 ≤ v3_3.toInt ∧ v3_3.toInt ≤ 56) → G E ({ frames := 1, cells := 0, slots := 0, locals := 64 } : Room) D cy 5 P69 0 0 69 [(0, .ref a0), (1, .long a1), (3, .int v3_3)] [] := by
        intro P69 I69 X69 W69 hv69_3
        have h81111 := X69.at ha0
        refine s_iinc (lv0 := [(0, .ref a0), (1, .long a1)]) (m := -8) C dX12_lay_69 2 rfl (by decide) rfl (by decide) (by omega) (fun z81112 h81113 => ?_)
        have h81113 : z81112.toInt = v3_3.toInt + (-8) := h81113
        refine g_goto C 3 dX12_lay_72 (by decide) ?_
        refine g_lv (lv' := [(0, .ref a0), (1, .long a1), (3, .int z81112)]) [1, 2, 0] rfl ?_
        exact ih3 P69 z81112 (by omega) I69 X69 W69 (by omega)
      have J38 : ∀ (v38_4 : Int32), (0 ≤ v3_3.toInt ∧ v3_3.toInt ≤ 56) → (10 ≤ v38_4.toInt ∧ v38_4.toInt ≤ 126) → G E ({ frames := 1, cells := 0, slots := 0, locals := 64 } : Room) D cy 5 P3 0 0 38 [(0, .ref a0), (1, .long a1), (3, .int v3_3), (4, .int v38_4)] [] := by
        intro v38_4 hv38_3 hv38_4
        have h81114 := X3.at ha0
        refine g_aload_n C dX12_lay_38 rfl 0 rfl ?_
        refine g_getI C fi_X12_11 (by decide) (h81114).1 (h81114).2 dX12_lay_39 ?_
        have h81115 := I3.rg (h81114) 2 rfl
        refine g_sipush (v := 1000) C dX12_lay_42 (by decide) ?_
        refine b_icmp_ge C 69 dX12_lay_45 (by decide) (fun h81116 => ?_) (fun h81116 => ?_)
        · have h81116 : 1000 ≤ (pI P3 a0 2).toInt := h81116
          refine g_lv (lv' := [(0, .ref a0), (1, .long a1), (3, .int v3_3)]) [0, 1, 2] rfl ?_
          exact J69 P3 I3 X3 W3 (by omega)
        · have h81116 : (pI P3 a0 2).toInt < 1000 := h81116
          refine g_aload_n C dX12_lay_48 rfl 0 rfl ?_
          obtain ⟨b81117, e81118, h81119⟩ := I3.fld (h81114) 1 13 1000 rfl
          refine g_getR C fi_X12_14 rfl e81118 (h81114).1 (h81114).2 dX12_lay_49 ?_
          refine g_aload_n C dX12_lay_52 rfl 0 rfl ?_
          refine g_getI C fi_X12_11 (by decide) (h81114).1 (h81114).2 dX12_lay_53 ?_
          refine g_iload C dX12_lay_56 3 rfl ?_
          refine g_iast (j := ((pI P3 a0 2).toInt.toNat)) C h81119.1 h81119.2.1 (ix_in h81119.2.2 (by omega)) dX12_lay_58 ?_
          refine gqW (ks := [1]) (I3.setA e81118 h81119 (by decide) (arOk.none rfl)) (EM.setA I3 e81118 rfl (by decide)) (fun Y81120 Iy81121 Xy81122 w81123  => ?_)
          have w81123 : (pI Y81120 b81117 ((pI P3 a0 2).toInt.toNat)).toInt = v38_4.toInt := w81123
          have q81124 := Xy81122.keepF 2 (by decide)
          have W81125 := W3.keep I3 Xy81122 (by decide) (by decide) (by decide)
          have Xz81126 : EM [1, 2] a0 P Y81120 := EM.tr ha0 X3 (Xy81122.mono (by decide))
          have h81127 := Xy81122.at h81114
          refine g_aload_n C dX12_lay_59 rfl 0 rfl ?_
          refine g_dup C dX12_lay_60 rfl ?_
          refine g_getI C fi_X12_11 (by decide) (h81127).1 (h81127).2 dX12_lay_61 ?_
          refine g_iconst (v := 1) C dX12_lay_64 (by decide) ?_
          refine s_iadd C dX12_lay_65 (by show -2147483648 ≤ (pI Y81120 a0 2).toInt + 1 ∧ (pI Y81120 a0 2).toInt + 1 ≤ 2147483647; omega) (fun z81128 h81129 => ?_)
          have h81129 : z81128.toInt = (pI Y81120 a0 2).toInt + 1 := h81129
          refine g_putI C fi_X12_11 rfl (h81127).1 (h81127).2 dX12_lay_66 ?_
          refine gqW (ks := [2]) (Iy81121.setI (rgOk.of rfl (by omega))) (EM.setI Iy81121 (by decide)) (fun Y81130 Iy81131 Xy81132 w81133  => ?_)
          have w81133 : (pI Y81130 a0 2).toInt = z81128.toInt := w81133
          have W81134 := W81125.keep Iy81121 Xy81132 (by decide) (by decide) (by decide)
          have Xz81135 : EM [1, 2] a0 P Y81130 := EM.tr ha0 Xz81126 (Xy81132.mono (by decide))
          have h81136 := Xy81132.at h81127
          refine g_lv (lv' := [(0, .ref a0), (1, .long a1), (3, .int v3_3)]) [0, 1, 2] rfl ?_
          exact J69 Y81130 Iy81131 Xz81135 W81134 (by omega)
      refine g_iload_n C dX12_lay_3 rfl 2 rfl ?_
      refine b_if_lt C 75 dX12_lay_4 (by decide) (fun h81137 => ?_) (fun h81137 => ?_)
      · have h81137 : v3_3.toInt < 0 := h81137
        exact ret _ _ _ _ _ dX12_lay_75 (by decide) (by decide) ⟨I3, X3, W3⟩
      · have h81137 : 0 ≤ v3_3.toInt := h81137
        refine g_lload_n C dX12_lay_7 rfl 1 rfl ?_
        refine g_iload_n C dX12_lay_8 rfl 2 rfl ?_
        refine a_lshr C dX12_lay_9 (fun l81138 => ?_)
        refine a_l2i C dX12_lay_10 (fun z81139 => ?_)
        refine g_sipush (v := 255) C dX12_lay_11 (by decide) ?_
        refine s_iand C dX12_lay_14 (by show 0 ≤ 255; omega) (fun z81140 h81141 => ?_)
        have h81141 : 0 ≤ z81140.toInt ∧ z81140.toInt ≤ 255 := h81141
        refine g_istore (lv' := [(4, .int z81140), (0, .ref a0), (1, .long a1), (3, .int v3_3)]) C dX12_lay_15 (by decide) rfl ?_
        refine g_iload C dX12_lay_17 0 rfl ?_
        refine g_bipush (v := 10) C dX12_lay_19 (by decide) ?_
        refine b_icmp_eq C 38 dX12_lay_21 (by decide) (fun h81142 => ?_) (fun h81142 => ?_)
        · have h81142 : z81140.toInt = 10 := congrArg Int32.toInt h81142
          refine g_lv (lv' := [(0, .ref a0), (1, .long a1), (3, .int v3_3), (4, .int z81140)]) [1, 2, 3, 0] rfl ?_
          exact J38 z81140 (by omega) (by omega)
        · have h81142 : z81140.toInt ≠ 10 := ti_ne h81142
          refine g_iload C dX12_lay_24 0 rfl ?_
          refine g_bipush (v := 32) C dX12_lay_26 (by decide) ?_
          refine b_icmp_lt C 69 dX12_lay_28 (by decide) (fun h81143 => ?_) (fun h81143 => ?_)
          · have h81143 : z81140.toInt < 32 := h81143
            refine g_lv (lv' := [(0, .ref a0), (1, .long a1), (3, .int v3_3)]) [1, 2, 3] rfl ?_
            exact J69 P3 I3 X3 W3 (by omega)
          · have h81143 : 32 ≤ z81140.toInt := h81143
            refine g_iload C dX12_lay_31 0 rfl ?_
            refine g_bipush (v := 126) C dX12_lay_33 (by decide) ?_
            refine b_icmp_gt C 69 dX12_lay_35 (by decide) (fun h81144 => ?_) (fun h81144 => ?_)
            · have h81144 : 126 < z81140.toInt := h81144
              refine g_lv (lv' := [(0, .ref a0), (1, .long a1), (3, .int v3_3)]) [1, 2, 3] rfl ?_
              exact J69 P3 I3 X3 W3 (by omega)
            · have h81144 : z81140.toInt ≤ 126 := h81144
              refine g_lv (lv' := [(0, .ref a0), (1, .long a1), (3, .int v3_3), (4, .int z81140)]) [1, 2, 3, 0] rfl ?_
              exact J38 z81140 (by omega) (by omega)
  refine g_bipush (v := 56) C dX12_lay_0 (by decide) ?_
  refine g_istore_n (lv' := [(3, .int 56), (0, .ref a0), (1, .long a1)]) C dX12_lay_2 rfl (by decide) rfl ?_
  refine g_lv (lv' := [(0, .ref a0), (1, .long a1), (3, .int 56)]) [1, 2, 0] rfl ?_
  exact J3 _ P 56 (Nat.lt_succ_self _) I EM.rf hW (by decide)
theorem dX12_feed_10 : decode cX12_feed 10 = .ok (.aload_n 0, 1) := by decide +kernel
theorem dX12_feed_11 : decode cX12_feed 11 = .ok (.lload_n 3, 1) := by decide +kernel
theorem dX12_feed_12 : decode cX12_feed 12 = .ok (.invokevirtual 7, 3) := by decide +kernel
theorem dX12_feed_15 : decode cX12_feed 15 = .ok (.aload_n 0, 1) := by decide +kernel
theorem dX12_feed_16 : decode cX12_feed 16 = .ok (.lload 5, 2) := by decide +kernel
theorem dX12_feed_18 : decode cX12_feed 18 = .ok (.invokevirtual 7, 3) := by decide +kernel
theorem dX12_feed_21 : decode cX12_feed 21 = .ok (.aload_n 0, 1) := by decide +kernel
theorem dX12_feed_22 : decode cX12_feed 22 = .ok (.getfield 11, 3) := by decide +kernel
theorem dX12_feed_25 : decode cX12_feed 25 = .ok (.ireturn, 1) := by decide +kernel
set_option maxHeartbeats 4000000 in
set_option maxRecDepth 100000 in
theorem s_X12_feed {P : PP} {a0 : Nat} {a1 : Int64} {a2 : Int64} {a3 : Int64} (I : IM P a0) (hW : MW P a0) : CtrI yX12_feed cX12_feed 7 (some Jvm.ClassFile.FieldType.int) ({ frames := 2, cells := 0, slots := 0, locals := 128 } : Room) 0 0 P [.ref a0, .long a1, .long a2, .long a3] (fun r P2 => IM P2 a0 ∧ EM [0, 1, 2] a0 P P2 ∧ MW P2 a0 ∧ (0 ≤ r.toInt ∧ r.toInt ≤ 1000)) := by
  refine enI (lv := [(0, .ref a0), (1, .long a1), (3, .long a2), (5, .long a3)]) (by decide) (Nat.le_of_ble_eq_true rfl) rfl (fun E D cy C Ci0 ret => ?_)
  have ha0 := I.2.1
  refine g_aload_n C dX12_feed_0 rfl 0 rfl ?_
  refine g_iconst (v := 0) C dX12_feed_1 (by decide) ?_
  refine g_putI C fi_X12_1 rfl (ha0).1 (ha0).2 dX12_feed_2 ?_
  refine gqW (ks := [0]) (I.setI (rgOk.of rfl (by decide))) (EM.setI I (by decide)) (fun Y81180 Iy81181 Xy81182 w81183  => ?_)
  have w81183 : (pI Y81180 a0 0).toInt = 0 := w81183
  have W81184 := hW.keep I Xy81182 (by decide) (by decide) (by decide)
  have Xz81185 : EM [0, 1, 2] a0 P Y81180 := Xy81182.mono (by decide)
  have h81186 := Xy81182.at ha0
  refine g_aload_n C dX12_feed_5 rfl 0 rfl ?_
  refine g_lload_n C dX12_feed_6 rfl 1 rfl ?_
  refine g_callVV (rest := []) C mv_X12_7 [.long a1] (s_X12_lay Iy81181 W81184) (h81186).1 (h81186).2 rfl rfl (by decide) (Nat.le_of_ble_eq_true rfl) (by decide) dX12_feed_7 (fun Y81188 h81189 => ?_)
  obtain ⟨Iy81190, Xy81191, W81192⟩ := h81189
  have q81193 := Xy81191.keepF 0 (by decide)
  have Xz81194 : EM [0, 1, 2] a0 P Y81188 := EM.tr ha0 Xz81185 (Xy81191.mono (by decide))
  have h81195 := Xy81191.at h81186
  refine g_aload_n C dX12_feed_10 rfl 0 rfl ?_
  refine g_lload_n C dX12_feed_11 rfl 2 rfl ?_
  refine g_callVV (rest := []) C mv_X12_7 [.long a2] (s_X12_lay Iy81190 W81192) (h81195).1 (h81195).2 rfl rfl (by decide) (Nat.le_of_ble_eq_true rfl) (by decide) dX12_feed_12 (fun Y81197 h81198 => ?_)
  obtain ⟨Iy81199, Xy81200, W81201⟩ := h81198
  have q81202 := Xy81200.keepF 0 (by decide)
  have Xz81203 : EM [0, 1, 2] a0 P Y81197 := EM.tr ha0 Xz81194 (Xy81200.mono (by decide))
  have h81204 := Xy81200.at h81195
  refine g_aload_n C dX12_feed_15 rfl 0 rfl ?_
  refine g_lload C dX12_feed_16 3 rfl ?_
  refine g_callVV (rest := []) C mv_X12_7 [.long a3] (s_X12_lay Iy81199 W81201) (h81204).1 (h81204).2 rfl rfl (by decide) (Nat.le_of_ble_eq_true rfl) (by decide) dX12_feed_18 (fun Y81206 h81207 => ?_)
  obtain ⟨Iy81208, Xy81209, W81210⟩ := h81207
  have q81211 := Xy81209.keepF 0 (by decide)
  have Xz81212 : EM [0, 1, 2] a0 P Y81206 := EM.tr ha0 Xz81203 (Xy81209.mono (by decide))
  have h81213 := Xy81209.at h81204
  refine g_aload_n C dX12_feed_21 rfl 0 rfl ?_
  refine g_getI C fi_X12_11 (by decide) (h81213).1 (h81213).2 dX12_feed_22 ?_
  have h81214 := Iy81208.rg (h81213) 2 rfl
  exact ret _ _ _ _ _ _ dX12_feed_25 rfl (by decide) (by decide) ⟨Iy81208, Xz81212, W81210, (by omega)⟩
