theorem dX12_readLine_131 : decode cX12_readLine 131 = .ok (.aload_n 0, 1) := by decide +kernel
theorem dX12_readLine_132 : decode cX12_readLine 132 = .ok (.invokevirtual 208, 3) := by decide +kernel
theorem dX12_readLine_146 : decode cX12_readLine 146 = .ok (.aload_n 0, 1) := by decide +kernel
theorem dX12_readLine_147 : decode cX12_readLine 147 = .ok (.getfield 54, 3) := by decide +kernel
theorem dX12_readLine_150 : decode cX12_readLine 150 = .ok (.iconst 2, 1) := by decide +kernel
theorem dX12_readLine_151 : decode cX12_readLine 151 = .ok (.aload_n 0, 1) := by decide +kernel
theorem dX12_readLine_152 : decode cX12_readLine 152 = .ok (.iconst 1, 1) := by decide +kernel
theorem dX12_readLine_153 : decode cX12_readLine 153 = .ok (.bipush 16, 2) := by decide +kernel
theorem dX12_readLine_155 : decode cX12_readLine 155 = .ok (.invokevirtual 211, 3) := by decide +kernel
theorem dX12_readLine_158 : decode cX12_readLine 158 = .ok (.iastore, 1) := by decide +kernel
theorem dX12_readLine_159 : decode cX12_readLine 159 = .ok (.aload_n 0, 1) := by decide +kernel
theorem dX12_readLine_160 : decode cX12_readLine 160 = .ok (.getfield 57, 3) := by decide +kernel
theorem dX12_readLine_163 : decode cX12_readLine 163 = .ok (.iconst 2, 1) := by decide +kernel
theorem dX12_readLine_164 : decode cX12_readLine 164 = .ok (.aload_n 0, 1) := by decide +kernel
theorem dX12_readLine_165 : decode cX12_readLine 165 = .ok (.iconst 2, 1) := by decide +kernel
theorem dX12_readLine_166 : decode cX12_readLine 166 = .ok (.bipush 9, 2) := by decide +kernel
theorem dX12_readLine_168 : decode cX12_readLine 168 = .ok (.invokevirtual 211, 3) := by decide +kernel
theorem dX12_readLine_171 : decode cX12_readLine 171 = .ok (.iastore, 1) := by decide +kernel
theorem dX12_readLine_172 : decode cX12_readLine 172 = .ok (.goto 42, 3) := by decide +kernel
theorem dX12_readLine_187 : decode cX12_readLine 187 = .ok (.goto 27, 3) := by decide +kernel
theorem dX12_readOdds_0 : decode cX12_readOdds 0 = .ok (.aload_n 0, 1) := by decide +kernel
theorem dX12_readOdds_1 : decode cX12_readOdds 1 = .ok (.getfield 24, 3) := by decide +kernel
theorem dX12_readOdds_4 : decode cX12_readOdds 4 = .ok (.aload_n 0, 1) := by decide +kernel
theorem dX12_readOdds_5 : decode cX12_readOdds 5 = .ok (.getfield 159, 3) := by decide +kernel
theorem dX12_readOdds_8 : decode cX12_readOdds 8 = .ok (.iaload, 1) := by decide +kernel
theorem dX12_readOdds_9 : decode cX12_readOdds 9 = .ok (.iconst 2, 1) := by decide +kernel
theorem dX12_readOdds_10 : decode cX12_readOdds 10 = .ok (.if_icmp .ne 59, 3) := by decide +kernel
theorem dX12_readOdds_13 : decode cX12_readOdds 13 = .ok (.aload_n 0, 1) := by decide +kernel
theorem dX12_readOdds_14 : decode cX12_readOdds 14 = .ok (.getfield 30, 3) := by decide +kernel
theorem dX12_readOdds_17 : decode cX12_readOdds 17 = .ok (.aload_n 0, 1) := by decide +kernel
theorem dX12_readOdds_18 : decode cX12_readOdds 18 = .ok (.getfield 159, 3) := by decide +kernel
theorem dX12_readOdds_21 : decode cX12_readOdds 21 = .ok (.laload, 1) := by decide +kernel
theorem dX12_readOdds_22 : decode cX12_readOdds 22 = .ok (.lconst 1, 1) := by decide +kernel
theorem dX12_readOdds_23 : decode cX12_readOdds 23 = .ok (.lcmp, 1) := by decide +kernel
theorem dX12_readOdds_24 : decode cX12_readOdds 24 = .ok (.ifCond .lt 45, 3) := by decide +kernel
theorem dX12_readOdds_27 : decode cX12_readOdds 27 = .ok (.aload_n 0, 1) := by decide +kernel
theorem dX12_readOdds_28 : decode cX12_readOdds 28 = .ok (.getfield 30, 3) := by decide +kernel
theorem dX12_readOdds_31 : decode cX12_readOdds 31 = .ok (.aload_n 0, 1) := by decide +kernel
theorem dX12_readOdds_32 : decode cX12_readOdds 32 = .ok (.getfield 159, 3) := by decide +kernel
theorem dX12_readOdds_35 : decode cX12_readOdds 35 = .ok (.laload, 1) := by decide +kernel
theorem dX12_readOdds_36 : decode cX12_readOdds 36 = .ok (.ldc2_w 221, 3) := by decide +kernel
theorem dX12_readOdds_39 : decode cX12_readOdds 39 = .ok (.lcmp, 1) := by decide +kernel
theorem dX12_readOdds_40 : decode cX12_readOdds 40 = .ok (.ifCond .gt 29, 3) := by decide +kernel
theorem dX12_readOdds_43 : decode cX12_readOdds 43 = .ok (.aload_n 0, 1) := by decide +kernel
theorem dX12_readOdds_44 : decode cX12_readOdds 44 = .ok (.getfield 51, 3) := by decide +kernel
theorem dX12_readOdds_47 : decode cX12_readOdds 47 = .ok (.bipush 42, 2) := by decide +kernel
theorem dX12_readOdds_49 : decode cX12_readOdds 49 = .ok (.aload_n 0, 1) := by decide +kernel
theorem dX12_readOdds_50 : decode cX12_readOdds 50 = .ok (.getfield 30, 3) := by decide +kernel
theorem dX12_readOdds_53 : decode cX12_readOdds 53 = .ok (.aload_n 0, 1) := by decide +kernel
theorem dX12_readOdds_54 : decode cX12_readOdds 54 = .ok (.getfield 159, 3) := by decide +kernel
theorem dX12_readOdds_57 : decode cX12_readOdds 57 = .ok (.laload, 1) := by decide +kernel
theorem dX12_readOdds_58 : decode cX12_readOdds 58 = .ok (.l2i, 1) := by decide +kernel
theorem dX12_readOdds_59 : decode cX12_readOdds 59 = .ok (.iadd, 1) := by decide +kernel
theorem dX12_readOdds_60 : decode cX12_readOdds 60 = .ok (.iaload, 1) := by decide +kernel
theorem dX12_readOdds_61 : decode cX12_readOdds 61 = .ok (.ifCond .lt 8, 3) := by decide +kernel
theorem dX12_readOdds_64 : decode cX12_readOdds 64 = .ok (.aload_n 0, 1) := by decide +kernel
theorem dX12_readOdds_65 : decode cX12_readOdds 65 = .ok (.iconst 3, 1) := by decide +kernel
theorem dX12_readOdds_66 : decode cX12_readOdds 66 = .ok (.invokevirtual 168, 3) := by decide +kernel
theorem dX12_readOdds_69 : decode cX12_readOdds 69 = .ok (.aload_n 0, 1) := by decide +kernel
theorem dX12_readOdds_70 : decode cX12_readOdds 70 = .ok (.iconst 1, 1) := by decide +kernel
theorem dX12_readOdds_71 : decode cX12_readOdds 71 = .ok (.bipush 20, 2) := by decide +kernel
theorem dX12_readOdds_73 : decode cX12_readOdds 73 = .ok (.invokevirtual 211, 3) := by decide +kernel
theorem dX12_readOdds_76 : decode cX12_readOdds 76 = .ok (.istore_n 1, 1) := by decide +kernel
theorem dX12_readOdds_77 : decode cX12_readOdds 77 = .ok (.aload_n 0, 1) := by decide +kernel
theorem dX12_readOdds_78 : decode cX12_readOdds 78 = .ok (.iconst 0, 1) := by decide +kernel
theorem dX12_readOdds_79 : decode cX12_readOdds 79 = .ok (.sipush 999, 3) := by decide +kernel
theorem dX12_readOdds_82 : decode cX12_readOdds 82 = .ok (.invokevirtual 211, 3) := by decide +kernel
theorem dX12_readOdds_85 : decode cX12_readOdds 85 = .ok (.istore_n 2, 1) := by decide +kernel
theorem dX12_readOdds_86 : decode cX12_readOdds 86 = .ok (.aload_n 0, 1) := by decide +kernel
theorem dX12_readOdds_87 : decode cX12_readOdds 87 = .ok (.getfield 162, 3) := by decide +kernel
theorem dX12_readOdds_90 : decode cX12_readOdds 90 = .ok (.ifCond .ne 13, 3) := by decide +kernel
theorem dX12_readOdds_93 : decode cX12_readOdds 93 = .ok (.aload_n 0, 1) := by decide +kernel
theorem dX12_readOdds_94 : decode cX12_readOdds 94 = .ok (.getfield 51, 3) := by decide +kernel
theorem dX12_readOdds_97 : decode cX12_readOdds 97 = .ok (.bipush 42, 2) := by decide +kernel
theorem dX12_readOdds_99 : decode cX12_readOdds 99 = .ok (.iload_n 1, 1) := by decide +kernel
theorem dX12_readOdds_100 : decode cX12_readOdds 100 = .ok (.iadd, 1) := by decide +kernel
theorem dX12_readOdds_101 : decode cX12_readOdds 101 = .ok (.iload_n 2, 1) := by decide +kernel
theorem dX12_readOdds_102 : decode cX12_readOdds 102 = .ok (.iastore, 1) := by decide +kernel
theorem dX12_readOdds_103 : decode cX12_readOdds 103 = .ok (.return_, 1) := by decide +kernel
set_option maxHeartbeats 4000000 in
set_option maxRecDepth 100000 in
theorem s_X12_readOdds {P : PP} {a0 : Nat} (I : IM P a0) (hW : MW P a0) : CtrV yX12_readOdds cX12_readOdds 3 none ({ frames := 3, cells := 0, slots := 0, locals := 192 } : Room) 0 0 P [.ref a0] (fun P2 => IM P2 a0 ∧ EM [7, 8, 12] a0 P P2 ∧ MW P2 a0 ∧ ((pI P a0 7).toInt ≤ (pI P2 a0 7).toInt) ∧ ((pI P a0 8).toInt ≤ (pI P2 a0 8).toInt)) := by
  refine enV (lv := [(0, .ref a0)]) (by decide) (Nat.le_of_ble_eq_true rfl) rfl (fun E D cy C Ci0 ret => ?_)
  have ha0 := I.2.1
  have h77028 := I.rg ha0 7 rfl
  have h77029 := I.rg ha0 8 rfl
  refine g_aload_n C dX12_readOdds_0 rfl 0 rfl ?_
  obtain ⟨b77030, e77031, h77032⟩ := I.fld (ha0) 4 13 1002 rfl
  refine g_getR C fi_X12_24 rfl e77031 (ha0).1 (ha0).2 dX12_readOdds_1 ?_
  refine g_aload_n C dX12_readOdds_4 rfl 0 rfl ?_
  refine g_getI C fi_X12_159 (by decide) (ha0).1 (ha0).2 dX12_readOdds_5 ?_
  refine g_iald (j := ((pI P a0 7).toInt.toNat)) C h77032.1 h77032.2.1 (ix_in h77032.2.2 (by omega)) dX12_readOdds_8 ?_
  have h77033 := I.arr e77031 rfl ((pI P a0 7).toInt.toNat)
  refine g_iconst (v := 2) C dX12_readOdds_9 (by decide) ?_
  refine b_icmp_ne C 69 dX12_readOdds_10 (by decide) (fun h77034 => ?_) (fun h77034 => ?_)
  · have h77034 : (pI P b77030 ((pI P a0 7).toInt.toNat)).toInt ≠ 2 := ti_ne h77034
    refine g_aload_n C dX12_readOdds_69 rfl 0 rfl ?_
    refine g_iconst (v := 1) C dX12_readOdds_70 (by decide) ?_
    refine g_bipush (v := 20) C dX12_readOdds_71 (by decide) ?_
    refine g_callVI (rest := []) C mv_X12_211 [.int 1, .int 20] (s_X12_takeNumber I (by decide) (by decide) hW) (ha0).1 (ha0).2 rfl rfl (by decide) (Nat.le_of_ble_eq_true rfl) (by decide) dX12_readOdds_73 (fun r77035 Y77036 h77037 => ?_)
    obtain ⟨Iy77038, Xy77039, W77040, p77041, p77042, p77043, h77037⟩ := h77037
    have p77041 : (pI P a0 7).toInt ≤ (pI Y77036 a0 7).toInt := p77041
    have p77042 : (pI P a0 8).toInt ≤ (pI Y77036 a0 8).toInt := p77042
    have p77043 : 1 ≤ (pI Y77036 a0 8).toInt ∨ (pI Y77036 a0 7).toInt = (pI P a0 7).toInt + 1 := p77043
    have Xz77044 : EM [7, 8, 12] a0 P Y77036 := Xy77039.mono (by decide)
    have h77045 := Xy77039.at ha0
    have h77046 := Iy77038.rg h77045 7 rfl
    have h77047 := Iy77038.rg h77045 8 rfl
    have h77048 := Iy77038.rg h77045 7 rfl
    have h77049 := Iy77038.rg h77045 8 rfl
    obtain ⟨h77037, hi77050⟩ := h77037
    have hi77050 : (1 ≤ (pI Y77036 a0 8).toInt ∧ r77035.toInt = 0) ∨ (1 ≤ r77035.toInt ∧ r77035.toInt ≤ 20) := hi77050
    have h77037 : 0 ≤ r77035.toInt ∧ r77035.toInt ≤ 999 := h77037
    refine g_istore_n (lv' := [(1, .int r77035), (0, .ref a0)]) C dX12_readOdds_76 rfl (by decide) rfl ?_
    refine g_aload_n C dX12_readOdds_77 rfl 1 rfl ?_
    refine g_iconst (v := 0) C dX12_readOdds_78 (by decide) ?_
    refine g_sipush (v := 999) C dX12_readOdds_79 (by decide) ?_
    refine g_callVI (rest := []) C mv_X12_211 [.int 0, .int 999] (s_X12_takeNumber Iy77038 (by decide) (by decide) W77040) (h77045).1 (h77045).2 rfl rfl (by decide) (Nat.le_of_ble_eq_true rfl) (by decide) dX12_readOdds_82 (fun r77051 Y77052 h77053 => ?_)
    obtain ⟨Iy77054, Xy77055, W77056, p77057, p77058, p77059, h77053⟩ := h77053
    have p77057 : (pI Y77036 a0 7).toInt ≤ (pI Y77052 a0 7).toInt := p77057
    have p77058 : (pI Y77036 a0 8).toInt ≤ (pI Y77052 a0 8).toInt := p77058
    have p77059 : 1 ≤ (pI Y77052 a0 8).toInt ∨ (pI Y77052 a0 7).toInt = (pI Y77036 a0 7).toInt + 1 := p77059
    have Xz77060 : EM [7, 8, 12] a0 P Y77052 := EM.tr ha0 Xz77044 (Xy77055.mono (by decide))
    have h77061 := Xy77055.at h77045
    have h77062 := Iy77054.rg h77061 7 rfl
    have h77063 := Iy77054.rg h77061 8 rfl
    have h77064 := Iy77054.rg h77061 7 rfl
    have h77065 := Iy77054.rg h77061 8 rfl
    obtain ⟨h77053, hi77066⟩ := h77053
    have hi77066 : (1 ≤ (pI Y77052 a0 8).toInt ∧ r77051.toInt = 0) ∨ (0 ≤ r77051.toInt ∧ r77051.toInt ≤ 999) := hi77066
    have h77053 : 0 ≤ r77051.toInt ∧ r77051.toInt ≤ 999 := h77053
    refine g_istore_n (lv' := [(2, .int r77051), (1, .int r77035), (0, .ref a0)]) C dX12_readOdds_85 rfl (by decide) rfl ?_
    refine g_aload_n C dX12_readOdds_86 rfl 2 rfl ?_
    refine g_getI C fi_X12_162 (by decide) (h77061).1 (h77061).2 dX12_readOdds_87 ?_
    refine b_if_ne C 103 dX12_readOdds_90 (by decide) (fun h77067 => ?_) (fun h77067 => ?_)
    · have h77067 : (pI Y77052 a0 8).toInt ≠ 0 := ti_ne h77067
      exact ret _ _ _ _ _ dX12_readOdds_103 (by decide) (by decide) ⟨Iy77054, Xz77060, W77056, (by show (pI P a0 7).toInt ≤ (pI Y77052 a0 7).toInt; omega), (by show (pI P a0 8).toInt ≤ (pI Y77052 a0 8).toInt; omega)⟩
    · have h77067 : (pI Y77052 a0 8).toInt = 0 := congrArg Int32.toInt h77067
      refine g_aload_n C dX12_readOdds_93 rfl 2 rfl ?_
      obtain ⟨b77068, e77069, h77070⟩ := Iy77054.fld (h77061) 12 13 63 rfl
      refine g_getR C fi_X12_51 rfl e77069 (h77061).1 (h77061).2 dX12_readOdds_94 ?_
      refine g_bipush (v := 42) C dX12_readOdds_97 (by decide) ?_
      refine g_iload_n C dX12_readOdds_99 rfl 1 rfl ?_
      refine s_iadd C dX12_readOdds_100 (by show -2147483648 ≤ 42 + r77035.toInt ∧ 42 + r77035.toInt ≤ 2147483647; omega) (fun z77071 h77072 => ?_)
      have h77072 : z77071.toInt = 42 + r77035.toInt := h77072
      refine g_iload_n C dX12_readOdds_101 rfl 0 rfl ?_
      refine g_iast (j := (z77071.toInt.toNat)) C h77070.1 h77070.2.1 (ix_in h77070.2.2 (by omega)) dX12_readOdds_102 ?_
      refine gqW (ks := [12]) (Iy77054.setA e77069 h77070 (by decide) (arOk.of rfl (by omega))) (EM.setA Iy77054 e77069 rfl (by decide)) (fun Y77073 Iy77074 Xy77075 w77076  => ?_)
      have w77076 : (pI Y77073 b77068 (z77071.toInt.toNat)).toInt = r77051.toInt := w77076
      have q77077 := Xy77075.keepF 7 (by decide)
      have q77078 := Xy77075.keepF 8 (by decide)
      have W77079 := W77056.keep Iy77054 Xy77075 (by decide) (by decide) (by decide) (by decide)
      have Xz77080 : EM [7, 8, 12] a0 P Y77073 := EM.tr ha0 Xz77060 (Xy77075.mono (by decide))
      have e77081 := Xy77075.ref h77061 (by decide) e77069
      have h77082 := Xy77075.at h77061
      have h77083 := Xy77075.ar h77070
      exact ret _ _ _ _ _ dX12_readOdds_103 (by decide) (by decide) ⟨Iy77074, Xz77080, W77079, (by show (pI P a0 7).toInt ≤ (pI Y77073 a0 7).toInt; omega), (by show (pI P a0 8).toInt ≤ (pI Y77073 a0 8).toInt; omega)⟩
  · have h77034 : (pI P b77030 ((pI P a0 7).toInt.toNat)).toInt = 2 := congrArg Int32.toInt h77034
    refine g_aload_n C dX12_readOdds_13 rfl 0 rfl ?_
    obtain ⟨b77084, e77085, h77086⟩ := I.fld (ha0) 6 14 1002 rfl
    refine g_getR C fi_X12_30 rfl e77085 (ha0).1 (ha0).2 dX12_readOdds_14 ?_
    refine g_aload_n C dX12_readOdds_17 rfl 0 rfl ?_
    refine g_getI C fi_X12_159 (by decide) (ha0).1 (ha0).2 dX12_readOdds_18 ?_
    refine g_lald (j := ((pI P a0 7).toInt.toNat)) C h77086.1 h77086.2.1 (ix_in h77086.2.2 (by omega)) dX12_readOdds_21 ?_
    refine g_topl (fun l77087 h77088 => ?_)
    have hl77089 : l77087.toInt = (pJ P b77084 ((pI P a0 7).toInt.toNat)).toInt := congrArg Int64.toInt h77088
    refine g_lconst (v := 1) C dX12_readOdds_22 (by decide) ?_
    refine g_lcmp C dX12_readOdds_23 ?_
    refine g_topi (fun z77090 h77091 => ?_)
    have hc77092 : (z77090.toInt < 0 ∧ l77087.toInt < 1) ∨ (z77090.toInt = 0 ∧ l77087.toInt = 1) ∨ (0 < z77090.toInt ∧ 1 < l77087.toInt) := cmp_or h77091
    have h77093 := cmp_rg h77091
    refine b_if_lt C 69 dX12_readOdds_24 (by decide) (fun h77094 => ?_) (fun h77094 => ?_)
    · have h77094 : z77090.toInt < 0 := h77094
      refine g_aload_n C dX12_readOdds_69 rfl 0 rfl ?_
      refine g_iconst (v := 1) C dX12_readOdds_70 (by decide) ?_
      refine g_bipush (v := 20) C dX12_readOdds_71 (by decide) ?_
      refine g_callVI (rest := []) C mv_X12_211 [.int 1, .int 20] (s_X12_takeNumber I (by decide) (by decide) hW) (ha0).1 (ha0).2 rfl rfl (by decide) (Nat.le_of_ble_eq_true rfl) (by decide) dX12_readOdds_73 (fun r77095 Y77096 h77097 => ?_)
      obtain ⟨Iy77098, Xy77099, W77100, p77101, p77102, p77103, h77097⟩ := h77097
      have p77101 : (pI P a0 7).toInt ≤ (pI Y77096 a0 7).toInt := p77101
      have p77102 : (pI P a0 8).toInt ≤ (pI Y77096 a0 8).toInt := p77102
      have p77103 : 1 ≤ (pI Y77096 a0 8).toInt ∨ (pI Y77096 a0 7).toInt = (pI P a0 7).toInt + 1 := p77103
      have Xz77104 : EM [7, 8, 12] a0 P Y77096 := Xy77099.mono (by decide)
      have h77105 := Xy77099.at ha0
      have h77106 := Iy77098.rg h77105 7 rfl
      have h77107 := Iy77098.rg h77105 8 rfl
      have h77108 := Iy77098.rg h77105 7 rfl
      have h77109 := Iy77098.rg h77105 8 rfl
      obtain ⟨h77097, hi77110⟩ := h77097
      have hi77110 : (1 ≤ (pI Y77096 a0 8).toInt ∧ r77095.toInt = 0) ∨ (1 ≤ r77095.toInt ∧ r77095.toInt ≤ 20) := hi77110
      have h77097 : 0 ≤ r77095.toInt ∧ r77095.toInt ≤ 999 := h77097
      refine g_istore_n (lv' := [(1, .int r77095), (0, .ref a0)]) C dX12_readOdds_76 rfl (by decide) rfl ?_
      refine g_aload_n C dX12_readOdds_77 rfl 1 rfl ?_
      refine g_iconst (v := 0) C dX12_readOdds_78 (by decide) ?_
      refine g_sipush (v := 999) C dX12_readOdds_79 (by decide) ?_
      refine g_callVI (rest := []) C mv_X12_211 [.int 0, .int 999] (s_X12_takeNumber Iy77098 (by decide) (by decide) W77100) (h77105).1 (h77105).2 rfl rfl (by decide) (Nat.le_of_ble_eq_true rfl) (by decide) dX12_readOdds_82 (fun r77111 Y77112 h77113 => ?_)
      obtain ⟨Iy77114, Xy77115, W77116, p77117, p77118, p77119, h77113⟩ := h77113
      have p77117 : (pI Y77096 a0 7).toInt ≤ (pI Y77112 a0 7).toInt := p77117
      have p77118 : (pI Y77096 a0 8).toInt ≤ (pI Y77112 a0 8).toInt := p77118
      have p77119 : 1 ≤ (pI Y77112 a0 8).toInt ∨ (pI Y77112 a0 7).toInt = (pI Y77096 a0 7).toInt + 1 := p77119
      have Xz77120 : EM [7, 8, 12] a0 P Y77112 := EM.tr ha0 Xz77104 (Xy77115.mono (by decide))
      have h77121 := Xy77115.at h77105
      have h77122 := Iy77114.rg h77121 7 rfl
      have h77123 := Iy77114.rg h77121 8 rfl
      have h77124 := Iy77114.rg h77121 7 rfl
      have h77125 := Iy77114.rg h77121 8 rfl
      obtain ⟨h77113, hi77126⟩ := h77113
      have hi77126 : (1 ≤ (pI Y77112 a0 8).toInt ∧ r77111.toInt = 0) ∨ (0 ≤ r77111.toInt ∧ r77111.toInt ≤ 999) := hi77126
      have h77113 : 0 ≤ r77111.toInt ∧ r77111.toInt ≤ 999 := h77113
      refine g_istore_n (lv' := [(2, .int r77111), (1, .int r77095), (0, .ref a0)]) C dX12_readOdds_85 rfl (by decide) rfl ?_
      refine g_aload_n C dX12_readOdds_86 rfl 2 rfl ?_
      refine g_getI C fi_X12_162 (by decide) (h77121).1 (h77121).2 dX12_readOdds_87 ?_
      refine b_if_ne C 103 dX12_readOdds_90 (by decide) (fun h77127 => ?_) (fun h77127 => ?_)
      · have h77127 : (pI Y77112 a0 8).toInt ≠ 0 := ti_ne h77127
        exact ret _ _ _ _ _ dX12_readOdds_103 (by decide) (by decide) ⟨Iy77114, Xz77120, W77116, (by show (pI P a0 7).toInt ≤ (pI Y77112 a0 7).toInt; omega), (by show (pI P a0 8).toInt ≤ (pI Y77112 a0 8).toInt; omega)⟩
      · have h77127 : (pI Y77112 a0 8).toInt = 0 := congrArg Int32.toInt h77127
        refine g_aload_n C dX12_readOdds_93 rfl 2 rfl ?_
        obtain ⟨b77128, e77129, h77130⟩ := Iy77114.fld (h77121) 12 13 63 rfl
        refine g_getR C fi_X12_51 rfl e77129 (h77121).1 (h77121).2 dX12_readOdds_94 ?_
        refine g_bipush (v := 42) C dX12_readOdds_97 (by decide) ?_
        refine g_iload_n C dX12_readOdds_99 rfl 1 rfl ?_
        refine s_iadd C dX12_readOdds_100 (by show -2147483648 ≤ 42 + r77095.toInt ∧ 42 + r77095.toInt ≤ 2147483647; omega) (fun z77131 h77132 => ?_)
        have h77132 : z77131.toInt = 42 + r77095.toInt := h77132
        refine g_iload_n C dX12_readOdds_101 rfl 0 rfl ?_
        refine g_iast (j := (z77131.toInt.toNat)) C h77130.1 h77130.2.1 (ix_in h77130.2.2 (by omega)) dX12_readOdds_102 ?_
        refine gqW (ks := [12]) (Iy77114.setA e77129 h77130 (by decide) (arOk.of rfl (by omega))) (EM.setA Iy77114 e77129 rfl (by decide)) (fun Y77133 Iy77134 Xy77135 w77136  => ?_)
        have w77136 : (pI Y77133 b77128 (z77131.toInt.toNat)).toInt = r77111.toInt := w77136
        have q77137 := Xy77135.keepF 7 (by decide)
        have q77138 := Xy77135.keepF 8 (by decide)
        have W77139 := W77116.keep Iy77114 Xy77135 (by decide) (by decide) (by decide) (by decide)
        have Xz77140 : EM [7, 8, 12] a0 P Y77133 := EM.tr ha0 Xz77120 (Xy77135.mono (by decide))
        have e77141 := Xy77135.ref h77121 (by decide) e77129
        have h77142 := Xy77135.at h77121
        have h77143 := Xy77135.ar h77130
        exact ret _ _ _ _ _ dX12_readOdds_103 (by decide) (by decide) ⟨Iy77134, Xz77140, W77139, (by show (pI P a0 7).toInt ≤ (pI Y77133 a0 7).toInt; omega), (by show (pI P a0 8).toInt ≤ (pI Y77133 a0 8).toInt; omega)⟩
    · have h77094 : 0 ≤ z77090.toInt := h77094
      refine g_aload_n C dX12_readOdds_27 rfl 0 rfl ?_
      refine g_getR C fi_X12_30 rfl e77085 (ha0).1 (ha0).2 dX12_readOdds_28 ?_
      refine g_aload_n C dX12_readOdds_31 rfl 0 rfl ?_
      refine g_getI C fi_X12_159 (by decide) (ha0).1 (ha0).2 dX12_readOdds_32 ?_
      refine g_lald (j := ((pI P a0 7).toInt.toNat)) C h77086.1 h77086.2.1 (ix_in h77086.2.2 (by omega)) dX12_readOdds_35 ?_
      refine g_topl (fun l77144 h77145 => ?_)
      have hl77146 : l77144.toInt = (pJ P b77084 ((pI P a0 7).toInt.toNat)).toInt := congrArg Int64.toInt h77145
      refine g_ldc2 (v := 20) C kl_X12_221 dX12_readOdds_36 ?_
      refine g_topl (fun l77147 el77147 => ?_)
      have hz_l77147 : ¬ l77147 = 0 := by rw [el77147]; decide
      refine g_lcmp C dX12_readOdds_39 ?_
      refine g_topi (fun z77148 h77149 => ?_)
      have hl77150 : l77147.toInt = 20 := congrArg Int64.toInt el77147
      have hc77151 := cmp_or h77149
      have h77152 := cmp_rg h77149
      refine b_if_gt C 69 dX12_readOdds_40 (by decide) (fun h77153 => ?_) (fun h77153 => ?_)
      · have h77153 : 0 < z77148.toInt := h77153
        refine g_aload_n C dX12_readOdds_69 rfl 0 rfl ?_
        refine g_iconst (v := 1) C dX12_readOdds_70 (by decide) ?_
        refine g_bipush (v := 20) C dX12_readOdds_71 (by decide) ?_
        refine g_callVI (rest := []) C mv_X12_211 [.int 1, .int 20] (s_X12_takeNumber I (by decide) (by decide) hW) (ha0).1 (ha0).2 rfl rfl (by decide) (Nat.le_of_ble_eq_true rfl) (by decide) dX12_readOdds_73 (fun r77154 Y77155 h77156 => ?_)
        obtain ⟨Iy77157, Xy77158, W77159, p77160, p77161, p77162, h77156⟩ := h77156
        have p77160 : (pI P a0 7).toInt ≤ (pI Y77155 a0 7).toInt := p77160
        have p77161 : (pI P a0 8).toInt ≤ (pI Y77155 a0 8).toInt := p77161
        have p77162 : 1 ≤ (pI Y77155 a0 8).toInt ∨ (pI Y77155 a0 7).toInt = (pI P a0 7).toInt + 1 := p77162
        have Xz77163 : EM [7, 8, 12] a0 P Y77155 := Xy77158.mono (by decide)
        have h77164 := Xy77158.at ha0
        have h77165 := Iy77157.rg h77164 7 rfl
        have h77166 := Iy77157.rg h77164 8 rfl
        have h77167 := Iy77157.rg h77164 7 rfl
        have h77168 := Iy77157.rg h77164 8 rfl
        obtain ⟨h77156, hi77169⟩ := h77156
        have hi77169 : (1 ≤ (pI Y77155 a0 8).toInt ∧ r77154.toInt = 0) ∨ (1 ≤ r77154.toInt ∧ r77154.toInt ≤ 20) := hi77169
        have h77156 : 0 ≤ r77154.toInt ∧ r77154.toInt ≤ 999 := h77156
        refine g_istore_n (lv' := [(1, .int r77154), (0, .ref a0)]) C dX12_readOdds_76 rfl (by decide) rfl ?_
        refine g_aload_n C dX12_readOdds_77 rfl 1 rfl ?_
        refine g_iconst (v := 0) C dX12_readOdds_78 (by decide) ?_
        refine g_sipush (v := 999) C dX12_readOdds_79 (by decide) ?_
        refine g_callVI (rest := []) C mv_X12_211 [.int 0, .int 999] (s_X12_takeNumber Iy77157 (by decide) (by decide) W77159) (h77164).1 (h77164).2 rfl rfl (by decide) (Nat.le_of_ble_eq_true rfl) (by decide) dX12_readOdds_82 (fun r77170 Y77171 h77172 => ?_)
        obtain ⟨Iy77173, Xy77174, W77175, p77176, p77177, p77178, h77172⟩ := h77172
        have p77176 : (pI Y77155 a0 7).toInt ≤ (pI Y77171 a0 7).toInt := p77176
        have p77177 : (pI Y77155 a0 8).toInt ≤ (pI Y77171 a0 8).toInt := p77177
        have p77178 : 1 ≤ (pI Y77171 a0 8).toInt ∨ (pI Y77171 a0 7).toInt = (pI Y77155 a0 7).toInt + 1 := p77178
        have Xz77179 : EM [7, 8, 12] a0 P Y77171 := EM.tr ha0 Xz77163 (Xy77174.mono (by decide))
        have h77180 := Xy77174.at h77164
        have h77181 := Iy77173.rg h77180 7 rfl
        have h77182 := Iy77173.rg h77180 8 rfl
        have h77183 := Iy77173.rg h77180 7 rfl
        have h77184 := Iy77173.rg h77180 8 rfl
        obtain ⟨h77172, hi77185⟩ := h77172
        have hi77185 : (1 ≤ (pI Y77171 a0 8).toInt ∧ r77170.toInt = 0) ∨ (0 ≤ r77170.toInt ∧ r77170.toInt ≤ 999) := hi77185
        have h77172 : 0 ≤ r77170.toInt ∧ r77170.toInt ≤ 999 := h77172
        refine g_istore_n (lv' := [(2, .int r77170), (1, .int r77154), (0, .ref a0)]) C dX12_readOdds_85 rfl (by decide) rfl ?_
        refine g_aload_n C dX12_readOdds_86 rfl 2 rfl ?_
        refine g_getI C fi_X12_162 (by decide) (h77180).1 (h77180).2 dX12_readOdds_87 ?_
        refine b_if_ne C 103 dX12_readOdds_90 (by decide) (fun h77186 => ?_) (fun h77186 => ?_)
        · have h77186 : (pI Y77171 a0 8).toInt ≠ 0 := ti_ne h77186
          exact ret _ _ _ _ _ dX12_readOdds_103 (by decide) (by decide) ⟨Iy77173, Xz77179, W77175, (by show (pI P a0 7).toInt ≤ (pI Y77171 a0 7).toInt; omega), (by show (pI P a0 8).toInt ≤ (pI Y77171 a0 8).toInt; omega)⟩
        · have h77186 : (pI Y77171 a0 8).toInt = 0 := congrArg Int32.toInt h77186
          refine g_aload_n C dX12_readOdds_93 rfl 2 rfl ?_
          obtain ⟨b77187, e77188, h77189⟩ := Iy77173.fld (h77180) 12 13 63 rfl
          refine g_getR C fi_X12_51 rfl e77188 (h77180).1 (h77180).2 dX12_readOdds_94 ?_
          refine g_bipush (v := 42) C dX12_readOdds_97 (by decide) ?_
          refine g_iload_n C dX12_readOdds_99 rfl 1 rfl ?_
          refine s_iadd C dX12_readOdds_100 (by show -2147483648 ≤ 42 + r77154.toInt ∧ 42 + r77154.toInt ≤ 2147483647; omega) (fun z77190 h77191 => ?_)
          have h77191 : z77190.toInt = 42 + r77154.toInt := h77191
          refine g_iload_n C dX12_readOdds_101 rfl 0 rfl ?_
          refine g_iast (j := (z77190.toInt.toNat)) C h77189.1 h77189.2.1 (ix_in h77189.2.2 (by omega)) dX12_readOdds_102 ?_
          refine gqW (ks := [12]) (Iy77173.setA e77188 h77189 (by decide) (arOk.of rfl (by omega))) (EM.setA Iy77173 e77188 rfl (by decide)) (fun Y77192 Iy77193 Xy77194 w77195  => ?_)
          have w77195 : (pI Y77192 b77187 (z77190.toInt.toNat)).toInt = r77170.toInt := w77195
          have q77196 := Xy77194.keepF 7 (by decide)
          have q77197 := Xy77194.keepF 8 (by decide)
          have W77198 := W77175.keep Iy77173 Xy77194 (by decide) (by decide) (by decide) (by decide)
          have Xz77199 : EM [7, 8, 12] a0 P Y77192 := EM.tr ha0 Xz77179 (Xy77194.mono (by decide))
          have e77200 := Xy77194.ref h77180 (by decide) e77188
          have h77201 := Xy77194.at h77180
          have h77202 := Xy77194.ar h77189
          exact ret _ _ _ _ _ dX12_readOdds_103 (by decide) (by decide) ⟨Iy77193, Xz77199, W77198, (by show (pI P a0 7).toInt ≤ (pI Y77192 a0 7).toInt; omega), (by show (pI P a0 8).toInt ≤ (pI Y77192 a0 8).toInt; omega)⟩
      · have h77153 : z77148.toInt ≤ 0 := h77153
        refine g_aload_n C dX12_readOdds_43 rfl 0 rfl ?_
        obtain ⟨b77203, e77204, h77205⟩ := I.fld (ha0) 12 13 63 rfl
        refine g_getR C fi_X12_51 rfl e77204 (ha0).1 (ha0).2 dX12_readOdds_44 ?_
        refine g_bipush (v := 42) C dX12_readOdds_47 (by decide) ?_
        refine g_aload_n C dX12_readOdds_49 rfl 0 rfl ?_
        refine g_getR C fi_X12_30 rfl e77085 (ha0).1 (ha0).2 dX12_readOdds_50 ?_
        refine g_aload_n C dX12_readOdds_53 rfl 0 rfl ?_
        refine g_getI C fi_X12_159 (by decide) (ha0).1 (ha0).2 dX12_readOdds_54 ?_
        refine g_lald (j := ((pI P a0 7).toInt.toNat)) C h77086.1 h77086.2.1 (ix_in h77086.2.2 (by omega)) dX12_readOdds_57 ?_
        refine g_topl (fun l77206 h77207 => ?_)
        have hl77208 : l77206.toInt = (pJ P b77084 ((pI P a0 7).toInt.toNat)).toInt := congrArg Int64.toInt h77207
        refine g_l2i C dX12_readOdds_58 rfl ?_
        refine g_topi (fun z77209 h77210 => ?_)
        have hl77211 := l2i_val h77210 (by omega)
        refine s_iadd C dX12_readOdds_59 (by show -2147483648 ≤ 42 + z77209.toInt ∧ 42 + z77209.toInt ≤ 2147483647; omega) (fun z77212 h77213 => ?_)
        have h77213 : z77212.toInt = 42 + z77209.toInt := h77213
        refine g_iald (j := (z77212.toInt.toNat)) C h77205.1 h77205.2.1 (ix_in h77205.2.2 (by omega)) dX12_readOdds_60 ?_
        have h77214 := I.arr e77204 rfl (z77212.toInt.toNat)
        refine b_if_lt C 69 dX12_readOdds_61 (by decide) (fun h77215 => ?_) (fun h77215 => ?_)
        · have h77215 : (pI P b77203 (z77212.toInt.toNat)).toInt < 0 := h77215
          refine g_aload_n C dX12_readOdds_69 rfl 0 rfl ?_
          refine g_iconst (v := 1) C dX12_readOdds_70 (by decide) ?_
          refine g_bipush (v := 20) C dX12_readOdds_71 (by decide) ?_
          refine g_callVI (rest := []) C mv_X12_211 [.int 1, .int 20] (s_X12_takeNumber I (by decide) (by decide) hW) (ha0).1 (ha0).2 rfl rfl (by decide) (Nat.le_of_ble_eq_true rfl) (by decide) dX12_readOdds_73 (fun r77216 Y77217 h77218 => ?_)
          obtain ⟨Iy77219, Xy77220, W77221, p77222, p77223, p77224, h77218⟩ := h77218
          have p77222 : (pI P a0 7).toInt ≤ (pI Y77217 a0 7).toInt := p77222
          have p77223 : (pI P a0 8).toInt ≤ (pI Y77217 a0 8).toInt := p77223
          have p77224 : 1 ≤ (pI Y77217 a0 8).toInt ∨ (pI Y77217 a0 7).toInt = (pI P a0 7).toInt + 1 := p77224
          have q77225 := Xy77220.keepA e77204 (by decide) rfl (z77212.toInt.toNat)
          have Xz77226 : EM [7, 8, 12] a0 P Y77217 := Xy77220.mono (by decide)
          have e77227 := Xy77220.ref ha0 (by decide) e77204
          have h77228 := Xy77220.at ha0
          have h77229 := Xy77220.ar h77205
          have h77230 := Iy77219.rg h77228 7 rfl
          have h77231 := Iy77219.rg h77228 8 rfl
          have h77232 := Iy77219.rg h77228 7 rfl
          have h77233 := Iy77219.rg h77228 8 rfl
          obtain ⟨h77218, hi77234⟩ := h77218
          have hi77234 : (1 ≤ (pI Y77217 a0 8).toInt ∧ r77216.toInt = 0) ∨ (1 ≤ r77216.toInt ∧ r77216.toInt ≤ 20) := hi77234
          have h77218 : 0 ≤ r77216.toInt ∧ r77216.toInt ≤ 999 := h77218
          refine g_istore_n (lv' := [(1, .int r77216), (0, .ref a0)]) C dX12_readOdds_76 rfl (by decide) rfl ?_
          refine g_aload_n C dX12_readOdds_77 rfl 1 rfl ?_
          refine g_iconst (v := 0) C dX12_readOdds_78 (by decide) ?_
          refine g_sipush (v := 999) C dX12_readOdds_79 (by decide) ?_
          refine g_callVI (rest := []) C mv_X12_211 [.int 0, .int 999] (s_X12_takeNumber Iy77219 (by decide) (by decide) W77221) (h77228).1 (h77228).2 rfl rfl (by decide) (Nat.le_of_ble_eq_true rfl) (by decide) dX12_readOdds_82 (fun r77235 Y77236 h77237 => ?_)
          obtain ⟨Iy77238, Xy77239, W77240, p77241, p77242, p77243, h77237⟩ := h77237
          have p77241 : (pI Y77217 a0 7).toInt ≤ (pI Y77236 a0 7).toInt := p77241
          have p77242 : (pI Y77217 a0 8).toInt ≤ (pI Y77236 a0 8).toInt := p77242
          have p77243 : 1 ≤ (pI Y77236 a0 8).toInt ∨ (pI Y77236 a0 7).toInt = (pI Y77217 a0 7).toInt + 1 := p77243
          have q77244 := Xy77239.keepA e77227 (by decide) rfl (z77212.toInt.toNat)
          have Xz77245 : EM [7, 8, 12] a0 P Y77236 := EM.tr ha0 Xz77226 (Xy77239.mono (by decide))
          have e77246 := Xy77239.ref h77228 (by decide) e77227
          have h77247 := Xy77239.at h77228
          have h77248 := Xy77239.ar h77229
          have h77249 := Iy77238.rg h77247 7 rfl
          have h77250 := Iy77238.rg h77247 8 rfl
          have h77251 := Iy77238.rg h77247 7 rfl
          have h77252 := Iy77238.rg h77247 8 rfl
          obtain ⟨h77237, hi77253⟩ := h77237
          have hi77253 : (1 ≤ (pI Y77236 a0 8).toInt ∧ r77235.toInt = 0) ∨ (0 ≤ r77235.toInt ∧ r77235.toInt ≤ 999) := hi77253
          have h77237 : 0 ≤ r77235.toInt ∧ r77235.toInt ≤ 999 := h77237
          refine g_istore_n (lv' := [(2, .int r77235), (1, .int r77216), (0, .ref a0)]) C dX12_readOdds_85 rfl (by decide) rfl ?_
          refine g_aload_n C dX12_readOdds_86 rfl 2 rfl ?_
          refine g_getI C fi_X12_162 (by decide) (h77247).1 (h77247).2 dX12_readOdds_87 ?_
          refine b_if_ne C 103 dX12_readOdds_90 (by decide) (fun h77254 => ?_) (fun h77254 => ?_)
          · have h77254 : (pI Y77236 a0 8).toInt ≠ 0 := ti_ne h77254
            exact ret _ _ _ _ _ dX12_readOdds_103 (by decide) (by decide) ⟨Iy77238, Xz77245, W77240, (by show (pI P a0 7).toInt ≤ (pI Y77236 a0 7).toInt; omega), (by show (pI P a0 8).toInt ≤ (pI Y77236 a0 8).toInt; omega)⟩
          · have h77254 : (pI Y77236 a0 8).toInt = 0 := congrArg Int32.toInt h77254
            refine g_aload_n C dX12_readOdds_93 rfl 2 rfl ?_
            refine g_getR C fi_X12_51 rfl e77246 (h77247).1 (h77247).2 dX12_readOdds_94 ?_
            refine g_bipush (v := 42) C dX12_readOdds_97 (by decide) ?_
            refine g_iload_n C dX12_readOdds_99 rfl 1 rfl ?_
            refine s_iadd C dX12_readOdds_100 (by show -2147483648 ≤ 42 + r77216.toInt ∧ 42 + r77216.toInt ≤ 2147483647; omega) (fun z77255 h77256 => ?_)
            have h77256 : z77255.toInt = 42 + r77216.toInt := h77256
            refine g_iload_n C dX12_readOdds_101 rfl 0 rfl ?_
            refine g_iast (j := (z77255.toInt.toNat)) C h77248.1 h77248.2.1 (ix_in h77248.2.2 (by omega)) dX12_readOdds_102 ?_
            refine gqW (ks := [12]) (Iy77238.setA e77246 h77248 (by decide) (arOk.of rfl (by omega))) (EM.setA Iy77238 e77246 rfl (by decide)) (fun Y77257 Iy77258 Xy77259 w77260  => ?_)
            have w77260 : (pI Y77257 b77203 (z77255.toInt.toNat)).toInt = r77235.toInt := w77260
            have q77261 := Xy77259.keepF 7 (by decide)
            have q77262 := Xy77259.keepF 8 (by decide)
            have W77263 := W77240.keep Iy77238 Xy77259 (by decide) (by decide) (by decide) (by decide)
            have Xz77264 : EM [7, 8, 12] a0 P Y77257 := EM.tr ha0 Xz77245 (Xy77259.mono (by decide))
            have e77265 := Xy77259.ref h77247 (by decide) e77246
            have h77266 := Xy77259.at h77247
            have h77267 := Xy77259.ar h77248
            exact ret _ _ _ _ _ dX12_readOdds_103 (by decide) (by decide) ⟨Iy77258, Xz77264, W77263, (by show (pI P a0 7).toInt ≤ (pI Y77257 a0 7).toInt; omega), (by show (pI P a0 8).toInt ≤ (pI Y77257 a0 8).toInt; omega)⟩
        · have h77215 : 0 ≤ (pI P b77203 (z77212.toInt.toNat)).toInt := h77215
          refine g_aload_n C dX12_readOdds_64 rfl 0 rfl ?_
          refine g_iconst (v := 3) C dX12_readOdds_65 (by decide) ?_
          refine g_callVV (rest := []) C mv_X12_168 [.int 3] (s_X12_wrong I (by decide) hW) (ha0).1 (ha0).2 rfl rfl (by decide) (Nat.le_of_ble_eq_true rfl) (by decide) dX12_readOdds_66 (fun Y77269 h77270 => ?_)
          obtain ⟨Iy77271, Xy77272, W77273, p77274, p77275⟩ := h77270
          have p77274 : 1 ≤ (pI Y77269 a0 8).toInt := p77274
          have p77275 : (pI P a0 8).toInt ≤ (pI Y77269 a0 8).toInt := p77275
          have q77276 := Xy77272.keepF 7 (by decide)
          have q77277 := Xy77272.keepA e77204 (by decide) rfl (z77212.toInt.toNat)
          have Xz77278 : EM [7, 8, 12] a0 P Y77269 := Xy77272.mono (by decide)
          have e77279 := Xy77272.ref ha0 (by decide) e77204
          have h77280 := Xy77272.at ha0
          have h77281 := Xy77272.ar h77205
          have h77282 := Iy77271.rg h77280 8 rfl
          refine g_aload_n C dX12_readOdds_69 rfl 0 rfl ?_
          refine g_iconst (v := 1) C dX12_readOdds_70 (by decide) ?_
          refine g_bipush (v := 20) C dX12_readOdds_71 (by decide) ?_
          refine g_callVI (rest := []) C mv_X12_211 [.int 1, .int 20] (s_X12_takeNumber Iy77271 (by decide) (by decide) W77273) (h77280).1 (h77280).2 rfl rfl (by decide) (Nat.le_of_ble_eq_true rfl) (by decide) dX12_readOdds_73 (fun r77283 Y77284 h77285 => ?_)
          obtain ⟨Iy77286, Xy77287, W77288, p77289, p77290, p77291, h77285⟩ := h77285
          have p77289 : (pI Y77269 a0 7).toInt ≤ (pI Y77284 a0 7).toInt := p77289
          have p77290 : (pI Y77269 a0 8).toInt ≤ (pI Y77284 a0 8).toInt := p77290
          have p77291 : 1 ≤ (pI Y77284 a0 8).toInt ∨ (pI Y77284 a0 7).toInt = (pI Y77269 a0 7).toInt + 1 := p77291
          have q77292 := Xy77287.keepA e77279 (by decide) rfl (z77212.toInt.toNat)
          have Xz77293 : EM [7, 8, 12] a0 P Y77284 := EM.tr ha0 Xz77278 (Xy77287.mono (by decide))
          have e77294 := Xy77287.ref h77280 (by decide) e77279
          have h77295 := Xy77287.at h77280
          have h77296 := Xy77287.ar h77281
          have h77297 := Iy77286.rg h77295 7 rfl
          have h77298 := Iy77286.rg h77295 8 rfl
          have h77299 := Iy77286.rg h77295 7 rfl
          have h77300 := Iy77286.rg h77295 8 rfl
          obtain ⟨h77285, hi77301⟩ := h77285
          have hi77301 : (1 ≤ (pI Y77284 a0 8).toInt ∧ r77283.toInt = 0) ∨ (1 ≤ r77283.toInt ∧ r77283.toInt ≤ 20) := hi77301
          have h77285 : 0 ≤ r77283.toInt ∧ r77283.toInt ≤ 999 := h77285
          refine g_istore_n (lv' := [(1, .int r77283), (0, .ref a0)]) C dX12_readOdds_76 rfl (by decide) rfl ?_
          refine g_aload_n C dX12_readOdds_77 rfl 1 rfl ?_
          refine g_iconst (v := 0) C dX12_readOdds_78 (by decide) ?_
          refine g_sipush (v := 999) C dX12_readOdds_79 (by decide) ?_
          refine g_callVI (rest := []) C mv_X12_211 [.int 0, .int 999] (s_X12_takeNumber Iy77286 (by decide) (by decide) W77288) (h77295).1 (h77295).2 rfl rfl (by decide) (Nat.le_of_ble_eq_true rfl) (by decide) dX12_readOdds_82 (fun r77302 Y77303 h77304 => ?_)
          obtain ⟨Iy77305, Xy77306, W77307, p77308, p77309, p77310, h77304⟩ := h77304
          have p77308 : (pI Y77284 a0 7).toInt ≤ (pI Y77303 a0 7).toInt := p77308
          have p77309 : (pI Y77284 a0 8).toInt ≤ (pI Y77303 a0 8).toInt := p77309
          have p77310 : 1 ≤ (pI Y77303 a0 8).toInt ∨ (pI Y77303 a0 7).toInt = (pI Y77284 a0 7).toInt + 1 := p77310
          have q77311 := Xy77306.keepA e77294 (by decide) rfl (z77212.toInt.toNat)
          have Xz77312 : EM [7, 8, 12] a0 P Y77303 := EM.tr ha0 Xz77293 (Xy77306.mono (by decide))
          have e77313 := Xy77306.ref h77295 (by decide) e77294
          have h77314 := Xy77306.at h77295
          have h77315 := Xy77306.ar h77296
          have h77316 := Iy77305.rg h77314 7 rfl
          have h77317 := Iy77305.rg h77314 8 rfl
          have h77318 := Iy77305.rg h77314 7 rfl
          have h77319 := Iy77305.rg h77314 8 rfl
          obtain ⟨h77304, hi77320⟩ := h77304
          have hi77320 : (1 ≤ (pI Y77303 a0 8).toInt ∧ r77302.toInt = 0) ∨ (0 ≤ r77302.toInt ∧ r77302.toInt ≤ 999) := hi77320
          have h77304 : 0 ≤ r77302.toInt ∧ r77302.toInt ≤ 999 := h77304
          refine g_istore_n (lv' := [(2, .int r77302), (1, .int r77283), (0, .ref a0)]) C dX12_readOdds_85 rfl (by decide) rfl ?_
          refine g_aload_n C dX12_readOdds_86 rfl 2 rfl ?_
          refine g_getI C fi_X12_162 (by decide) (h77314).1 (h77314).2 dX12_readOdds_87 ?_
          refine b_if_ne C 103 dX12_readOdds_90 (by decide) (fun h77321 => ?_) (fun h77321 => ?_)
          · have h77321 : (pI Y77303 a0 8).toInt ≠ 0 := ti_ne h77321
            exact ret _ _ _ _ _ dX12_readOdds_103 (by decide) (by decide) ⟨Iy77305, Xz77312, W77307, (by show (pI P a0 7).toInt ≤ (pI Y77303 a0 7).toInt; omega), (by show (pI P a0 8).toInt ≤ (pI Y77303 a0 8).toInt; omega)⟩
          · have h77321 : (pI Y77303 a0 8).toInt = 0 := congrArg Int32.toInt h77321
            refine g_aload_n C dX12_readOdds_93 rfl 2 rfl ?_
            refine g_getR C fi_X12_51 rfl e77313 (h77314).1 (h77314).2 dX12_readOdds_94 ?_
            refine g_bipush (v := 42) C dX12_readOdds_97 (by decide) ?_
            refine g_iload_n C dX12_readOdds_99 rfl 1 rfl ?_
            refine s_iadd C dX12_readOdds_100 (by show -2147483648 ≤ 42 + r77283.toInt ∧ 42 + r77283.toInt ≤ 2147483647; omega) (fun z77322 h77323 => ?_)
            have h77323 : z77322.toInt = 42 + r77283.toInt := h77323
            refine g_iload_n C dX12_readOdds_101 rfl 0 rfl ?_
            refine g_iast (j := (z77322.toInt.toNat)) C h77315.1 h77315.2.1 (ix_in h77315.2.2 (by omega)) dX12_readOdds_102 ?_
            refine gqW (ks := [12]) (Iy77305.setA e77313 h77315 (by decide) (arOk.of rfl (by omega))) (EM.setA Iy77305 e77313 rfl (by decide)) (fun Y77324 Iy77325 Xy77326 w77327  => ?_)
            have w77327 : (pI Y77324 b77203 (z77322.toInt.toNat)).toInt = r77302.toInt := w77327
            have q77328 := Xy77326.keepF 7 (by decide)
            have q77329 := Xy77326.keepF 8 (by decide)
            have W77330 := W77307.keep Iy77305 Xy77326 (by decide) (by decide) (by decide) (by decide)
            have Xz77331 : EM [7, 8, 12] a0 P Y77324 := EM.tr ha0 Xz77312 (Xy77326.mono (by decide))
            have e77332 := Xy77326.ref h77314 (by decide) e77313
            have h77333 := Xy77326.at h77314
            have h77334 := Xy77326.ar h77315
            exact ret _ _ _ _ _ dX12_readOdds_103 (by decide) (by decide) ⟨Iy77325, Xz77331, W77330, (by show (pI P a0 7).toInt ≤ (pI Y77324 a0 7).toInt; omega), (by show (pI P a0 8).toInt ≤ (pI Y77324 a0 8).toInt; omega)⟩
theorem dX12_readLine_122 : decode cX12_readLine 122 = .ok (.return_, 1) := by decide +kernel
theorem dX12_readLine_135 : decode cX12_readLine 135 = .ok (.goto 79, 3) := by decide +kernel
theorem dX12_readLine_214 : decode cX12_readLine 214 = .ok (.aload_n 0, 1) := by decide +kernel
theorem dX12_readLine_215 : decode cX12_readLine 215 = .ok (.bipush 59, 2) := by decide +kernel
theorem dX12_readLine_217 : decode cX12_readLine 217 = .ok (.invokevirtual 218, 3) := by decide +kernel
theorem dX12_takeSign_0 : decode cX12_takeSign 0 = .ok (.aload_n 0, 1) := by decide +kernel
theorem dX12_takeSign_1 : decode cX12_takeSign 1 = .ok (.iload_n 1, 1) := by decide +kernel
theorem dX12_takeSign_2 : decode cX12_takeSign 2 = .ok (.invokevirtual 165, 3) := by decide +kernel
theorem dX12_isSign_0 : decode cX12_isSign 0 = .ok (.aload_n 0, 1) := by decide +kernel
theorem dX12_isSign_1 : decode cX12_isSign 1 = .ok (.getfield 162, 3) := by decide +kernel
theorem dX12_isSign_4 : decode cX12_isSign 4 = .ok (.ifCond .ne 35, 3) := by decide +kernel
theorem dX12_isSign_7 : decode cX12_isSign 7 = .ok (.aload_n 0, 1) := by decide +kernel
theorem dX12_isSign_8 : decode cX12_isSign 8 = .ok (.getfield 24, 3) := by decide +kernel
theorem dX12_isSign_11 : decode cX12_isSign 11 = .ok (.aload_n 0, 1) := by decide +kernel
theorem dX12_isSign_12 : decode cX12_isSign 12 = .ok (.getfield 159, 3) := by decide +kernel
theorem dX12_isSign_15 : decode cX12_isSign 15 = .ok (.iaload, 1) := by decide +kernel
theorem dX12_isSign_16 : decode cX12_isSign 16 = .ok (.iconst 3, 1) := by decide +kernel
theorem dX12_isSign_17 : decode cX12_isSign 17 = .ok (.if_icmp .ne 22, 3) := by decide +kernel
theorem dX12_isSign_20 : decode cX12_isSign 20 = .ok (.aload_n 0, 1) := by decide +kernel
theorem dX12_isSign_21 : decode cX12_isSign 21 = .ok (.getfield 30, 3) := by decide +kernel
theorem dX12_isSign_24 : decode cX12_isSign 24 = .ok (.aload_n 0, 1) := by decide +kernel
theorem dX12_isSign_25 : decode cX12_isSign 25 = .ok (.getfield 159, 3) := by decide +kernel
theorem dX12_isSign_28 : decode cX12_isSign 28 = .ok (.laload, 1) := by decide +kernel
theorem dX12_isSign_29 : decode cX12_isSign 29 = .ok (.iload_n 1, 1) := by decide +kernel
theorem dX12_isSign_30 : decode cX12_isSign 30 = .ok (.i2l, 1) := by decide +kernel
theorem dX12_isSign_31 : decode cX12_isSign 31 = .ok (.lcmp, 1) := by decide +kernel
theorem dX12_isSign_32 : decode cX12_isSign 32 = .ok (.ifCond .ne 7, 3) := by decide +kernel
theorem dX12_isSign_35 : decode cX12_isSign 35 = .ok (.iconst 1, 1) := by decide +kernel
theorem dX12_isSign_36 : decode cX12_isSign 36 = .ok (.goto 4, 3) := by decide +kernel
theorem dX12_isSign_39 : decode cX12_isSign 39 = .ok (.iconst 0, 1) := by decide +kernel
theorem dX12_isSign_40 : decode cX12_isSign 40 = .ok (.ireturn, 1) := by decide +kernel
set_option maxHeartbeats 4000000 in
set_option maxRecDepth 100000 in
theorem s_X12_isSign {P : PP} {a0 : Nat} {a1 : Int32} (I : IM P a0) (hW : MW P a0) : CtrI yX12_isSign cX12_isSign 2 (some Jvm.ClassFile.FieldType.boolean) ({ frames := 1, cells := 0, slots := 0, locals := 64 } : Room) 0 0 P [.ref a0, .int a1] (fun r P2 => P = P2 ∧ (0 ≤ r.toInt ∧ r.toInt ≤ 1) ∧ (r.toInt = 0 ∨ ((pI P2 a0 8).toInt = 0 ∧ (pI P2 a0 7).toInt ≤ 999))) := by
  refine enI (lv := [(0, .ref a0), (1, .int a1)]) (by decide) (Nat.le_of_ble_eq_true rfl) rfl (fun E D cy C Ci0 ret => ?_)
  have ha0 := I.2.1
  have h77882 := I.rg ha0 7 rfl
  have h77883 := I.rg ha0 8 rfl
  refine g_aload_n C dX12_isSign_0 rfl 0 rfl ?_
  refine g_getI C fi_X12_162 (by decide) (ha0).1 (ha0).2 dX12_isSign_1 ?_
  refine b_if_ne C 39 dX12_isSign_4 (by decide) (fun h77884 => ?_) (fun h77884 => ?_)
  · have h77884 : (pI P a0 8).toInt ≠ 0 := ti_ne h77884
    refine g_iconst (v := 0) C dX12_isSign_39 (by decide) ?_
    exact ret _ _ _ _ _ _ dX12_isSign_40 rfl (by decide) (by decide) ⟨rfl, (by decide), Or.inl rfl⟩
  · have h77884 : (pI P a0 8).toInt = 0 := congrArg Int32.toInt h77884
    refine g_aload_n C dX12_isSign_7 rfl 0 rfl ?_
    obtain ⟨b77885, e77886, h77887⟩ := I.fld (ha0) 4 13 1002 rfl
    refine g_getR C fi_X12_24 rfl e77886 (ha0).1 (ha0).2 dX12_isSign_8 ?_
    refine g_aload_n C dX12_isSign_11 rfl 0 rfl ?_
    refine g_getI C fi_X12_159 (by decide) (ha0).1 (ha0).2 dX12_isSign_12 ?_
    refine g_iald (j := ((pI P a0 7).toInt.toNat)) C h77887.1 h77887.2.1 (ix_in h77887.2.2 (by omega)) dX12_isSign_15 ?_
    have h77888 := I.arr e77886 rfl ((pI P a0 7).toInt.toNat)
    refine g_iconst (v := 3) C dX12_isSign_16 (by decide) ?_
    have hs77889 := I.s1000 e77886 (j := (pI P a0 7).toInt) (by omega)
    refine b_icmp_ne C 39 dX12_isSign_17 (by decide) (fun h77890 => ?_) (fun h77890 => ?_)
    · have h77890 : (pI P b77885 ((pI P a0 7).toInt.toNat)).toInt ≠ 3 := ti_ne h77890
      refine g_iconst (v := 0) C dX12_isSign_39 (by decide) ?_
      exact ret _ _ _ _ _ _ dX12_isSign_40 rfl (by decide) (by decide) ⟨rfl, (by decide), Or.inl rfl⟩
    · have h77890 : (pI P b77885 ((pI P a0 7).toInt.toNat)).toInt = 3 := congrArg Int32.toInt h77890
      refine g_aload_n C dX12_isSign_20 rfl 0 rfl ?_
      obtain ⟨b77891, e77892, h77893⟩ := I.fld (ha0) 6 14 1002 rfl
      refine g_getR C fi_X12_30 rfl e77892 (ha0).1 (ha0).2 dX12_isSign_21 ?_
      refine g_aload_n C dX12_isSign_24 rfl 0 rfl ?_
      refine g_getI C fi_X12_159 (by decide) (ha0).1 (ha0).2 dX12_isSign_25 ?_
      refine g_lald (j := ((pI P a0 7).toInt.toNat)) C h77893.1 h77893.2.1 (ix_in h77893.2.2 (by omega)) dX12_isSign_28 ?_
      refine g_topl (fun l77894 _ => ?_)
      refine g_iload_n C dX12_isSign_29 rfl 1 rfl ?_
      refine a_i2l C dX12_isSign_30 (fun l77895 => ?_)
      refine a_lcmp C dX12_isSign_31 (fun z77896 => ?_)
      have u77898 := ti_rng z77896
      refine b_if_ne C 39 dX12_isSign_32 (by decide) (fun h77897 => ?_) (fun h77897 => ?_)
      · have h77897 : z77896.toInt ≠ 0 := ti_ne h77897
        refine g_iconst (v := 0) C dX12_isSign_39 (by decide) ?_
        exact ret _ _ _ _ _ _ dX12_isSign_40 rfl (by decide) (by decide) ⟨rfl, (by decide), Or.inl rfl⟩
      · have h77897 : z77896.toInt = 0 := congrArg Int32.toInt h77897
        refine g_iconst (v := 1) C dX12_isSign_35 (by decide) ?_
        refine g_goto C 40 dX12_isSign_36 (by decide) ?_
        exact ret _ _ _ _ _ _ dX12_isSign_40 rfl (by decide) (by decide) ⟨rfl, (by decide), Or.inr ⟨by omega, by omega⟩⟩
theorem dX12_takeSign_5 : decode cX12_takeSign 5 = .ok (.ifCond .eq 16, 3) := by decide +kernel
theorem dX12_takeSign_8 : decode cX12_takeSign 8 = .ok (.aload_n 0, 1) := by decide +kernel
theorem dX12_takeSign_9 : decode cX12_takeSign 9 = .ok (.dup, 1) := by decide +kernel
theorem dX12_takeSign_10 : decode cX12_takeSign 10 = .ok (.getfield 159, 3) := by decide +kernel
theorem dX12_takeSign_13 : decode cX12_takeSign 13 = .ok (.iconst 1, 1) := by decide +kernel
theorem dX12_takeSign_14 : decode cX12_takeSign 14 = .ok (.iadd, 1) := by decide +kernel
theorem dX12_takeSign_15 : decode cX12_takeSign 15 = .ok (.putfield 159, 3) := by decide +kernel
theorem dX12_takeSign_18 : decode cX12_takeSign 18 = .ok (.goto 8, 3) := by decide +kernel
theorem dX12_takeSign_21 : decode cX12_takeSign 21 = .ok (.aload_n 0, 1) := by decide +kernel
theorem dX12_takeSign_22 : decode cX12_takeSign 22 = .ok (.iconst 1, 1) := by decide +kernel
theorem dX12_takeSign_23 : decode cX12_takeSign 23 = .ok (.invokevirtual 168, 3) := by decide +kernel
theorem dX12_takeSign_26 : decode cX12_takeSign 26 = .ok (.return_, 1) := by decide +kernel
set_option maxHeartbeats 4000000 in
set_option maxRecDepth 100000 in
theorem s_X12_takeSign {P : PP} {a0 : Nat} {a1 : Int32} (I : IM P a0) (hW : MW P a0) : CtrV yX12_takeSign cX12_takeSign 2 none ({ frames := 2, cells := 0, slots := 0, locals := 128 } : Room) 0 0 P [.ref a0, .int a1] (fun P2 => IM P2 a0 ∧ EM [7, 8] a0 P P2 ∧ MW P2 a0 ∧ ((pI P a0 7).toInt ≤ (pI P2 a0 7).toInt) ∧ ((pI P a0 8).toInt ≤ (pI P2 a0 8).toInt)) := by
  refine enV (lv := [(0, .ref a0), (1, .int a1)]) (by decide) (Nat.le_of_ble_eq_true rfl) rfl (fun E D cy C Ci0 ret => ?_)
  have ha0 := I.2.1
  have h77928 := I.rg ha0 7 rfl
  have h77929 := I.rg ha0 8 rfl
  refine g_aload_n C dX12_takeSign_0 rfl 0 rfl ?_
  refine g_iload_n C dX12_takeSign_1 rfl 1 rfl ?_
  refine g_callVI (rest := []) C mv_X12_165 [.int a1] (s_X12_isSign I hW) (ha0).1 (ha0).2 rfl rfl (by decide) (Nat.le_of_ble_eq_true rfl) (by decide) dX12_takeSign_2 (fun r77930 Y77931 h77932 => ?_)
  obtain ⟨rfl, h77932⟩ := h77932
  obtain ⟨h77932, hi77933⟩ := h77932
  have hi77933 : r77930.toInt = 0 ∨ ((pI P a0 8).toInt = 0 ∧ (pI P a0 7).toInt ≤ 999) := hi77933
  have h77932 : 0 ≤ r77930.toInt ∧ r77930.toInt ≤ 1 := h77932
  refine b_if_eq C 21 dX12_takeSign_5 (by decide) (fun h77934 => ?_) (fun h77934 => ?_)
  · have h77934 : r77930.toInt = 0 := congrArg Int32.toInt h77934
    refine g_aload_n C dX12_takeSign_21 rfl 0 rfl ?_
    refine g_iconst (v := 1) C dX12_takeSign_22 (by decide) ?_
    refine g_callVV (rest := []) C mv_X12_168 [.int 1] (s_X12_wrong I (by decide) hW) (ha0).1 (ha0).2 rfl rfl (by decide) (Nat.le_of_ble_eq_true rfl) (by decide) dX12_takeSign_23 (fun Y77936 h77937 => ?_)
    obtain ⟨Iy77938, Xy77939, W77940, p77941, p77942⟩ := h77937
    have p77941 : 1 ≤ (pI Y77936 a0 8).toInt := p77941
    have p77942 : (pI P a0 8).toInt ≤ (pI Y77936 a0 8).toInt := p77942
    have q77943 := Xy77939.keepF 7 (by decide)
    have Xz77944 : EM [7, 8] a0 P Y77936 := Xy77939.mono (by decide)
    have h77945 := Xy77939.at ha0
    have h77946 := Iy77938.rg h77945 8 rfl
    exact ret _ _ _ _ _ dX12_takeSign_26 (by decide) (by decide) ⟨Iy77938, Xz77944, W77940, (by show (pI P a0 7).toInt ≤ (pI Y77936 a0 7).toInt; omega), (by show (pI P a0 8).toInt ≤ (pI Y77936 a0 8).toInt; omega)⟩
  · have h77934 : r77930.toInt ≠ 0 := ti_ne h77934
    refine g_aload_n C dX12_takeSign_8 rfl 0 rfl ?_
    refine g_dup C dX12_takeSign_9 rfl ?_
    refine g_getI C fi_X12_159 (by decide) (ha0).1 (ha0).2 dX12_takeSign_10 ?_
    refine g_iconst (v := 1) C dX12_takeSign_13 (by decide) ?_
    refine s_iadd C dX12_takeSign_14 (by show -2147483648 ≤ (pI P a0 7).toInt + 1 ∧ (pI P a0 7).toInt + 1 ≤ 2147483647; omega) (fun z77947 h77948 => ?_)
    have h77948 : z77947.toInt = (pI P a0 7).toInt + 1 := h77948
    refine g_putI C fi_X12_159 rfl (ha0).1 (ha0).2 dX12_takeSign_15 ?_
    refine gqW (ks := [7]) (I.setI (rgOk.of rfl (by omega))) (EM.setI I (by decide)) (fun Y77949 Iy77950 Xy77951 w77952  => ?_)
    have w77952 : (pI Y77949 a0 7).toInt = z77947.toInt := w77952
    have q77953 := Xy77951.keepF 8 (by decide)
    have W77954 := hW.keep I Xy77951 (by decide) (by decide) (by decide) (by decide)
    have Xz77955 : EM [7, 8] a0 P Y77949 := Xy77951.mono (by decide)
    have h77956 := Xy77951.at ha0
    refine g_goto C 26 dX12_takeSign_18 (by decide) ?_
    exact ret _ _ _ _ _ dX12_takeSign_26 (by decide) (by decide) ⟨Iy77950, Xz77955, W77954, (by show (pI P a0 7).toInt ≤ (pI Y77949 a0 7).toInt; omega), (by show (pI P a0 8).toInt ≤ (pI Y77949 a0 8).toInt; omega)⟩
theorem dX12_readLine_220 : decode cX12_readLine 220 = .ok (.return_, 1) := by decide +kernel
set_option maxHeartbeats 4000000 in
set_option maxRecDepth 100000 in
theorem s_X12_readLine {P : PP} {a0 : Nat} (I : IM P a0) (hf0 : ∀ b, pR P a0 14 = some b → 1 ≤ (pI P b 2).toInt ∧ (pI P b 2).toInt ≤ 9) (hW : MW P a0) : CtrV yX12_readLine cX12_readLine 2 none ({ frames := 4, cells := 0, slots := 0, locals := 256 } : Room) 0 0 P [.ref a0] (fun P2 => IM P2 a0 ∧ EM [7, 8, 12, 13, 14, 15, 16, 17] a0 P P2 ∧ MW P2 a0 ∧ (1 ≤ (pI P2 a0 8).toInt ∨ (pI P a0 7).toInt < (pI P2 a0 7).toInt) ∧ ((pI P a0 7).toInt ≤ (pI P2 a0 7).toInt) ∧ ((pI P a0 8).toInt ≤ (pI P2 a0 8).toInt) ∧ (∀ b, pR P2 a0 14 = some b → 1 ≤ (pI P2 a0 8).toInt ∨ 1 ≤ (pI P2 b 2).toInt)) := by
  refine enV (lv := [(0, .ref a0)]) (by decide) (Nat.le_of_ble_eq_true rfl) rfl (fun E D cy C Ci0 ret => ?_)
  have ha0 := I.2.1
  have J214 : ∀ (P214 : PP), (IM P214 a0) → (EM [7, 8, 12, 13, 14, 15, 16, 17] a0 P P214) → (MW P214 a0) → (∀ b, pR P214 a0 14 = some b → 0 ≤ (pI P214 b 2).toInt ∧ (pI P214 b 2).toInt ≤ 999) → (1 ≤ (pI P214 a0 8).toInt ∨ (pI P a0 7).toInt < (pI P214 a0 7).toInt) → ((pI P a0 8).toInt ≤ (pI P214 a0 8).toInt) → ((pI P a0 7).toInt ≤ (pI P214 a0 7).toInt) → (∀ b914, pR P214 a0 14 = some b914 → 1 ≤ (pI P214 a0 8).toInt ∨ 1 ≤ (pI P214 b914 2).toInt) → G E ({ frames := 4, cells := 0, slots := 0, locals := 256 } : Room) D cy 2 P214 0 0 214 [(0, .ref a0)] [] := by
    intro P214 I214 X214 W214 hq214_0 rel214_0 rel214_1 rel214_2 rel214_3
    have h78502 := X214.at ha0
    obtain ⟨b78503, e78504, h78505⟩ := I214.fld (h78502) 14 13 3 rfl
    have hq214_0 := hq214_0 b78503 e78504
    have h78506 := I214.rg h78502 8 rfl
    have h78507 := I214.rg h78502 7 rfl
    have rel214_3 := rel214_3 b78503 e78504
    have h78508 := I214.arr e78504 rfl 2
    refine g_aload_n C dX12_readLine_214 rfl 0 rfl ?_
    refine g_bipush (v := 59) C dX12_readLine_215 (by decide) ?_
    refine g_callVV (rest := []) C mv_X12_218 [.int 59] (s_X12_takeSign I214 W214) (h78502).1 (h78502).2 rfl rfl (by decide) (Nat.le_of_ble_eq_true rfl) (by decide) dX12_readLine_217 (fun Y78510 h78511 => ?_)
    obtain ⟨Iy78512, Xy78513, W78514, p78515, p78516⟩ := h78511
    have p78515 : (pI P214 a0 7).toInt ≤ (pI Y78510 a0 7).toInt := p78515
    have p78516 : (pI P214 a0 8).toInt ≤ (pI Y78510 a0 8).toInt := p78516
    have q78517 := Xy78513.keepA e78504 (by decide) rfl 2
    have Xz78518 : EM [7, 8, 12, 13, 14, 15, 16, 17] a0 P Y78510 := EM.tr ha0 X214 (Xy78513.mono (by decide))
    have e78519 := Xy78513.ref h78502 (by decide) e78504
    have h78520 := Xy78513.at h78502
    have h78521 := Xy78513.ar h78505
    have h78522 := Iy78512.rg h78520 7 rfl
    have h78523 := Iy78512.rg h78520 8 rfl
    have h78524 := Iy78512.rg h78520 7 rfl
    have h78525 := Iy78512.rg h78520 8 rfl
    exact ret _ _ _ _ _ dX12_readLine_220 (by decide) (by decide) ⟨Iy78512, Xz78518, W78514, (by show 1 ≤ (pI Y78510 a0 8).toInt ∨ (pI P a0 7).toInt < (pI Y78510 a0 7).toInt; omega), (by show (pI P a0 7).toInt ≤ (pI Y78510 a0 7).toInt; omega), (by show (pI P a0 8).toInt ≤ (pI Y78510 a0 8).toInt; omega), (fun b9 e9 => by rw [e78519] at e9; cases e9; omega)⟩
  have J115 : ∀ (P115 : PP), (IM P115 a0) → (EM [7, 8, 12, 13, 14, 15, 16, 17] a0 P P115) → (MW P115 a0) → (∀ b, pR P115 a0 14 = some b → 1 ≤ (pI P115 b 2).toInt ∧ (pI P115 b 2).toInt ≤ 9) → ((pI P a0 8).toInt ≤ (pI P115 a0 8).toInt) → ((pI P115 a0 7).toInt = (pI P a0 7).toInt) → (1 ≤ (pI P115 a0 8).toInt ∨ (pI P115 a0 7).toInt ≤ 999) → (∀ b915 b94 b96 b99, pR P115 a0 15 = some b915 → pR P115 a0 4 = some b94 → pR P115 a0 6 = some b96 → pR P115 a0 9 = some b99 → 1 ≤ (pI P115 a0 8).toInt ∨ iwA P115 a0 b94 b96 b99 2 = 0 ∨ (pI P115 b915 2).toInt ≤ 3) → G E ({ frames := 4, cells := 0, slots := 0, locals := 256 } : Room) D cy 2 P115 0 0 115 [(0, .ref a0)] [] := by
    intro P115 I115 X115 W115 hq115_0 rel115_0 rel115_1 rel115_2 rel115_3
    have h78526 := X115.at ha0
    obtain ⟨b78527, e78528, h78529⟩ := I115.fld (h78526) 14 13 3 rfl
    have hq115_0 := hq115_0 b78527 e78528
    have h78530 := I115.rg h78526 8 rfl
    have h78531 := I115.rg h78526 7 rfl
    obtain ⟨b78532, e78533, h78534⟩ := I115.fld (h78526) 15 13 3 rfl
    obtain ⟨b78535, e78536, h78537⟩ := I115.fld (h78526) 4 13 1002 rfl
    obtain ⟨b78538, e78539, h78540⟩ := I115.fld (h78526) 6 14 1002 rfl
    obtain ⟨b78541, e78542, h78543⟩ := I115.fld (h78526) 9 14 4 rfl
    have rel115_3 := rel115_3 b78532 b78535 b78538 b78541 e78533 e78536 e78539 e78542
    have h78544 := I115.arr e78533 rfl 2
    refine g_aload_n C dX12_readLine_115 rfl 0 rfl ?_
    refine g_getI C fi_X12_162 (by decide) (h78526).1 (h78526).2 dX12_readLine_116 ?_
    refine b_if_le C 123 dX12_readLine_119 (by decide) (fun h78545 => ?_) (fun h78545 => ?_)
    · have h78545 : (pI P115 a0 8).toInt ≤ 0 := h78545
      refine g_aload_n C dX12_readLine_123 rfl 0 rfl ?_
      refine g_iconst (v := 0) C dX12_readLine_124 (by decide) ?_
      refine g_callVI (rest := []) C mv_X12_175 [.int 0] (s_X12_hasWord I115 (by decide) W115) (h78526).1 (h78526).2 rfl rfl (by decide) (Nat.le_of_ble_eq_true rfl) (by decide) dX12_readLine_125 (fun r78546 Y78547 h78548 => ?_)
      obtain ⟨Iy78549, Xy78550, W78551, h78548⟩ := h78548
      have q78552 := Xy78550.keepA e78528 (by decide) rfl 2
      have q78553 := Xy78550.keepF 8 (by decide)
      have q78554 := Xy78550.keepA e78533 (by decide) rfl 2
      have Xz78555 : EM [7, 8, 12, 13, 14, 15, 16, 17] a0 P Y78547 := EM.tr ha0 X115 (Xy78550.mono (by decide))
      have e78556 := Xy78550.ref h78526 (by decide) e78528
      have e78557 := Xy78550.ref h78526 (by decide) e78533
      have e78558 := Xy78550.ref h78526 (by decide) e78536
      have e78559 := Xy78550.ref h78526 (by decide) e78539
      have e78560 := Xy78550.ref h78526 (by decide) e78542
      have h78561 := Xy78550.at h78526
      have h78562 := Xy78550.ar h78529
      have h78563 := Xy78550.ar h78534
      have h78564 := Xy78550.ar h78537
      have h78565 := Xy78550.ar h78540
      have h78566 := Xy78550.ar h78543
      obtain ⟨h78548, hi78567⟩ := h78548
      obtain ⟨hi78567, hw78568⟩ := hi78567
      have hi78567 : (r78546.toInt = 0 ∨ ((pI P115 a0 8).toInt = 0 ∧ (pI P115 a0 7).toInt ≤ 999)) ∧ (pI Y78547 a0 7).toInt = (pI P115 a0 7).toInt + r78546.toInt := hi78567
      have h78569 := Iy78549.rg h78561 7 rfl
      obtain ⟨hA78570, hB78571⟩ := hw78568 b78535 b78538 b78541 e78536 e78539 e78542
      have hA78570 : r78546.toInt = iwA P115 a0 b78535 b78538 b78541 0 := hA78570
      have hB78571 : r78546.toInt = 0 → iwA Y78547 a0 b78535 b78538 b78541 2 = iwA P115 a0 b78535 b78538 b78541 2 := fun h9 => hB78571 h9 2
      have h78548 : 0 ≤ r78546.toInt ∧ r78546.toInt ≤ 1 := h78548
      refine b_if_eq C 138 dX12_readLine_128 (by decide) (fun h78572 => ?_) (fun h78572 => ?_)
      · have h78572 : r78546.toInt = 0 := congrArg Int32.toInt h78572
        have hk78573 := hB78571 (by omega)
        refine g_aload_n C dX12_readLine_138 rfl 0 rfl ?_
        refine g_iconst (v := 1) C dX12_readLine_139 (by decide) ?_
        refine g_callVI (rest := []) C mv_X12_175 [.int 1] (s_X12_hasWord Iy78549 (by decide) W78551) (h78561).1 (h78561).2 rfl rfl (by decide) (Nat.le_of_ble_eq_true rfl) (by decide) dX12_readLine_140 (fun r78574 Y78575 h78576 => ?_)
        obtain ⟨Iy78577, Xy78578, W78579, h78576⟩ := h78576
        have q78580 := Xy78578.keepA e78556 (by decide) rfl 2
        have q78581 := Xy78578.keepF 8 (by decide)
        have q78582 := Xy78578.keepA e78557 (by decide) rfl 2
        have Xz78583 : EM [7, 8, 12, 13, 14, 15, 16, 17] a0 P Y78575 := EM.tr ha0 Xz78555 (Xy78578.mono (by decide))
        have e78584 := Xy78578.ref h78561 (by decide) e78556
        have e78585 := Xy78578.ref h78561 (by decide) e78557
        have e78586 := Xy78578.ref h78561 (by decide) e78558
        have e78587 := Xy78578.ref h78561 (by decide) e78559
        have e78588 := Xy78578.ref h78561 (by decide) e78560
        have h78589 := Xy78578.at h78561
        have h78590 := Xy78578.ar h78562
        have h78591 := Xy78578.ar h78563
        have h78592 := Xy78578.ar h78564
        have h78593 := Xy78578.ar h78565
        have h78594 := Xy78578.ar h78566
        obtain ⟨h78576, hi78595⟩ := h78576
        obtain ⟨hi78595, hw78596⟩ := hi78595
        have hi78595 : (r78574.toInt = 0 ∨ ((pI Y78547 a0 8).toInt = 0 ∧ (pI Y78547 a0 7).toInt ≤ 999)) ∧ (pI Y78575 a0 7).toInt = (pI Y78547 a0 7).toInt + r78574.toInt := hi78595
        have h78597 := Iy78577.rg h78589 7 rfl
        obtain ⟨hA78598, hB78599⟩ := hw78596 b78535 b78538 b78541 e78558 e78559 e78560
        have hA78598 : r78574.toInt = iwA Y78547 a0 b78535 b78538 b78541 1 := hA78598
        have hB78599 : r78574.toInt = 0 → iwA Y78575 a0 b78535 b78538 b78541 2 = iwA Y78547 a0 b78535 b78538 b78541 2 := fun h9 => hB78599 h9 2
        have h78576 : 0 ≤ r78574.toInt ∧ r78574.toInt ≤ 1 := h78576
        refine b_if_eq C 175 dX12_readLine_143 (by decide) (fun h78600 => ?_) (fun h78600 => ?_)
        · have h78600 : r78574.toInt = 0 := congrArg Int32.toInt h78600
          have hk78601 := hB78599 (by omega)
          refine g_aload_n C dX12_readLine_175 rfl 0 rfl ?_
          refine g_iconst (v := 2) C dX12_readLine_176 (by decide) ?_
          refine g_callVI (rest := []) C mv_X12_175 [.int 2] (s_X12_hasWord Iy78577 (by decide) W78579) (h78589).1 (h78589).2 rfl rfl (by decide) (Nat.le_of_ble_eq_true rfl) (by decide) dX12_readLine_177 (fun r78602 Y78603 h78604 => ?_)
          obtain ⟨Iy78605, Xy78606, W78607, h78604⟩ := h78604
          have q78608 := Xy78606.keepA e78584 (by decide) rfl 2
          have q78609 := Xy78606.keepF 8 (by decide)
          have q78610 := Xy78606.keepA e78585 (by decide) rfl 2
          have Xz78611 : EM [7, 8, 12, 13, 14, 15, 16, 17] a0 P Y78603 := EM.tr ha0 Xz78583 (Xy78606.mono (by decide))
          have e78612 := Xy78606.ref h78589 (by decide) e78584
          have e78613 := Xy78606.ref h78589 (by decide) e78585
          have e78614 := Xy78606.ref h78589 (by decide) e78586
          have e78615 := Xy78606.ref h78589 (by decide) e78587
          have e78616 := Xy78606.ref h78589 (by decide) e78588
          have h78617 := Xy78606.at h78589
          have h78618 := Xy78606.ar h78590
          have h78619 := Xy78606.ar h78591
          have h78620 := Xy78606.ar h78592
          have h78621 := Xy78606.ar h78593
          have h78622 := Xy78606.ar h78594
          obtain ⟨h78604, hi78623⟩ := h78604
          obtain ⟨hi78623, hw78624⟩ := hi78623
          have hi78623 : (r78602.toInt = 0 ∨ ((pI Y78575 a0 8).toInt = 0 ∧ (pI Y78575 a0 7).toInt ≤ 999)) ∧ (pI Y78603 a0 7).toInt = (pI Y78575 a0 7).toInt + r78602.toInt := hi78623
          have h78625 := Iy78605.rg h78617 7 rfl
          obtain ⟨hA78626, hB78627⟩ := hw78624 b78535 b78538 b78541 e78586 e78587 e78588
          have hA78626 : r78602.toInt = iwA Y78575 a0 b78535 b78538 b78541 2 := hA78626
          have hB78627 : r78602.toInt = 0 → iwA Y78603 a0 b78535 b78538 b78541 2 = iwA Y78575 a0 b78535 b78538 b78541 2 := fun h9 => hB78627 h9 2
          have h78604 : 0 ≤ r78602.toInt ∧ r78602.toInt ≤ 1 := h78604
          refine b_if_eq C 190 dX12_readLine_180 (by decide) (fun h78628 => ?_) (fun h78628 => ?_)
          · have h78628 : r78602.toInt = 0 := congrArg Int32.toInt h78628
            have hk78629 := hB78627 (by omega)
            refine g_aload_n C dX12_readLine_190 rfl 0 rfl ?_
            refine g_dup C dX12_readLine_191 rfl ?_
            refine g_getI C fi_X12_159 (by decide) (h78617).1 (h78617).2 dX12_readLine_192 ?_
            refine g_iconst (v := 1) C dX12_readLine_195 (by decide) ?_
            refine s_iadd C dX12_readLine_196 (by show -2147483648 ≤ (pI Y78603 a0 7).toInt + 1 ∧ (pI Y78603 a0 7).toInt + 1 ≤ 2147483647; omega) (fun z78630 h78631 => ?_)
            have h78631 : z78630.toInt = (pI Y78603 a0 7).toInt + 1 := h78631
            refine g_putI C fi_X12_159 rfl (h78617).1 (h78617).2 dX12_readLine_197 ?_
            refine gqW (ks := [7]) (Iy78605.setI (rgOk.of rfl (by omega))) (EM.setI Iy78605 (by decide)) (fun Y78632 Iy78633 Xy78634 w78635  => ?_)
            have w78635 : (pI Y78632 a0 7).toInt = z78630.toInt := w78635
            have q78636 := Xy78634.keepA e78612 (by decide) rfl 2
            have q78637 := Xy78634.keepF 8 (by decide)
            have q78638 := Xy78634.keepA e78613 (by decide) rfl 2
            have W78639 := W78607.keep Iy78605 Xy78634 (by decide) (by decide) (by decide) (by decide)
            have Xz78640 : EM [7, 8, 12, 13, 14, 15, 16, 17] a0 P Y78632 := EM.tr ha0 Xz78611 (Xy78634.mono (by decide))
            have e78641 := Xy78634.ref h78617 (by decide) e78612
            have e78642 := Xy78634.ref h78617 (by decide) e78613
            have e78643 := Xy78634.ref h78617 (by decide) e78614
            have e78644 := Xy78634.ref h78617 (by decide) e78615
            have e78645 := Xy78634.ref h78617 (by decide) e78616
            have h78646 := Xy78634.at h78617
            have h78647 := Xy78634.ar h78618
            have h78648 := Xy78634.ar h78619
            have h78649 := Xy78634.ar h78620
            have h78650 := Xy78634.ar h78621
            have h78651 := Xy78634.ar h78622
            refine g_aload_n C dX12_readLine_200 rfl 0 rfl ?_
            obtain ⟨b78652, e78653, h78654⟩ := Iy78633.fld (h78646) 17 13 3 rfl
            refine g_getR C fi_X12_66 rfl e78653 (h78646).1 (h78646).2 dX12_readLine_201 ?_
            refine g_iconst (v := 2) C dX12_readLine_204 (by decide) ?_
            refine g_aload_n C dX12_readLine_205 rfl 0 rfl ?_
            refine g_iconst (v := 1) C dX12_readLine_206 (by decide) ?_
            refine g_sipush (v := 996) C dX12_readLine_207 (by decide) ?_
            refine g_callVI (rest := [.int 2, .ref b78652]) C mv_X12_211 [.int 1, .int 996] (s_X12_takeNumber Iy78633 (by decide) (by decide) W78639) (h78646).1 (h78646).2 rfl rfl (by decide) (Nat.le_of_ble_eq_true rfl) (by decide) dX12_readLine_210 (fun r78655 Y78656 h78657 => ?_)
            obtain ⟨Iy78658, Xy78659, W78660, p78661, p78662, p78663, h78657⟩ := h78657
            have p78661 : (pI Y78632 a0 7).toInt ≤ (pI Y78656 a0 7).toInt := p78661
            have p78662 : (pI Y78632 a0 8).toInt ≤ (pI Y78656 a0 8).toInt := p78662
            have p78663 : 1 ≤ (pI Y78656 a0 8).toInt ∨ (pI Y78656 a0 7).toInt = (pI Y78632 a0 7).toInt + 1 := p78663
            have q78664 := Xy78659.keepA e78641 (by decide) rfl 2
            have q78665 := Xy78659.keepA e78642 (by decide) rfl 2
            have Xz78666 : EM [7, 8, 12, 13, 14, 15, 16, 17] a0 P Y78656 := EM.tr ha0 Xz78640 (Xy78659.mono (by decide))
            have e78667 := Xy78659.ref h78646 (by decide) e78641
            have e78668 := Xy78659.ref h78646 (by decide) e78642
            have e78669 := Xy78659.ref h78646 (by decide) e78643
            have e78670 := Xy78659.ref h78646 (by decide) e78644
            have e78671 := Xy78659.ref h78646 (by decide) e78645
            have e78672 := Xy78659.ref h78646 (by decide) e78653
            have h78673 := Xy78659.at h78646
            have h78674 := Xy78659.ar h78647
            have h78675 := Xy78659.ar h78648
            have h78676 := Xy78659.ar h78649
            have h78677 := Xy78659.ar h78650
            have h78678 := Xy78659.ar h78651
            have h78679 := Xy78659.ar h78654
            have h78680 := Iy78658.rg h78673 7 rfl
            have h78681 := Iy78658.rg h78673 8 rfl
            have h78682 := Iy78658.rg h78673 7 rfl
            have h78683 := Iy78658.rg h78673 8 rfl
            obtain ⟨h78657, hi78684⟩ := h78657
            have hi78684 : (1 ≤ (pI Y78656 a0 8).toInt ∧ r78655.toInt = 0) ∨ (1 ≤ r78655.toInt ∧ r78655.toInt ≤ 996) := hi78684
            have h78657 : 0 ≤ r78655.toInt ∧ r78655.toInt ≤ 999 := h78657
            refine g_iast (j := 2) C h78679.1 h78679.2.1 (IX.litn (j := 2) h78679.2.2 rfl (by decide) (by decide)) dX12_readLine_213 ?_
            refine gqW (ks := [17]) (Iy78658.setA e78672 h78679 (by decide) (arOk.none rfl)) (EM.setA Iy78658 e78672 rfl (by decide)) (fun Y78685 Iy78686 Xy78687 w78688  => ?_)
            have w78688 : (pI Y78685 b78652 2).toInt = r78655.toInt := w78688
            have q78689 := Xy78687.keepA e78667 (by decide) rfl 2
            have q78690 := Xy78687.keepA e78668 (by decide) rfl 2
            have q78691 := Xy78687.keepF 7 (by decide)
            have q78692 := Xy78687.keepF 8 (by decide)
            have W78693 := W78660.keep Iy78658 Xy78687 (by decide) (by decide) (by decide) (by decide)
            have Xz78694 : EM [7, 8, 12, 13, 14, 15, 16, 17] a0 P Y78685 := EM.tr ha0 Xz78666 (Xy78687.mono (by decide))
            have e78695 := Xy78687.ref h78673 (by decide) e78667
            have e78696 := Xy78687.ref h78673 (by decide) e78668
            have e78697 := Xy78687.ref h78673 (by decide) e78669
            have e78698 := Xy78687.ref h78673 (by decide) e78670
            have e78699 := Xy78687.ref h78673 (by decide) e78671
            have e78700 := Xy78687.ref h78673 (by decide) e78672
            have h78701 := Xy78687.at h78673
            have h78702 := Xy78687.ar h78674
            have h78703 := Xy78687.ar h78675
            have h78704 := Xy78687.ar h78676
            have h78705 := Xy78687.ar h78677
            have h78706 := Xy78687.ar h78678
            have h78707 := Xy78687.ar h78679
            exact J214 Y78685 Iy78686 Xz78694 W78693 (fun b9 e9 => by rw [e78695] at e9; cases e9; omega) (by show 1 ≤ (pI Y78685 a0 8).toInt ∨ (pI P a0 7).toInt < (pI Y78685 a0 7).toInt; omega) (by show (pI P a0 8).toInt ≤ (pI Y78685 a0 8).toInt; omega) (by show (pI P a0 7).toInt ≤ (pI Y78685 a0 7).toInt; omega) (by intro b914 e914; rw [e78695] at e914; cases e914; show 1 ≤ (pI Y78685 a0 8).toInt ∨ 1 ≤ (pI Y78685 b78527 2).toInt; omega)
          · have h78628 : r78602.toInt ≠ 0 := ti_ne h78628
            refine g_aload_n C dX12_readLine_183 rfl 0 rfl ?_
            refine g_callVV (rest := []) C mv_X12_215 [] (s_X12_readSum Iy78605 (fun b9 e9 => by rw [e78613] at e9; cases e9; show 0 ≤ (pI Y78603 b78532 2).toInt ∧ (pI Y78603 b78532 2).toInt ≤ 3; omega) W78607) (h78617).1 (h78617).2 rfl rfl (by decide) (Nat.le_of_ble_eq_true rfl) (by decide) dX12_readLine_184 (fun Y78709 h78710 => ?_)
            obtain ⟨Iy78711, Xy78712, W78713, p78714, p78715⟩ := h78710
            have p78714 : (pI Y78603 a0 7).toInt ≤ (pI Y78709 a0 7).toInt := p78714
            have p78715 : (pI Y78603 a0 8).toInt ≤ (pI Y78709 a0 8).toInt := p78715
            have q78716 := Xy78712.keepA e78612 (by decide) rfl 2
            have Xz78717 : EM [7, 8, 12, 13, 14, 15, 16, 17] a0 P Y78709 := EM.tr ha0 Xz78611 (Xy78712.mono (by decide))
            have e78718 := Xy78712.ref h78617 (by decide) e78612
            have e78719 := Xy78712.ref h78617 (by decide) e78614
            have e78720 := Xy78712.ref h78617 (by decide) e78615
            have e78721 := Xy78712.ref h78617 (by decide) e78616
            have h78722 := Xy78712.at h78617
            have h78723 := Xy78712.ar h78618
            have h78724 := Xy78712.ar h78620
            have h78725 := Xy78712.ar h78621
            have h78726 := Xy78712.ar h78622
            have h78727 := Iy78711.rg h78722 7 rfl
            have h78728 := Iy78711.rg h78722 8 rfl
            have h78729 := Iy78711.rg h78722 7 rfl
            have h78730 := Iy78711.rg h78722 8 rfl
            refine g_goto C 214 dX12_readLine_187 (by decide) ?_
            exact J214 Y78709 Iy78711 Xz78717 W78713 (fun b9 e9 => by rw [e78718] at e9; cases e9; omega) (by show 1 ≤ (pI Y78709 a0 8).toInt ∨ (pI P a0 7).toInt < (pI Y78709 a0 7).toInt; omega) (by show (pI P a0 8).toInt ≤ (pI Y78709 a0 8).toInt; omega) (by show (pI P a0 7).toInt ≤ (pI Y78709 a0 7).toInt; omega) (by intro b914 e914; rw [e78718] at e914; cases e914; show 1 ≤ (pI Y78709 a0 8).toInt ∨ 1 ≤ (pI Y78709 b78527 2).toInt; omega)
        · have h78600 : r78574.toInt ≠ 0 := ti_ne h78600
          refine g_aload_n C dX12_readLine_146 rfl 0 rfl ?_
          obtain ⟨b78731, e78732, h78733⟩ := Iy78577.fld (h78589) 13 13 3 rfl
          refine g_getR C fi_X12_54 rfl e78732 (h78589).1 (h78589).2 dX12_readLine_147 ?_
          refine g_iconst (v := 2) C dX12_readLine_150 (by decide) ?_
          refine g_aload_n C dX12_readLine_151 rfl 0 rfl ?_
          refine g_iconst (v := 1) C dX12_readLine_152 (by decide) ?_
          refine g_bipush (v := 16) C dX12_readLine_153 (by decide) ?_
          refine g_callVI (rest := [.int 2, .ref b78731]) C mv_X12_211 [.int 1, .int 16] (s_X12_takeNumber Iy78577 (by decide) (by decide) W78579) (h78589).1 (h78589).2 rfl rfl (by decide) (Nat.le_of_ble_eq_true rfl) (by decide) dX12_readLine_155 (fun r78734 Y78735 h78736 => ?_)
          obtain ⟨Iy78737, Xy78738, W78739, p78740, p78741, p78742, h78736⟩ := h78736
          have p78740 : (pI Y78575 a0 7).toInt ≤ (pI Y78735 a0 7).toInt := p78740
          have p78741 : (pI Y78575 a0 8).toInt ≤ (pI Y78735 a0 8).toInt := p78741
          have p78742 : 1 ≤ (pI Y78735 a0 8).toInt ∨ (pI Y78735 a0 7).toInt = (pI Y78575 a0 7).toInt + 1 := p78742
          have q78743 := Xy78738.keepA e78584 (by decide) rfl 2
          have q78744 := Xy78738.keepA e78585 (by decide) rfl 2
          have Xz78745 : EM [7, 8, 12, 13, 14, 15, 16, 17] a0 P Y78735 := EM.tr ha0 Xz78583 (Xy78738.mono (by decide))
          have e78746 := Xy78738.ref h78589 (by decide) e78584
          have e78747 := Xy78738.ref h78589 (by decide) e78585
          have e78748 := Xy78738.ref h78589 (by decide) e78586
          have e78749 := Xy78738.ref h78589 (by decide) e78587
          have e78750 := Xy78738.ref h78589 (by decide) e78588
          have e78751 := Xy78738.ref h78589 (by decide) e78732
          have h78752 := Xy78738.at h78589
          have h78753 := Xy78738.ar h78590
          have h78754 := Xy78738.ar h78591
          have h78755 := Xy78738.ar h78592
          have h78756 := Xy78738.ar h78593
          have h78757 := Xy78738.ar h78594
          have h78758 := Xy78738.ar h78733
          have h78759 := Iy78737.rg h78752 7 rfl
          have h78760 := Iy78737.rg h78752 8 rfl
          have h78761 := Iy78737.rg h78752 7 rfl
          have h78762 := Iy78737.rg h78752 8 rfl
          obtain ⟨h78736, hi78763⟩ := h78736
          have hi78763 : (1 ≤ (pI Y78735 a0 8).toInt ∧ r78734.toInt = 0) ∨ (1 ≤ r78734.toInt ∧ r78734.toInt ≤ 16) := hi78763
          have h78736 : 0 ≤ r78734.toInt ∧ r78734.toInt ≤ 999 := h78736
          refine g_iast (j := 2) C h78758.1 h78758.2.1 (IX.litn (j := 2) h78758.2.2 rfl (by decide) (by decide)) dX12_readLine_158 ?_
          refine gqW (ks := [13]) (Iy78737.setA e78751 h78758 (by decide) (arOk.none rfl)) (EM.setA Iy78737 e78751 rfl (by decide)) (fun Y78764 Iy78765 Xy78766 w78767  => ?_)
          have w78767 : (pI Y78764 b78731 2).toInt = r78734.toInt := w78767
          have q78768 := Xy78766.keepA e78746 (by decide) rfl 2
          have q78769 := Xy78766.keepA e78747 (by decide) rfl 2
          have q78770 := Xy78766.keepF 7 (by decide)
          have q78771 := Xy78766.keepF 8 (by decide)
          have W78772 := W78739.keep Iy78737 Xy78766 (by decide) (by decide) (by decide) (by decide)
          have Xz78773 : EM [7, 8, 12, 13, 14, 15, 16, 17] a0 P Y78764 := EM.tr ha0 Xz78745 (Xy78766.mono (by decide))
          have e78774 := Xy78766.ref h78752 (by decide) e78746
          have e78775 := Xy78766.ref h78752 (by decide) e78747
          have e78776 := Xy78766.ref h78752 (by decide) e78748
          have e78777 := Xy78766.ref h78752 (by decide) e78749
          have e78778 := Xy78766.ref h78752 (by decide) e78750
          have e78779 := Xy78766.ref h78752 (by decide) e78751
          have h78780 := Xy78766.at h78752
          have h78781 := Xy78766.ar h78753
          have h78782 := Xy78766.ar h78754
          have h78783 := Xy78766.ar h78755
          have h78784 := Xy78766.ar h78756
          have h78785 := Xy78766.ar h78757
          have h78786 := Xy78766.ar h78758
          refine g_aload_n C dX12_readLine_159 rfl 0 rfl ?_
          refine g_getR C fi_X12_57 rfl e78774 (h78780).1 (h78780).2 dX12_readLine_160 ?_
          refine g_iconst (v := 2) C dX12_readLine_163 (by decide) ?_
          refine g_aload_n C dX12_readLine_164 rfl 0 rfl ?_
          refine g_iconst (v := 2) C dX12_readLine_165 (by decide) ?_
          refine g_bipush (v := 9) C dX12_readLine_166 (by decide) ?_
          refine g_callVI (rest := [.int 2, .ref b78527]) C mv_X12_211 [.int 2, .int 9] (s_X12_takeNumber Iy78765 (by decide) (by decide) W78772) (h78780).1 (h78780).2 rfl rfl (by decide) (Nat.le_of_ble_eq_true rfl) (by decide) dX12_readLine_168 (fun r78787 Y78788 h78789 => ?_)
          obtain ⟨Iy78790, Xy78791, W78792, p78793, p78794, p78795, h78789⟩ := h78789
          have p78793 : (pI Y78764 a0 7).toInt ≤ (pI Y78788 a0 7).toInt := p78793
          have p78794 : (pI Y78764 a0 8).toInt ≤ (pI Y78788 a0 8).toInt := p78794
          have p78795 : 1 ≤ (pI Y78788 a0 8).toInt ∨ (pI Y78788 a0 7).toInt = (pI Y78764 a0 7).toInt + 1 := p78795
          have q78796 := Xy78791.keepA e78774 (by decide) rfl 2
          have q78797 := Xy78791.keepA e78775 (by decide) rfl 2
          have q78798 := Xy78791.keepA e78779 (by decide) rfl 2
          have Xz78799 : EM [7, 8, 12, 13, 14, 15, 16, 17] a0 P Y78788 := EM.tr ha0 Xz78773 (Xy78791.mono (by decide))
          have e78800 := Xy78791.ref h78780 (by decide) e78774
          have e78801 := Xy78791.ref h78780 (by decide) e78775
          have e78802 := Xy78791.ref h78780 (by decide) e78776
          have e78803 := Xy78791.ref h78780 (by decide) e78777
          have e78804 := Xy78791.ref h78780 (by decide) e78778
          have e78805 := Xy78791.ref h78780 (by decide) e78779
          have h78806 := Xy78791.at h78780
          have h78807 := Xy78791.ar h78781
          have h78808 := Xy78791.ar h78782
          have h78809 := Xy78791.ar h78783
          have h78810 := Xy78791.ar h78784
          have h78811 := Xy78791.ar h78785
          have h78812 := Xy78791.ar h78786
          have h78813 := Iy78790.rg h78806 7 rfl
          have h78814 := Iy78790.rg h78806 8 rfl
          have h78815 := Iy78790.rg h78806 7 rfl
          have h78816 := Iy78790.rg h78806 8 rfl
          obtain ⟨h78789, hi78817⟩ := h78789
          have hi78817 : (1 ≤ (pI Y78788 a0 8).toInt ∧ r78787.toInt = 0) ∨ (2 ≤ r78787.toInt ∧ r78787.toInt ≤ 9) := hi78817
          have h78789 : 0 ≤ r78787.toInt ∧ r78787.toInt ≤ 999 := h78789
          refine g_iast (j := 2) C h78807.1 h78807.2.1 (IX.litn (j := 2) h78807.2.2 rfl (by decide) (by decide)) dX12_readLine_171 ?_
          refine gqX (ks := [14]) (W := (fun Y9 => MW Y9 a0)) (Iy78790.setA e78800 h78807 (by decide) (arOk.of rfl (by omega))) (EM.setA Iy78790 e78800 rfl (by decide)) (W78792.set14 Iy78790 e78800 (by first | exact Or.inl (by decide) | exact Or.inr (by omega))) (fun Y78818 Iy78819 Xy78820 w78821 W78822 => ?_)
          have w78821 : (pI Y78818 b78527 2).toInt = r78787.toInt := w78821
          have q78823 := Xy78820.keepA e78801 (by decide) rfl 2
          have q78824 := Xy78820.keepA e78805 (by decide) rfl 2
          have q78825 := Xy78820.keepF 7 (by decide)
          have q78826 := Xy78820.keepF 8 (by decide)
          have Xz78827 : EM [7, 8, 12, 13, 14, 15, 16, 17] a0 P Y78818 := EM.tr ha0 Xz78799 (Xy78820.mono (by decide))
          have e78828 := Xy78820.ref h78806 (by decide) e78800
          have e78829 := Xy78820.ref h78806 (by decide) e78801
          have e78830 := Xy78820.ref h78806 (by decide) e78802
          have e78831 := Xy78820.ref h78806 (by decide) e78803
          have e78832 := Xy78820.ref h78806 (by decide) e78804
          have e78833 := Xy78820.ref h78806 (by decide) e78805
          have h78834 := Xy78820.at h78806
          have h78835 := Xy78820.ar h78807
          have h78836 := Xy78820.ar h78808
          have h78837 := Xy78820.ar h78809
          have h78838 := Xy78820.ar h78810
          have h78839 := Xy78820.ar h78811
          have h78840 := Xy78820.ar h78812
          refine g_goto C 214 dX12_readLine_172 (by decide) ?_
          exact J214 Y78818 Iy78819 Xz78827 W78822 (fun b9 e9 => by rw [e78828] at e9; cases e9; omega) (by show 1 ≤ (pI Y78818 a0 8).toInt ∨ (pI P a0 7).toInt < (pI Y78818 a0 7).toInt; omega) (by show (pI P a0 8).toInt ≤ (pI Y78818 a0 8).toInt; omega) (by show (pI P a0 7).toInt ≤ (pI Y78818 a0 7).toInt; omega) (by intro b914 e914; rw [e78828] at e914; cases e914; show 1 ≤ (pI Y78818 a0 8).toInt ∨ 1 ≤ (pI Y78818 b78527 2).toInt; omega)
      · have h78572 : r78546.toInt ≠ 0 := ti_ne h78572
        refine g_aload_n C dX12_readLine_131 rfl 0 rfl ?_
        refine g_callVV (rest := []) C mv_X12_208 [] (s_X12_readOdds Iy78549 W78551) (h78561).1 (h78561).2 rfl rfl (by decide) (Nat.le_of_ble_eq_true rfl) (by decide) dX12_readLine_132 (fun Y78842 h78843 => ?_)
        obtain ⟨Iy78844, Xy78845, W78846, p78847, p78848⟩ := h78843
        have p78847 : (pI Y78547 a0 7).toInt ≤ (pI Y78842 a0 7).toInt := p78847
        have p78848 : (pI Y78547 a0 8).toInt ≤ (pI Y78842 a0 8).toInt := p78848
        have q78849 := Xy78845.keepA e78556 (by decide) rfl 2
        have q78850 := Xy78845.keepA e78557 (by decide) rfl 2
        have Xz78851 : EM [7, 8, 12, 13, 14, 15, 16, 17] a0 P Y78842 := EM.tr ha0 Xz78555 (Xy78845.mono (by decide))
        have e78852 := Xy78845.ref h78561 (by decide) e78556
        have e78853 := Xy78845.ref h78561 (by decide) e78557
        have e78854 := Xy78845.ref h78561 (by decide) e78558
        have e78855 := Xy78845.ref h78561 (by decide) e78559
        have e78856 := Xy78845.ref h78561 (by decide) e78560
        have h78857 := Xy78845.at h78561
        have h78858 := Xy78845.ar h78562
        have h78859 := Xy78845.ar h78563
        have h78860 := Xy78845.ar h78564
        have h78861 := Xy78845.ar h78565
        have h78862 := Xy78845.ar h78566
        have h78863 := Iy78844.rg h78857 7 rfl
        have h78864 := Iy78844.rg h78857 8 rfl
        have h78865 := Iy78844.rg h78857 7 rfl
        have h78866 := Iy78844.rg h78857 8 rfl
        refine g_goto C 214 dX12_readLine_135 (by decide) ?_
        exact J214 Y78842 Iy78844 Xz78851 W78846 (fun b9 e9 => by rw [e78852] at e9; cases e9; omega) (by show 1 ≤ (pI Y78842 a0 8).toInt ∨ (pI P a0 7).toInt < (pI Y78842 a0 7).toInt; omega) (by show (pI P a0 8).toInt ≤ (pI Y78842 a0 8).toInt; omega) (by show (pI P a0 7).toInt ≤ (pI Y78842 a0 7).toInt; omega) (by intro b914 e914; rw [e78852] at e914; cases e914; show 1 ≤ (pI Y78842 a0 8).toInt ∨ 1 ≤ (pI Y78842 b78527 2).toInt; omega)
    · have h78545 : 0 < (pI P115 a0 8).toInt := h78545
      exact ret _ _ _ _ _ dX12_readLine_122 (by decide) (by decide) ⟨I115, X115, W115, (by show 1 ≤ (pI P115 a0 8).toInt ∨ (pI P a0 7).toInt < (pI P115 a0 7).toInt; omega), (by show (pI P a0 7).toInt ≤ (pI P115 a0 7).toInt; omega), (by show (pI P a0 8).toInt ≤ (pI P115 a0 8).toInt; omega), (fun b9 e9 => by rw [e78528] at e9; cases e9; omega)⟩
  have J80 : ∀ (v80_1 : Int32), (0 ≤ v80_1.toInt ∧ v80_1.toInt ≤ 1) → (∀ b, pR P a0 14 = some b → 1 ≤ (pI P b 2).toInt ∧ (pI P b 2).toInt ≤ 9) → ((pI P a0 7).toInt ≤ 999) → G E ({ frames := 4, cells := 0, slots := 0, locals := 256 } : Room) D cy 2 P 0 0 80 [(0, .ref a0), (1, .int v80_1)] [] := by
    intro v80_1 hv80_1 hq80_0 rel80_0
    obtain ⟨b78867, e78868, h78869⟩ := I.fld (ha0) 14 13 3 rfl
    have hq80_0 := hq80_0 b78867 e78868
    have h78870 := I.rg ha0 7 rfl
    refine g_iload_n C dX12_readLine_80 rfl 1 rfl ?_
    refine b_if_eq C 92 dX12_readLine_81 (by decide) (fun h78871 => ?_) (fun h78871 => ?_)
    · have h78871 : v80_1.toInt = 0 := congrArg Int32.toInt h78871
      refine g_aload_n C dX12_readLine_92 rfl 0 rfl ?_
      refine g_iconst (v := 2) C dX12_readLine_93 (by decide) ?_
      refine g_callVI (rest := []) C mv_X12_172 [.int 2] (s_X12_isWord I (by decide) hW) (ha0).1 (ha0).2 rfl rfl (by decide) (Nat.le_of_ble_eq_true rfl) (by decide) dX12_readLine_94 (fun r78872 Y78873 h78874 => ?_)
      obtain ⟨rfl, h78874⟩ := h78874
      obtain ⟨h78874, hi78875⟩ := h78874
      obtain ⟨b78876, e78877, h78878⟩ := I.fld (ha0) 4 13 1002 rfl
      obtain ⟨b78879, e78880, h78881⟩ := I.fld (ha0) 6 14 1002 rfl
      obtain ⟨b78882, e78883, h78884⟩ := I.fld (ha0) 9 14 4 rfl
      obtain ⟨hi78875, hw78885⟩ := hi78875
      have hi78875 : r78872.toInt = 0 ∨ ((pI P a0 8).toInt = 0 ∧ (pI P a0 7).toInt ≤ 999) := hi78875
      have h78886 := I.rg ha0 8 rfl
      have hw78885 : r78872.toInt = iwA P a0 b78876 b78879 b78882 2 := hw78885 b78876 b78879 b78882 e78877 e78880 e78883
      have h78874 : 0 ≤ r78872.toInt ∧ r78872.toInt ≤ 1 := h78874
      refine b_if_eq C 115 dX12_readLine_97 (by decide) (fun h78887 => ?_) (fun h78887 => ?_)
      · have h78887 : r78872.toInt = 0 := congrArg Int32.toInt h78887
        refine g_lv (lv' := [(0, .ref a0)]) [0] rfl ?_
        obtain ⟨b78888, e78889, h78890⟩ := I.fld (ha0) 15 13 3 rfl
        exact J115 P I EM.rf hW (fun b9 e9 => by rw [e78868] at e9; cases e9; omega) (by show (pI P a0 8).toInt ≤ (pI P a0 8).toInt; omega) (by show (pI P a0 7).toInt = (pI P a0 7).toInt; omega) (by show 1 ≤ (pI P a0 8).toInt ∨ (pI P a0 7).toInt ≤ 999; omega) (by intro b915 b94 b96 b99 e915 e94 e96 e99; rw [e78889] at e915; cases e915; rw [e78877] at e94; cases e94; rw [e78880] at e96; cases e96; rw [e78883] at e99; cases e99; show 1 ≤ (pI P a0 8).toInt ∨ iwA P a0 b78876 b78879 b78882 2 = 0 ∨ (pI P b78888 2).toInt ≤ 3; omega)
      · have h78887 : r78872.toInt ≠ 0 := ti_ne h78887
        refine g_aload_n C dX12_readLine_100 rfl 0 rfl ?_
        obtain ⟨b78891, e78892, h78893⟩ := I.fld (ha0) 15 13 3 rfl
        refine g_getR C fi_X12_60 rfl e78892 (ha0).1 (ha0).2 dX12_readLine_101 ?_
        refine g_iconst (v := 2) C dX12_readLine_104 (by decide) ?_
        refine g_iald (j := 2) C h78893.1 h78893.2.1 (IX.litn (j := 2) h78893.2.2 rfl (by decide) (by decide)) dX12_readLine_105 ?_
        have h78894 := I.arr e78892 rfl 2
        refine g_iconst (v := 4) C dX12_readLine_106 (by decide) ?_
        refine b_icmp_ne C 115 dX12_readLine_107 (by decide) (fun h78895 => ?_) (fun h78895 => ?_)
        · have h78895 : (pI P b78891 2).toInt ≠ 4 := ti_ne h78895
          refine g_lv (lv' := [(0, .ref a0)]) [0] rfl ?_
          exact J115 P I EM.rf hW (fun b9 e9 => by rw [e78868] at e9; cases e9; omega) (by show (pI P a0 8).toInt ≤ (pI P a0 8).toInt; omega) (by show (pI P a0 7).toInt = (pI P a0 7).toInt; omega) (by show 1 ≤ (pI P a0 8).toInt ∨ (pI P a0 7).toInt ≤ 999; omega) (by intro b915 b94 b96 b99 e915 e94 e96 e99; rw [e78892] at e915; cases e915; rw [e78877] at e94; cases e94; rw [e78880] at e96; cases e96; rw [e78883] at e99; cases e99; show 1 ≤ (pI P a0 8).toInt ∨ iwA P a0 b78876 b78879 b78882 2 = 0 ∨ (pI P b78891 2).toInt ≤ 3; omega)
        · have h78895 : (pI P b78891 2).toInt = 4 := congrArg Int32.toInt h78895
          refine g_aload_n C dX12_readLine_110 rfl 0 rfl ?_
          refine g_iconst (v := 5) C dX12_readLine_111 (by decide) ?_
          refine g_callVV (rest := []) C mv_X12_168 [.int 5] (s_X12_wrong I (by decide) hW) (ha0).1 (ha0).2 rfl rfl (by decide) (Nat.le_of_ble_eq_true rfl) (by decide) dX12_readLine_112 (fun Y78897 h78898 => ?_)
          obtain ⟨Iy78899, Xy78900, W78901, p78902, p78903⟩ := h78898
          have p78902 : 1 ≤ (pI Y78897 a0 8).toInt := p78902
          have p78903 : (pI P a0 8).toInt ≤ (pI Y78897 a0 8).toInt := p78903
          have q78904 := Xy78900.keepA e78868 (by decide) rfl 2
          have q78905 := Xy78900.keepF 7 (by decide)
          have q78906 := Xy78900.keepA e78892 (by decide) rfl 2
          have Xz78907 : EM [7, 8, 12, 13, 14, 15, 16, 17] a0 P Y78897 := Xy78900.mono (by decide)
          have e78908 := Xy78900.ref ha0 (by decide) e78868
          have e78909 := Xy78900.ref ha0 (by decide) e78877
          have e78910 := Xy78900.ref ha0 (by decide) e78880
          have e78911 := Xy78900.ref ha0 (by decide) e78883
          have e78912 := Xy78900.ref ha0 (by decide) e78892
          have h78913 := Xy78900.at ha0
          have h78914 := Xy78900.ar h78869
          have h78915 := Xy78900.ar h78878
          have h78916 := Xy78900.ar h78881
          have h78917 := Xy78900.ar h78884
          have h78918 := Xy78900.ar h78893
          have h78919 := Iy78899.rg h78913 8 rfl
          refine g_lv (lv' := [(0, .ref a0)]) [0] rfl ?_
          exact J115 Y78897 Iy78899 Xz78907 W78901 (fun b9 e9 => by rw [e78908] at e9; cases e9; omega) (by show (pI P a0 8).toInt ≤ (pI Y78897 a0 8).toInt; omega) (by show (pI Y78897 a0 7).toInt = (pI P a0 7).toInt; omega) (by show 1 ≤ (pI Y78897 a0 8).toInt ∨ (pI Y78897 a0 7).toInt ≤ 999; omega) (by intro b915 b94 b96 b99 e915 e94 e96 e99; rw [e78912] at e915; cases e915; rw [e78909] at e94; cases e94; rw [e78910] at e96; cases e96; rw [e78911] at e99; cases e99; show 1 ≤ (pI Y78897 a0 8).toInt ∨ iwA Y78897 a0 b78876 b78879 b78882 2 = 0 ∨ (pI Y78897 b78891 2).toInt ≤ 3; omega)
    · have h78871 : v80_1.toInt ≠ 0 := ti_ne h78871
      refine g_aload_n C dX12_readLine_84 rfl 0 rfl ?_
      refine g_iconst (v := 3) C dX12_readLine_85 (by decide) ?_
      refine g_callVV (rest := []) C mv_X12_168 [.int 3] (s_X12_wrong I (by decide) hW) (ha0).1 (ha0).2 rfl rfl (by decide) (Nat.le_of_ble_eq_true rfl) (by decide) dX12_readLine_86 (fun Y78921 h78922 => ?_)
      obtain ⟨Iy78923, Xy78924, W78925, p78926, p78927⟩ := h78922
      have p78926 : 1 ≤ (pI Y78921 a0 8).toInt := p78926
      have p78927 : (pI P a0 8).toInt ≤ (pI Y78921 a0 8).toInt := p78927
      have q78928 := Xy78924.keepA e78868 (by decide) rfl 2
      have q78929 := Xy78924.keepF 7 (by decide)
      have Xz78930 : EM [7, 8, 12, 13, 14, 15, 16, 17] a0 P Y78921 := Xy78924.mono (by decide)
      have e78931 := Xy78924.ref ha0 (by decide) e78868
      have h78932 := Xy78924.at ha0
      have h78933 := Xy78924.ar h78869
      have h78934 := Iy78923.rg h78932 8 rfl
      refine g_goto C 115 dX12_readLine_89 (by decide) ?_
      refine g_lv (lv' := [(0, .ref a0)]) [0] rfl ?_
      obtain ⟨b78935, e78936, h78937⟩ := Iy78923.fld (h78932) 15 13 3 rfl
      obtain ⟨b78938, e78939, h78940⟩ := Iy78923.fld (h78932) 4 13 1002 rfl
      obtain ⟨b78941, e78942, h78943⟩ := Iy78923.fld (h78932) 6 14 1002 rfl
      obtain ⟨b78944, e78945, h78946⟩ := Iy78923.fld (h78932) 9 14 4 rfl
      exact J115 Y78921 Iy78923 Xz78930 W78925 (fun b9 e9 => by rw [e78931] at e9; cases e9; omega) (by show (pI P a0 8).toInt ≤ (pI Y78921 a0 8).toInt; omega) (by show (pI Y78921 a0 7).toInt = (pI P a0 7).toInt; omega) (by show 1 ≤ (pI Y78921 a0 8).toInt ∨ (pI Y78921 a0 7).toInt ≤ 999; omega) (by intro b915 b94 b96 b99 e915 e94 e96 e99; rw [e78936] at e915; cases e915; rw [e78939] at e94; cases e94; rw [e78942] at e96; cases e96; rw [e78945] at e99; cases e99; show 1 ≤ (pI Y78921 a0 8).toInt ∨ iwA Y78921 a0 b78938 b78941 b78944 2 = 0 ∨ (pI Y78921 b78935 2).toInt ≤ 3; omega)
  have J39 : ∀ (v39_s0 : Int32), (0 ≤ v39_s0.toInt ∧ v39_s0.toInt ≤ 1) → (∀ b, pR P a0 14 = some b → 1 ≤ (pI P b 2).toInt ∧ (pI P b 2).toInt ≤ 9) → G E ({ frames := 4, cells := 0, slots := 0, locals := 256 } : Room) D cy 2 P 0 0 39 [(0, .ref a0)] [.int v39_s0] := by
    intro v39_s0 hv39_s0 hq39_0
    obtain ⟨b78947, e78948, h78949⟩ := I.fld (ha0) 14 13 3 rfl
    have hq39_0 := hq39_0 b78947 e78948
    refine g_istore_n (lv' := [(1, .int v39_s0), (0, .ref a0)]) C dX12_readLine_39 rfl (by decide) rfl ?_
    refine g_aload_n C dX12_readLine_40 rfl 1 rfl ?_
    refine g_iconst (v := 0) C dX12_readLine_41 (by decide) ?_
    refine g_callVI (rest := []) C mv_X12_172 [.int 0] (s_X12_isWord I (by decide) hW) (ha0).1 (ha0).2 rfl rfl (by decide) (Nat.le_of_ble_eq_true rfl) (by decide) dX12_readLine_42 (fun r78950 Y78951 h78952 => ?_)
    obtain ⟨rfl, h78952⟩ := h78952
    obtain ⟨h78952, hi78953⟩ := h78952
    obtain ⟨b78954, e78955, h78956⟩ := I.fld (ha0) 4 13 1002 rfl
    obtain ⟨b78957, e78958, h78959⟩ := I.fld (ha0) 6 14 1002 rfl
    obtain ⟨b78960, e78961, h78962⟩ := I.fld (ha0) 9 14 4 rfl
    obtain ⟨hi78953, hw78963⟩ := hi78953
    have hi78953 : r78950.toInt = 0 ∨ ((pI P a0 8).toInt = 0 ∧ (pI P a0 7).toInt ≤ 999) := hi78953
    have h78964 := I.rg ha0 7 rfl
    have h78965 := I.rg ha0 8 rfl
    have hw78963 : r78950.toInt = iwA P a0 b78954 b78957 b78960 0 := hw78963 b78954 b78957 b78960 e78955 e78958 e78961
    have h78952 : 0 ≤ r78950.toInt ∧ r78950.toInt ≤ 1 := h78952
    refine b_if_ne C 80 dX12_readLine_45 (by decide) (fun h78966 => ?_) (fun h78966 => ?_)
    · have h78966 : r78950.toInt ≠ 0 := ti_ne h78966
      refine g_lv (lv' := [(0, .ref a0), (1, .int v39_s0)]) [1, 0] rfl ?_
      exact J80 v39_s0 (by omega) (fun b9 e9 => by rw [e78948] at e9; cases e9; omega) (by show (pI P a0 7).toInt ≤ 999; omega)
    · have h78966 : r78950.toInt = 0 := congrArg Int32.toInt h78966
      refine g_aload_n C dX12_readLine_48 rfl 1 rfl ?_
      refine g_iconst (v := 1) C dX12_readLine_49 (by decide) ?_
      refine g_callVI (rest := []) C mv_X12_172 [.int 1] (s_X12_isWord I (by decide) hW) (ha0).1 (ha0).2 rfl rfl (by decide) (Nat.le_of_ble_eq_true rfl) (by decide) dX12_readLine_50 (fun r78967 Y78968 h78969 => ?_)
      obtain ⟨rfl, h78969⟩ := h78969
      obtain ⟨h78969, hi78970⟩ := h78969
      obtain ⟨hi78970, hw78971⟩ := hi78970
      have hi78970 : r78967.toInt = 0 ∨ ((pI P a0 8).toInt = 0 ∧ (pI P a0 7).toInt ≤ 999) := hi78970
      have hw78971 : r78967.toInt = iwA P a0 b78954 b78957 b78960 1 := hw78971 b78954 b78957 b78960 e78955 e78958 e78961
      have h78969 : 0 ≤ r78967.toInt ∧ r78967.toInt ≤ 1 := h78969
      refine b_if_ne C 80 dX12_readLine_53 (by decide) (fun h78972 => ?_) (fun h78972 => ?_)
      · have h78972 : r78967.toInt ≠ 0 := ti_ne h78972
        refine g_lv (lv' := [(0, .ref a0), (1, .int v39_s0)]) [1, 0] rfl ?_
        exact J80 v39_s0 (by omega) (fun b9 e9 => by rw [e78948] at e9; cases e9; omega) (by show (pI P a0 7).toInt ≤ 999; omega)
      · have h78972 : r78967.toInt = 0 := congrArg Int32.toInt h78972
        refine g_aload_n C dX12_readLine_56 rfl 1 rfl ?_
        refine g_iconst (v := 2) C dX12_readLine_57 (by decide) ?_
        refine g_callVI (rest := []) C mv_X12_172 [.int 2] (s_X12_isWord I (by decide) hW) (ha0).1 (ha0).2 rfl rfl (by decide) (Nat.le_of_ble_eq_true rfl) (by decide) dX12_readLine_58 (fun r78973 Y78974 h78975 => ?_)
        obtain ⟨rfl, h78975⟩ := h78975
        obtain ⟨h78975, hi78976⟩ := h78975
        obtain ⟨hi78976, hw78977⟩ := hi78976
        have hi78976 : r78973.toInt = 0 ∨ ((pI P a0 8).toInt = 0 ∧ (pI P a0 7).toInt ≤ 999) := hi78976
        have hw78977 : r78973.toInt = iwA P a0 b78954 b78957 b78960 2 := hw78977 b78954 b78957 b78960 e78955 e78958 e78961
        have h78975 : 0 ≤ r78973.toInt ∧ r78973.toInt ≤ 1 := h78975
        refine b_if_ne C 80 dX12_readLine_61 (by decide) (fun h78978 => ?_) (fun h78978 => ?_)
        · have h78978 : r78973.toInt ≠ 0 := ti_ne h78978
          refine g_lv (lv' := [(0, .ref a0), (1, .int v39_s0)]) [1, 0] rfl ?_
          exact J80 v39_s0 (by omega) (fun b9 e9 => by rw [e78948] at e9; cases e9; omega) (by show (pI P a0 7).toInt ≤ 999; omega)
        · have h78978 : r78973.toInt = 0 := congrArg Int32.toInt h78978
          refine g_aload_n C dX12_readLine_64 rfl 1 rfl ?_
          refine g_iconst (v := 3) C dX12_readLine_65 (by decide) ?_
          refine g_callVI (rest := []) C mv_X12_172 [.int 3] (s_X12_isWord I (by decide) hW) (ha0).1 (ha0).2 rfl rfl (by decide) (Nat.le_of_ble_eq_true rfl) (by decide) dX12_readLine_66 (fun r78979 Y78980 h78981 => ?_)
          obtain ⟨rfl, h78981⟩ := h78981
          obtain ⟨h78981, hi78982⟩ := h78981
          obtain ⟨hi78982, hw78983⟩ := hi78982
          have hi78982 : r78979.toInt = 0 ∨ ((pI P a0 8).toInt = 0 ∧ (pI P a0 7).toInt ≤ 999) := hi78982
          have hw78983 : r78979.toInt = iwA P a0 b78954 b78957 b78960 3 := hw78983 b78954 b78957 b78960 e78955 e78958 e78961
          have h78981 : 0 ≤ r78979.toInt ∧ r78979.toInt ≤ 1 := h78981
          refine b_if_ne C 80 dX12_readLine_69 (by decide) (fun h78984 => ?_) (fun h78984 => ?_)
          · have h78984 : r78979.toInt ≠ 0 := ti_ne h78984
            refine g_lv (lv' := [(0, .ref a0), (1, .int v39_s0)]) [1, 0] rfl ?_
            exact J80 v39_s0 (by omega) (fun b9 e9 => by rw [e78948] at e9; cases e9; omega) (by show (pI P a0 7).toInt ≤ 999; omega)
          · have h78984 : r78979.toInt = 0 := congrArg Int32.toInt h78984
            refine g_aload_n C dX12_readLine_72 rfl 1 rfl ?_
            refine g_iconst (v := 1) C dX12_readLine_73 (by decide) ?_
            refine g_callVV (rest := []) C mv_X12_168 [.int 1] (s_X12_wrong I (by decide) hW) (ha0).1 (ha0).2 rfl rfl (by decide) (Nat.le_of_ble_eq_true rfl) (by decide) dX12_readLine_74 (fun Y78986 h78987 => ?_)
            obtain ⟨Iy78988, Xy78989, W78990, p78991, p78992⟩ := h78987
            have p78991 : 1 ≤ (pI Y78986 a0 8).toInt := p78991
            have p78992 : (pI P a0 8).toInt ≤ (pI Y78986 a0 8).toInt := p78992
            have q78993 := Xy78989.keepA e78948 (by decide) rfl 2
            have q78994 := Xy78989.keepF 7 (by decide)
            have Xz78995 : EM [7, 8, 12, 13, 14, 15, 16, 17] a0 P Y78986 := Xy78989.mono (by decide)
            have e78996 := Xy78989.ref ha0 (by decide) e78948
            have e78997 := Xy78989.ref ha0 (by decide) e78955
            have e78998 := Xy78989.ref ha0 (by decide) e78958
            have e78999 := Xy78989.ref ha0 (by decide) e78961
            have h79000 := Xy78989.at ha0
            have h79001 := Xy78989.ar h78949
            have h79002 := Xy78989.ar h78956
            have h79003 := Xy78989.ar h78959
            have h79004 := Xy78989.ar h78962
            have h79005 := Iy78988.rg h79000 8 rfl
            refine g_goto C 115 dX12_readLine_77 (by decide) ?_
            refine g_lv (lv' := [(0, .ref a0)]) [1] rfl ?_
            obtain ⟨b79006, e79007, h79008⟩ := Iy78988.fld (h79000) 15 13 3 rfl
            exact J115 Y78986 Iy78988 Xz78995 W78990 (fun b9 e9 => by rw [e78996] at e9; cases e9; omega) (by show (pI P a0 8).toInt ≤ (pI Y78986 a0 8).toInt; omega) (by show (pI Y78986 a0 7).toInt = (pI P a0 7).toInt; omega) (by show 1 ≤ (pI Y78986 a0 8).toInt ∨ (pI Y78986 a0 7).toInt ≤ 999; omega) (by intro b915 b94 b96 b99 e915 e94 e96 e99; rw [e79007] at e915; cases e915; rw [e78997] at e94; cases e94; rw [e78998] at e96; cases e96; rw [e78999] at e99; cases e99; show 1 ≤ (pI Y78986 a0 8).toInt ∨ iwA Y78986 a0 b78954 b78957 b78960 2 = 0 ∨ (pI Y78986 b79006 2).toInt ≤ 3; omega)
  have J38 : (∀ b, pR P a0 14 = some b → 1 ≤ (pI P b 2).toInt ∧ (pI P b 2).toInt ≤ 9) → G E ({ frames := 4, cells := 0, slots := 0, locals := 256 } : Room) D cy 2 P 0 0 38 [(0, .ref a0)] [] := by
    intro hq38_0
    obtain ⟨b79009, e79010, h79011⟩ := I.fld (ha0) 14 13 3 rfl
    have hq38_0 := hq38_0 b79009 e79010
    refine g_iconst (v := 0) C dX12_readLine_38 (by decide) ?_
    exact J39 0 (by decide) (fun b9 e9 => by rw [e79010] at e9; cases e9; omega)
  have J34 : (∀ b, pR P a0 14 = some b → 1 ≤ (pI P b 2).toInt ∧ (pI P b 2).toInt ≤ 9) → G E ({ frames := 4, cells := 0, slots := 0, locals := 256 } : Room) D cy 2 P 0 0 34 [(0, .ref a0)] [] := by
    intro hq34_0
    obtain ⟨b79012, e79013, h79014⟩ := I.fld (ha0) 14 13 3 rfl
    have hq34_0 := hq34_0 b79012 e79013
    refine g_iconst (v := 1) C dX12_readLine_34 (by decide) ?_
    refine g_goto C 39 dX12_readLine_35 (by decide) ?_
    exact J39 1 (by decide) (fun b9 e9 => by rw [e79013] at e9; cases e9; omega)
  have J17 : (∀ b, pR P a0 14 = some b → 1 ≤ (pI P b 2).toInt ∧ (pI P b 2).toInt ≤ 9) → G E ({ frames := 4, cells := 0, slots := 0, locals := 256 } : Room) D cy 2 P 0 0 17 [(0, .ref a0)] [] := by
    intro hq17_0
    obtain ⟨b79015, e79016, h79017⟩ := I.fld (ha0) 14 13 3 rfl
    have hq17_0 := hq17_0 b79015 e79016
    refine g_aload_n C dX12_readLine_17 rfl 0 rfl ?_
    refine g_iconst (v := 3) C dX12_readLine_18 (by decide) ?_
    refine g_callVI (rest := []) C mv_X12_172 [.int 3] (s_X12_isWord I (by decide) hW) (ha0).1 (ha0).2 rfl rfl (by decide) (Nat.le_of_ble_eq_true rfl) (by decide) dX12_readLine_19 (fun r79018 Y79019 h79020 => ?_)
    obtain ⟨rfl, h79020⟩ := h79020
    obtain ⟨h79020, hi79021⟩ := h79020
    obtain ⟨b79022, e79023, h79024⟩ := I.fld (ha0) 4 13 1002 rfl
    obtain ⟨b79025, e79026, h79027⟩ := I.fld (ha0) 6 14 1002 rfl
    obtain ⟨b79028, e79029, h79030⟩ := I.fld (ha0) 9 14 4 rfl
    obtain ⟨hi79021, hw79031⟩ := hi79021
    have hi79021 : r79018.toInt = 0 ∨ ((pI P a0 8).toInt = 0 ∧ (pI P a0 7).toInt ≤ 999) := hi79021
    have h79032 := I.rg ha0 7 rfl
    have h79033 := I.rg ha0 8 rfl
    have hw79031 : r79018.toInt = iwA P a0 b79022 b79025 b79028 3 := hw79031 b79022 b79025 b79028 e79023 e79026 e79029
    have h79020 : 0 ≤ r79018.toInt ∧ r79018.toInt ≤ 1 := h79020
    refine b_if_eq C 38 dX12_readLine_22 (by decide) (fun h79034 => ?_) (fun h79034 => ?_)
    · have h79034 : r79018.toInt = 0 := congrArg Int32.toInt h79034
      exact J38 (fun b9 e9 => by rw [e79016] at e9; cases e9; omega)
    · have h79034 : r79018.toInt ≠ 0 := ti_ne h79034
      refine g_aload_n C dX12_readLine_25 rfl 0 rfl ?_
      obtain ⟨b79035, e79036, h79037⟩ := I.fld (ha0) 17 13 3 rfl
      refine g_getR C fi_X12_66 rfl e79036 (ha0).1 (ha0).2 dX12_readLine_26 ?_
      refine g_iconst (v := 2) C dX12_readLine_29 (by decide) ?_
      refine g_iald (j := 2) C h79037.1 h79037.2.1 (IX.litn (j := 2) h79037.2.2 rfl (by decide) (by decide)) dX12_readLine_30 ?_
      have u79039 := ti_rng (pI P b79035 2)
      refine b_if_le C 38 dX12_readLine_31 (by decide) (fun h79038 => ?_) (fun h79038 => ?_)
      · have h79038 : (pI P b79035 2).toInt ≤ 0 := h79038
        exact J38 (fun b9 e9 => by rw [e79016] at e9; cases e9; omega)
      · have h79038 : 0 < (pI P b79035 2).toInt := h79038
        exact J34 (fun b9 e9 => by rw [e79016] at e9; cases e9; omega)
  obtain ⟨b79040, e79041, h79042⟩ := I.fld (ha0) 14 13 3 rfl
  have hf0 := hf0 b79040 e79041
  have h79043 := I.rg ha0 7 rfl
  have h79044 := I.rg ha0 8 rfl
  refine g_aload_n C dX12_readLine_0 rfl 0 rfl ?_
  refine g_iconst (v := 1) C dX12_readLine_1 (by decide) ?_
  refine g_callVI (rest := []) C mv_X12_172 [.int 1] (s_X12_isWord I (by decide) hW) (ha0).1 (ha0).2 rfl rfl (by decide) (Nat.le_of_ble_eq_true rfl) (by decide) dX12_readLine_2 (fun r79045 Y79046 h79047 => ?_)
  obtain ⟨rfl, h79047⟩ := h79047
  obtain ⟨h79047, hi79048⟩ := h79047
  obtain ⟨b79049, e79050, h79051⟩ := I.fld (ha0) 4 13 1002 rfl
  obtain ⟨b79052, e79053, h79054⟩ := I.fld (ha0) 6 14 1002 rfl
  obtain ⟨b79055, e79056, h79057⟩ := I.fld (ha0) 9 14 4 rfl
  obtain ⟨hi79048, hw79058⟩ := hi79048
  have hi79048 : r79045.toInt = 0 ∨ ((pI P a0 8).toInt = 0 ∧ (pI P a0 7).toInt ≤ 999) := hi79048
  have hw79058 : r79045.toInt = iwA P a0 b79049 b79052 b79055 1 := hw79058 b79049 b79052 b79055 e79050 e79053 e79056
  have h79047 : 0 ≤ r79045.toInt ∧ r79045.toInt ≤ 1 := h79047
  refine b_if_eq C 17 dX12_readLine_5 (by decide) (fun h79059 => ?_) (fun h79059 => ?_)
  · have h79059 : r79045.toInt = 0 := congrArg Int32.toInt h79059
    exact J17 (fun b9 e9 => by rw [e79041] at e9; cases e9; omega)
  · have h79059 : r79045.toInt ≠ 0 := ti_ne h79059
    refine g_aload_n C dX12_readLine_8 rfl 0 rfl ?_
    obtain ⟨b79060, e79061, h79062⟩ := I.fld (ha0) 13 13 3 rfl
    refine g_getR C fi_X12_54 rfl e79061 (ha0).1 (ha0).2 dX12_readLine_9 ?_
    refine g_iconst (v := 2) C dX12_readLine_12 (by decide) ?_
    refine g_iald (j := 2) C h79062.1 h79062.2.1 (IX.litn (j := 2) h79062.2.2 rfl (by decide) (by decide)) dX12_readLine_13 ?_
    have u79064 := ti_rng (pI P b79060 2)
    refine b_if_gt C 34 dX12_readLine_14 (by decide) (fun h79063 => ?_) (fun h79063 => ?_)
    · have h79063 : 0 < (pI P b79060 2).toInt := h79063
      exact J34 (fun b9 e9 => by rw [e79041] at e9; cases e9; omega)
    · have h79063 : (pI P b79060 2).toInt ≤ 0 := h79063
      exact J17 (fun b9 e9 => by rw [e79041] at e9; cases e9; omega)
theorem dX12_draw_70 : decode cX12_draw 70 = .ok (.goto (-23), 3) := by decide +kernel
theorem dX12_draw_73 : decode cX12_draw 73 = .ok (.aload_n 0, 1) := by decide +kernel
theorem dX12_draw_74 : decode cX12_draw 74 = .ok (.getfield 162, 3) := by decide +kernel
theorem dX12_draw_77 : decode cX12_draw 77 = .ok (.ifCond .ne 121, 3) := by decide +kernel
theorem dX12_draw_80 : decode cX12_draw 80 = .ok (.iconst 0, 1) := by decide +kernel
theorem dX12_draw_81 : decode cX12_draw 81 = .ok (.istore_n 2, 1) := by decide +kernel
theorem dX12_draw_82 : decode cX12_draw 82 = .ok (.iload_n 2, 1) := by decide +kernel
theorem dX12_draw_83 : decode cX12_draw 83 = .ok (.bipush 21, 2) := by decide +kernel
theorem dX12_draw_85 : decode cX12_draw 85 = .ok (.if_icmp .ge 29, 3) := by decide +kernel
theorem dX12_draw_88 : decode cX12_draw 88 = .ok (.aload_n 0, 1) := by decide +kernel
theorem dX12_draw_89 : decode cX12_draw 89 = .ok (.getfield 51, 3) := by decide +kernel
theorem dX12_draw_92 : decode cX12_draw 92 = .ok (.bipush 21, 2) := by decide +kernel
theorem dX12_draw_94 : decode cX12_draw 94 = .ok (.iload_n 1, 1) := by decide +kernel
theorem dX12_draw_95 : decode cX12_draw 95 = .ok (.imul, 1) := by decide +kernel
theorem dX12_draw_96 : decode cX12_draw 96 = .ok (.iload_n 2, 1) := by decide +kernel
theorem dX12_draw_97 : decode cX12_draw 97 = .ok (.iadd, 1) := by decide +kernel
theorem dX12_draw_98 : decode cX12_draw 98 = .ok (.aload_n 0, 1) := by decide +kernel
theorem dX12_draw_99 : decode cX12_draw 99 = .ok (.getfield 51, 3) := by decide +kernel
theorem dX12_draw_102 : decode cX12_draw 102 = .ok (.bipush 42, 2) := by decide +kernel
theorem dX12_draw_104 : decode cX12_draw 104 = .ok (.iload_n 2, 1) := by decide +kernel
theorem dX12_draw_105 : decode cX12_draw 105 = .ok (.iadd, 1) := by decide +kernel
theorem dX12_draw_106 : decode cX12_draw 106 = .ok (.iaload, 1) := by decide +kernel
theorem dX12_draw_107 : decode cX12_draw 107 = .ok (.iastore, 1) := by decide +kernel
theorem dX12_draw_108 : decode cX12_draw 108 = .ok (.iinc 2 1, 3) := by decide +kernel
theorem dX12_draw_111 : decode cX12_draw 111 = .ok (.goto (-29), 3) := by decide +kernel
theorem dX12_draw_114 : decode cX12_draw 114 = .ok (.aload_n 0, 1) := by decide +kernel
theorem dX12_draw_115 : decode cX12_draw 115 = .ok (.getfield 54, 3) := by decide +kernel
theorem dX12_draw_118 : decode cX12_draw 118 = .ok (.iload_n 1, 1) := by decide +kernel
theorem dX12_draw_119 : decode cX12_draw 119 = .ok (.aload_n 0, 1) := by decide +kernel
theorem dX12_draw_120 : decode cX12_draw 120 = .ok (.getfield 54, 3) := by decide +kernel
theorem dX12_draw_123 : decode cX12_draw 123 = .ok (.iconst 2, 1) := by decide +kernel
theorem dX12_draw_124 : decode cX12_draw 124 = .ok (.iaload, 1) := by decide +kernel
theorem dX12_draw_125 : decode cX12_draw 125 = .ok (.iastore, 1) := by decide +kernel
theorem dX12_draw_126 : decode cX12_draw 126 = .ok (.aload_n 0, 1) := by decide +kernel
theorem dX12_draw_127 : decode cX12_draw 127 = .ok (.getfield 57, 3) := by decide +kernel
theorem dX12_draw_130 : decode cX12_draw 130 = .ok (.iload_n 1, 1) := by decide +kernel
theorem dX12_draw_131 : decode cX12_draw 131 = .ok (.aload_n 0, 1) := by decide +kernel
theorem dX12_draw_132 : decode cX12_draw 132 = .ok (.getfield 57, 3) := by decide +kernel
theorem dX12_draw_135 : decode cX12_draw 135 = .ok (.iconst 2, 1) := by decide +kernel
theorem dX12_draw_136 : decode cX12_draw 136 = .ok (.iaload, 1) := by decide +kernel
theorem dX12_draw_137 : decode cX12_draw 137 = .ok (.iastore, 1) := by decide +kernel
theorem dX12_draw_138 : decode cX12_draw 138 = .ok (.aload_n 0, 1) := by decide +kernel
theorem dX12_draw_139 : decode cX12_draw 139 = .ok (.getfield 60, 3) := by decide +kernel
theorem dX12_draw_142 : decode cX12_draw 142 = .ok (.iload_n 1, 1) := by decide +kernel
theorem dX12_draw_143 : decode cX12_draw 143 = .ok (.aload_n 0, 1) := by decide +kernel
theorem dX12_draw_144 : decode cX12_draw 144 = .ok (.getfield 60, 3) := by decide +kernel
theorem dX12_draw_147 : decode cX12_draw 147 = .ok (.iconst 2, 1) := by decide +kernel
theorem dX12_draw_148 : decode cX12_draw 148 = .ok (.iaload, 1) := by decide +kernel
theorem dX12_draw_149 : decode cX12_draw 149 = .ok (.iastore, 1) := by decide +kernel
theorem dX12_draw_150 : decode cX12_draw 150 = .ok (.iconst 0, 1) := by decide +kernel
theorem dX12_draw_151 : decode cX12_draw 151 = .ok (.istore_n 2, 1) := by decide +kernel
theorem dX12_draw_152 : decode cX12_draw 152 = .ok (.iload_n 2, 1) := by decide +kernel
theorem dX12_draw_153 : decode cX12_draw 153 = .ok (.iconst 4, 1) := by decide +kernel
theorem dX12_draw_154 : decode cX12_draw 154 = .ok (.if_icmp .ge 28, 3) := by decide +kernel
theorem dX12_draw_157 : decode cX12_draw 157 = .ok (.aload_n 0, 1) := by decide +kernel
theorem dX12_draw_158 : decode cX12_draw 158 = .ok (.getfield 63, 3) := by decide +kernel
theorem dX12_draw_161 : decode cX12_draw 161 = .ok (.iconst 4, 1) := by decide +kernel
theorem dX12_draw_162 : decode cX12_draw 162 = .ok (.iload_n 1, 1) := by decide +kernel
theorem dX12_draw_163 : decode cX12_draw 163 = .ok (.imul, 1) := by decide +kernel
theorem dX12_draw_164 : decode cX12_draw 164 = .ok (.iload_n 2, 1) := by decide +kernel
theorem dX12_draw_165 : decode cX12_draw 165 = .ok (.iadd, 1) := by decide +kernel
theorem dX12_draw_166 : decode cX12_draw 166 = .ok (.aload_n 0, 1) := by decide +kernel
theorem dX12_draw_167 : decode cX12_draw 167 = .ok (.getfield 63, 3) := by decide +kernel
theorem dX12_draw_170 : decode cX12_draw 170 = .ok (.bipush 8, 2) := by decide +kernel
theorem dX12_draw_172 : decode cX12_draw 172 = .ok (.iload_n 2, 1) := by decide +kernel
theorem dX12_draw_173 : decode cX12_draw 173 = .ok (.iadd, 1) := by decide +kernel
theorem dX12_draw_174 : decode cX12_draw 174 = .ok (.iaload, 1) := by decide +kernel
theorem dX12_draw_175 : decode cX12_draw 175 = .ok (.iastore, 1) := by decide +kernel
theorem dX12_draw_176 : decode cX12_draw 176 = .ok (.iinc 2 1, 3) := by decide +kernel
theorem dX12_draw_179 : decode cX12_draw 179 = .ok (.goto (-27), 3) := by decide +kernel
theorem dX12_draw_182 : decode cX12_draw 182 = .ok (.aload_n 0, 1) := by decide +kernel
theorem dX12_draw_183 : decode cX12_draw 183 = .ok (.getfield 66, 3) := by decide +kernel
theorem dX12_draw_186 : decode cX12_draw 186 = .ok (.iload_n 1, 1) := by decide +kernel
theorem dX12_draw_187 : decode cX12_draw 187 = .ok (.aload_n 0, 1) := by decide +kernel
theorem dX12_draw_188 : decode cX12_draw 188 = .ok (.getfield 66, 3) := by decide +kernel
theorem dX12_draw_191 : decode cX12_draw 191 = .ok (.iconst 2, 1) := by decide +kernel
theorem dX12_draw_192 : decode cX12_draw 192 = .ok (.iaload, 1) := by decide +kernel
theorem dX12_draw_193 : decode cX12_draw 193 = .ok (.iastore, 1) := by decide +kernel
theorem dX12_draw_194 : decode cX12_draw 194 = .ok (.aload_n 0, 1) := by decide +kernel
theorem dX12_draw_195 : decode cX12_draw 195 = .ok (.invokevirtual 189, 3) := by decide +kernel
theorem dX12_draw_198 : decode cX12_draw 198 = .ok (.aload_n 0, 1) := by decide +kernel
theorem dX12_draw_199 : decode cX12_draw 199 = .ok (.getfield 162, 3) := by decide +kernel
theorem dX12_draw_202 : decode cX12_draw 202 = .ok (.ireturn, 1) := by decide +kernel
set_option maxHeartbeats 4000000 in
set_option maxRecDepth 100000 in
theorem s_X12_draw {P : PP} {a0 : Nat} {a1 : Int32} (I : IM P a0) (hW : MW P a0) : CtrI yX12_draw cX12_draw 3 (some Jvm.ClassFile.FieldType.int) ({ frames := 5, cells := 0, slots := 0, locals := 320 } : Room) 0 0 P [.ref a0, .int a1] (fun r P2 => IM P2 a0 ∧ EM [0, 2, 3, 4, 5, 7, 8, 12, 13, 14, 15, 16, 17, 18, 26] a0 P P2 ∧ MW P2 a0 ∧ (-1 ≤ r.toInt ∧ r.toInt ≤ 16005)) := by
  refine enI (lv := [(0, .ref a0), (1, .int a1)]) (by decide) (Nat.le_of_ble_eq_true rfl) rfl (fun E D cy C Ci0 ret => ?_)
  have ha0 := I.2.1
  have J198 : ∀ (P198 : PP), (IM P198 a0) → (EM [0, 2, 3, 4, 5, 7, 8, 12, 13, 14, 15, 16, 17, 18, 26] a0 P P198) → (MW P198 a0) → (0 ≤ (pI P198 a0 0).toInt ∧ (pI P198 a0 0).toInt ≤ 0) → (1 ≤ (pI P198 a0 18).toInt ∧ (pI P198 a0 18).toInt ≤ 16) → (0 ≤ (pI P198 a0 8).toInt ∧ (pI P198 a0 8).toInt ≤ 16005) → (∀ b, pR P198 a0 10 = some b → 1 ≤ (pI P198 b (a1.toInt.toNat)).toInt ∧ (pI P198 b (a1.toInt.toNat)).toInt ≤ 16) → G E ({ frames := 5, cells := 0, slots := 0, locals := 320 } : Room) D cy 3 P198 0 0 198 [(0, .ref a0)] [] := by
    intro P198 I198 X198 W198 hq198_0 hq198_1 hq198_2 hq198_3
    have h80025 := X198.at ha0
    obtain ⟨b80026, e80027, h80028⟩ := I198.fld (h80025) 10 13 2 rfl
    have hq198_3 := hq198_3 b80026 e80027
    refine g_aload_n C dX12_draw_198 rfl 0 rfl ?_
    refine g_getI C fi_X12_162 (by decide) (h80025).1 (h80025).2 dX12_draw_199 ?_
    exact ret _ _ _ _ _ _ dX12_draw_202 rfl (by decide) (by decide) ⟨I198, X198, W198, (by omega)⟩
  have J152 : ∀ (n152 : Nat) (P152 : PP) (v152_2 : Int32), (4 - v152_2.toInt).toNat < n152 → (IM P152 a0) → (EM [0, 2, 3, 4, 5, 7, 8, 12, 13, 14, 15, 16, 17, 18, 26] a0 P P152) → (MW P152 a0) → (0 ≤ a1.toInt ∧ a1.toInt ≤ 1) → (0 ≤ v152_2.toInt ∧ v152_2.toInt ≤ 4) → (0 ≤ (pI P152 a0 0).toInt ∧ (pI P152 a0 0).toInt ≤ 0) → (1 ≤ (pI P152 a0 18).toInt ∧ (pI P152 a0 18).toInt ≤ 16) → (0 ≤ (pI P152 a0 8).toInt ∧ (pI P152 a0 8).toInt ≤ 0) → (∀ b, pR P152 a0 10 = some b → 1 ≤ (pI P152 b (a1.toInt.toNat)).toInt ∧ (pI P152 b (a1.toInt.toNat)).toInt ≤ 16) → (∀ b, pR P152 a0 14 = some b → 1 ≤ (pI P152 b (a1.toInt.toNat)).toInt ∧ (pI P152 b (a1.toInt.toNat)).toInt ≤ 9) → G E ({ frames := 5, cells := 0, slots := 0, locals := 320 } : Room) D cy 3 P152 0 0 152 [(0, .ref a0), (1, .int a1), (2, .int v152_2)] [] := by
    intro n152
    induction n152 with
    | zero => intro P152 v152_2 hm152 I152 X152 W152 hv152_1 hv152_2 hq152_0 hq152_1 hq152_2 hq152_3 hq152_4; omega
    | succ n152 ih152 =>
      intro P152 v152_2 hm152 I152 X152 W152 hv152_1 hv152_2 hq152_0 hq152_1 hq152_2 hq152_3 hq152_4
      have h80029 := X152.at ha0
      obtain ⟨b80030, e80031, h80032⟩ := I152.fld (h80029) 10 13 2 rfl
      have hq152_3 := hq152_3 b80030 e80031
      obtain ⟨b80033, e80034, h80035⟩ := I152.fld (h80029) 14 13 3 rfl
      have hq152_4 := hq152_4 b80033 e80034
      refine g_iload_n C dX12_draw_152 rfl 2 rfl ?_
      refine g_iconst (v := 4) C dX12_draw_153 (by decide) ?_
      refine b_icmp_ge C 182 dX12_draw_154 (by decide) (fun h80036 => ?_) (fun h80036 => ?_)
      · have h80036 : 4 ≤ v152_2.toInt := h80036
        refine g_aload_n C dX12_draw_182 rfl 0 rfl ?_
        obtain ⟨b80037, e80038, h80039⟩ := I152.fld (h80029) 17 13 3 rfl
        refine g_getR C fi_X12_66 rfl e80038 (h80029).1 (h80029).2 dX12_draw_183 ?_
        refine g_iload_n C dX12_draw_186 rfl 1 rfl ?_
        refine g_aload_n C dX12_draw_187 rfl 0 rfl ?_
        refine g_getR C fi_X12_66 rfl e80038 (h80029).1 (h80029).2 dX12_draw_188 ?_
        refine g_iconst (v := 2) C dX12_draw_191 (by decide) ?_
        refine g_iald (j := 2) C h80039.1 h80039.2.1 (IX.litn (j := 2) h80039.2.2 rfl (by decide) (by decide)) dX12_draw_192 ?_
        refine g_iast (j := (a1.toInt.toNat)) C h80039.1 h80039.2.1 (ix_in h80039.2.2 (by omega)) dX12_draw_193 ?_
        refine gqW (ks := [17]) (I152.setA e80038 h80039 (by decide) (arOk.none rfl)) (EM.setA I152 e80038 rfl (by decide)) (fun Y80040 Iy80041 Xy80042 w80043  => ?_)
        have w80043 : (pI Y80040 b80037 (a1.toInt.toNat)).toInt = (pI P152 b80037 2).toInt := w80043
        have q80044 := Xy80042.keepF 0 (by decide)
        have q80045 := Xy80042.keepF 18 (by decide)
        have q80046 := Xy80042.keepF 8 (by decide)
        have q80047 := Xy80042.keepA e80031 (by decide) rfl (a1.toInt.toNat)
        have q80048 := Xy80042.keepA e80034 (by decide) rfl (a1.toInt.toNat)
        have W80049 := W152.keep I152 Xy80042 (by decide) (by decide) (by decide) (by decide)
        have Xz80050 : EM [0, 2, 3, 4, 5, 7, 8, 12, 13, 14, 15, 16, 17, 18, 26] a0 P Y80040 := EM.tr ha0 X152 (Xy80042.mono (by decide))
        have e80051 := Xy80042.ref h80029 (by decide) e80031
        have e80052 := Xy80042.ref h80029 (by decide) e80034
        have e80053 := Xy80042.ref h80029 (by decide) e80038
        have h80054 := Xy80042.at h80029
        have h80055 := Xy80042.ar h80032
        have h80056 := Xy80042.ar h80035
        have h80057 := Xy80042.ar h80039
        refine g_aload_n C dX12_draw_194 rfl 0 rfl ?_
        refine g_callVV (rest := []) C mv_X12_189 [] (s_X12_forgetsMarks Iy80041 W80049) (h80054).1 (h80054).2 rfl rfl (by decide) (Nat.le_of_ble_eq_true rfl) (by decide) dX12_draw_195 (fun Y80059 h80060 => ?_)
        obtain ⟨Iy80061, Xy80062, W80063⟩ := h80060
        have q80064 := Xy80062.keepF 0 (by decide)
        have q80065 := Xy80062.keepF 18 (by decide)
        have q80066 := Xy80062.keepF 8 (by decide)
        have q80067 := Xy80062.keepA e80051 (by decide) rfl (a1.toInt.toNat)
        have q80068 := Xy80062.keepA e80052 (by decide) rfl (a1.toInt.toNat)
        have q80069 := Xy80062.keepA e80053 (by decide) rfl (a1.toInt.toNat)
        have Xz80070 : EM [0, 2, 3, 4, 5, 7, 8, 12, 13, 14, 15, 16, 17, 18, 26] a0 P Y80059 := EM.tr ha0 Xz80050 (Xy80062.mono (by decide))
        have e80071 := Xy80062.ref h80054 (by decide) e80051
        have e80072 := Xy80062.ref h80054 (by decide) e80052
        have e80073 := Xy80062.ref h80054 (by decide) e80053
        have h80074 := Xy80062.at h80054
        have h80075 := Xy80062.ar h80055
        have h80076 := Xy80062.ar h80056
        have h80077 := Xy80062.ar h80057
        refine g_lv (lv' := [(0, .ref a0)]) [0] rfl ?_
        exact J198 Y80059 Iy80061 Xz80070 W80063 (by omega) (by omega) (by omega) (fun b9 e9 => by rw [e80071] at e9; cases e9; omega)
      · have h80036 : v152_2.toInt < 4 := h80036
        refine g_aload_n C dX12_draw_157 rfl 0 rfl ?_
        obtain ⟨b80078, e80079, h80080⟩ := I152.fld (h80029) 16 13 12 rfl
        refine g_getR C fi_X12_63 rfl e80079 (h80029).1 (h80029).2 dX12_draw_158 ?_
        refine g_iconst (v := 4) C dX12_draw_161 (by decide) ?_
        refine g_iload_n C dX12_draw_162 rfl 1 rfl ?_
        refine s_imul C dX12_draw_163 (by show -2147483648 ≤ 4 * a1.toInt ∧ 4 * a1.toInt ≤ 2147483647; omega) (fun z80081 h80082 => ?_)
        have h80082 : z80081.toInt = 4 * a1.toInt := h80082
        refine g_iload_n C dX12_draw_164 rfl 2 rfl ?_
        refine s_iadd C dX12_draw_165 (by show -2147483648 ≤ z80081.toInt + v152_2.toInt ∧ z80081.toInt + v152_2.toInt ≤ 2147483647; omega) (fun z80083 h80084 => ?_)
        have h80084 : z80083.toInt = z80081.toInt + v152_2.toInt := h80084
        refine g_aload_n C dX12_draw_166 rfl 0 rfl ?_
        refine g_getR C fi_X12_63 rfl e80079 (h80029).1 (h80029).2 dX12_draw_167 ?_
        refine g_bipush (v := 8) C dX12_draw_170 (by decide) ?_
        refine g_iload_n C dX12_draw_172 rfl 2 rfl ?_
        refine s_iadd C dX12_draw_173 (by show -2147483648 ≤ 8 + v152_2.toInt ∧ 8 + v152_2.toInt ≤ 2147483647; omega) (fun z80085 h80086 => ?_)
        have h80086 : z80085.toInt = 8 + v152_2.toInt := h80086
        refine g_iald (j := (z80085.toInt.toNat)) C h80080.1 h80080.2.1 (ix_in h80080.2.2 (by omega)) dX12_draw_174 ?_
        refine g_iast (j := (z80083.toInt.toNat)) C h80080.1 h80080.2.1 (ix_in h80080.2.2 (by omega)) dX12_draw_175 ?_
        refine gqW (ks := [16]) (I152.setA e80079 h80080 (by decide) (arOk.none rfl)) (EM.setA I152 e80079 rfl (by decide)) (fun Y80087 Iy80088 Xy80089 w80090  => ?_)
        have w80090 : (pI Y80087 b80078 (z80083.toInt.toNat)).toInt = (pI P152 b80078 (z80085.toInt.toNat)).toInt := w80090
        have q80091 := Xy80089.keepF 0 (by decide)
        have q80092 := Xy80089.keepF 18 (by decide)
        have q80093 := Xy80089.keepF 8 (by decide)
        have q80094 := Xy80089.keepA e80031 (by decide) rfl (a1.toInt.toNat)
        have q80095 := Xy80089.keepA e80034 (by decide) rfl (a1.toInt.toNat)
        have W80096 := W152.keep I152 Xy80089 (by decide) (by decide) (by decide) (by decide)
        have Xz80097 : EM [0, 2, 3, 4, 5, 7, 8, 12, 13, 14, 15, 16, 17, 18, 26] a0 P Y80087 := EM.tr ha0 X152 (Xy80089.mono (by decide))
        have e80098 := Xy80089.ref h80029 (by decide) e80031
        have e80099 := Xy80089.ref h80029 (by decide) e80034
        have e80100 := Xy80089.ref h80029 (by decide) e80079
        have h80101 := Xy80089.at h80029
        have h80102 := Xy80089.ar h80032
        have h80103 := Xy80089.ar h80035
        have h80104 := Xy80089.ar h80080
        refine s_iinc (lv0 := [(0, .ref a0), (1, .int a1)]) (m := 1) C dX12_draw_176 2 rfl (by decide) rfl (by decide) (by omega) (fun z80105 h80106 => ?_)
        have h80106 : z80105.toInt = v152_2.toInt + 1 := h80106
        refine g_goto C 152 dX12_draw_179 (by decide) ?_
        refine g_lv (lv' := [(0, .ref a0), (1, .int a1), (2, .int z80105)]) [1, 2, 0] rfl ?_
        exact ih152 Y80087 z80105 (by omega) Iy80088 Xz80097 W80096 (by omega) (by omega) (by omega) (by omega) (by omega) (fun b9 e9 => by rw [e80098] at e9; cases e9; omega) (fun b9 e9 => by rw [e80099] at e9; cases e9; omega)
  have J82 : ∀ (n82 : Nat) (P82 : PP) (v82_2 : Int32), (21 - v82_2.toInt).toNat < n82 → (IM P82 a0) → (EM [0, 2, 3, 4, 5, 7, 8, 12, 13, 14, 15, 16, 17, 18, 26] a0 P P82) → (MW P82 a0) → (0 ≤ a1.toInt ∧ a1.toInt ≤ 1) → (0 ≤ v82_2.toInt ∧ v82_2.toInt ≤ 21) → (0 ≤ (pI P82 a0 0).toInt ∧ (pI P82 a0 0).toInt ≤ 0) → (1 ≤ (pI P82 a0 18).toInt ∧ (pI P82 a0 18).toInt ≤ 16) → (0 ≤ (pI P82 a0 8).toInt ∧ (pI P82 a0 8).toInt ≤ 0) → (∀ b, pR P82 a0 10 = some b → 1 ≤ (pI P82 b (a1.toInt.toNat)).toInt ∧ (pI P82 b (a1.toInt.toNat)).toInt ≤ 16) → (∀ b, pR P82 a0 14 = some b → 1 ≤ (pI P82 b 2).toInt ∧ (pI P82 b 2).toInt ≤ 9) → G E ({ frames := 5, cells := 0, slots := 0, locals := 320 } : Room) D cy 3 P82 0 0 82 [(0, .ref a0), (1, .int a1), (2, .int v82_2)] [] := by
    intro n82
    induction n82 with
    | zero => intro P82 v82_2 hm82 I82 X82 W82 hv82_1 hv82_2 hq82_0 hq82_1 hq82_2 hq82_3 hq82_4; omega
    | succ n82 ih82 =>
      intro P82 v82_2 hm82 I82 X82 W82 hv82_1 hv82_2 hq82_0 hq82_1 hq82_2 hq82_3 hq82_4
      have h80107 := X82.at ha0
      obtain ⟨b80108, e80109, h80110⟩ := I82.fld (h80107) 10 13 2 rfl
      have hq82_3 := hq82_3 b80108 e80109
      obtain ⟨b80111, e80112, h80113⟩ := I82.fld (h80107) 14 13 3 rfl
      have hq82_4 := hq82_4 b80111 e80112
      refine g_iload_n C dX12_draw_82 rfl 2 rfl ?_
      refine g_bipush (v := 21) C dX12_draw_83 (by decide) ?_
      refine b_icmp_ge C 114 dX12_draw_85 (by decide) (fun h80114 => ?_) (fun h80114 => ?_)
      · have h80114 : 21 ≤ v82_2.toInt := h80114
        refine g_aload_n C dX12_draw_114 rfl 0 rfl ?_
        obtain ⟨b80115, e80116, h80117⟩ := I82.fld (h80107) 13 13 3 rfl
        refine g_getR C fi_X12_54 rfl e80116 (h80107).1 (h80107).2 dX12_draw_115 ?_
        refine g_iload_n C dX12_draw_118 rfl 1 rfl ?_
        refine g_aload_n C dX12_draw_119 rfl 0 rfl ?_
        refine g_getR C fi_X12_54 rfl e80116 (h80107).1 (h80107).2 dX12_draw_120 ?_
        refine g_iconst (v := 2) C dX12_draw_123 (by decide) ?_
        refine g_iald (j := 2) C h80117.1 h80117.2.1 (IX.litn (j := 2) h80117.2.2 rfl (by decide) (by decide)) dX12_draw_124 ?_
        refine g_iast (j := (a1.toInt.toNat)) C h80117.1 h80117.2.1 (ix_in h80117.2.2 (by omega)) dX12_draw_125 ?_
        refine gqW (ks := [13]) (I82.setA e80116 h80117 (by decide) (arOk.none rfl)) (EM.setA I82 e80116 rfl (by decide)) (fun Y80118 Iy80119 Xy80120 w80121  => ?_)
        have w80121 : (pI Y80118 b80115 (a1.toInt.toNat)).toInt = (pI P82 b80115 2).toInt := w80121
        have q80122 := Xy80120.keepF 0 (by decide)
        have q80123 := Xy80120.keepF 18 (by decide)
        have q80124 := Xy80120.keepF 8 (by decide)
        have q80125 := Xy80120.keepA e80109 (by decide) rfl (a1.toInt.toNat)
        have q80126 := Xy80120.keepA e80112 (by decide) rfl 2
        have W80127 := W82.keep I82 Xy80120 (by decide) (by decide) (by decide) (by decide)
        have Xz80128 : EM [0, 2, 3, 4, 5, 7, 8, 12, 13, 14, 15, 16, 17, 18, 26] a0 P Y80118 := EM.tr ha0 X82 (Xy80120.mono (by decide))
        have e80129 := Xy80120.ref h80107 (by decide) e80109
        have e80130 := Xy80120.ref h80107 (by decide) e80112
        have e80131 := Xy80120.ref h80107 (by decide) e80116
        have h80132 := Xy80120.at h80107
        have h80133 := Xy80120.ar h80110
        have h80134 := Xy80120.ar h80113
        have h80135 := Xy80120.ar h80117
        refine g_aload_n C dX12_draw_126 rfl 0 rfl ?_
        refine g_getR C fi_X12_57 rfl e80130 (h80132).1 (h80132).2 dX12_draw_127 ?_
        refine g_iload_n C dX12_draw_130 rfl 1 rfl ?_
        refine g_aload_n C dX12_draw_131 rfl 0 rfl ?_
        refine g_getR C fi_X12_57 rfl e80130 (h80132).1 (h80132).2 dX12_draw_132 ?_
        refine g_iconst (v := 2) C dX12_draw_135 (by decide) ?_
        refine g_iald (j := 2) C h80134.1 h80134.2.1 (IX.litn (j := 2) h80134.2.2 rfl (by decide) (by decide)) dX12_draw_136 ?_
        refine g_iast (j := (a1.toInt.toNat)) C h80134.1 h80134.2.1 (ix_in h80134.2.2 (by omega)) dX12_draw_137 ?_
        refine gqX (ks := [14]) (W := (fun Y9 => MW Y9 a0)) (Iy80119.setA e80130 h80134 (by decide) (arOk.of rfl (by omega))) (EM.setA Iy80119 e80130 rfl (by decide)) (W80127.set14 Iy80119 e80130 (by first | exact Or.inl (by omega) | exact Or.inr (by omega))) (fun Y80136 Iy80137 Xy80138 w80139 W80140 => ?_)
        have w80139 : (pI Y80136 b80111 (a1.toInt.toNat)).toInt = (pI Y80118 b80111 2).toInt := w80139
        have q80141 := Xy80138.keepF 0 (by decide)
        have q80142 := Xy80138.keepF 18 (by decide)
        have q80143 := Xy80138.keepF 8 (by decide)
        have q80144 := Xy80138.keepA e80129 (by decide) rfl (a1.toInt.toNat)
        have q80145 := Xy80138.keepA e80131 (by decide) rfl (a1.toInt.toNat)
        have Xz80146 : EM [0, 2, 3, 4, 5, 7, 8, 12, 13, 14, 15, 16, 17, 18, 26] a0 P Y80136 := EM.tr ha0 Xz80128 (Xy80138.mono (by decide))
        have e80147 := Xy80138.ref h80132 (by decide) e80129
        have e80148 := Xy80138.ref h80132 (by decide) e80130
        have e80149 := Xy80138.ref h80132 (by decide) e80131
        have h80150 := Xy80138.at h80132
        have h80151 := Xy80138.ar h80133
        have h80152 := Xy80138.ar h80134
        have h80153 := Xy80138.ar h80135
        refine g_aload_n C dX12_draw_138 rfl 0 rfl ?_
        obtain ⟨b80154, e80155, h80156⟩ := Iy80137.fld (h80150) 15 13 3 rfl
        refine g_getR C fi_X12_60 rfl e80155 (h80150).1 (h80150).2 dX12_draw_139 ?_
        refine g_iload_n C dX12_draw_142 rfl 1 rfl ?_
        refine g_aload_n C dX12_draw_143 rfl 0 rfl ?_
        refine g_getR C fi_X12_60 rfl e80155 (h80150).1 (h80150).2 dX12_draw_144 ?_
        refine g_iconst (v := 2) C dX12_draw_147 (by decide) ?_
        refine g_iald (j := 2) C h80156.1 h80156.2.1 (IX.litn (j := 2) h80156.2.2 rfl (by decide) (by decide)) dX12_draw_148 ?_
        have h80157 := Iy80137.arr e80155 rfl 2
        refine g_iast (j := (a1.toInt.toNat)) C h80156.1 h80156.2.1 (ix_in h80156.2.2 (by omega)) dX12_draw_149 ?_
        refine gqW (ks := [15]) (Iy80137.setA e80155 h80156 (by decide) (arOk.of rfl (by omega))) (EM.setA Iy80137 e80155 rfl (by decide)) (fun Y80158 Iy80159 Xy80160 w80161  => ?_)
        have w80161 : (pI Y80158 b80154 (a1.toInt.toNat)).toInt = (pI Y80136 b80154 2).toInt := w80161
        have q80162 := Xy80160.keepF 0 (by decide)
        have q80163 := Xy80160.keepF 18 (by decide)
        have q80164 := Xy80160.keepF 8 (by decide)
        have q80165 := Xy80160.keepA e80147 (by decide) rfl (a1.toInt.toNat)
        have q80166 := Xy80160.keepA e80149 (by decide) rfl (a1.toInt.toNat)
        have q80167 := Xy80160.keepA e80148 (by decide) rfl (a1.toInt.toNat)
        have W80168 := W80140.keep Iy80137 Xy80160 (by decide) (by decide) (by decide) (by decide)
        have Xz80169 : EM [0, 2, 3, 4, 5, 7, 8, 12, 13, 14, 15, 16, 17, 18, 26] a0 P Y80158 := EM.tr ha0 Xz80146 (Xy80160.mono (by decide))
        have e80170 := Xy80160.ref h80150 (by decide) e80147
        have e80171 := Xy80160.ref h80150 (by decide) e80148
        have e80172 := Xy80160.ref h80150 (by decide) e80149
        have e80173 := Xy80160.ref h80150 (by decide) e80155
        have h80174 := Xy80160.at h80150
        have h80175 := Xy80160.ar h80151
        have h80176 := Xy80160.ar h80152
        have h80177 := Xy80160.ar h80153
        have h80178 := Xy80160.ar h80156
        refine g_iconst (v := 0) C dX12_draw_150 (by decide) ?_
        refine g_istore_n (lv' := [(2, .int 0), (0, .ref a0), (1, .int a1)]) C dX12_draw_151 rfl (by decide) rfl ?_
        refine g_lv (lv' := [(0, .ref a0), (1, .int a1), (2, .int 0)]) [1, 2, 0] rfl ?_
        exact J152 _ Y80158 0 (Nat.lt_succ_self _) Iy80159 Xz80169 W80168 (by omega) (by decide) (by omega) (by omega) (by omega) (fun b9 e9 => by rw [e80170] at e9; cases e9; omega) (fun b9 e9 => by rw [e80171] at e9; cases e9; omega)
      · have h80114 : v82_2.toInt < 21 := h80114
        refine g_aload_n C dX12_draw_88 rfl 0 rfl ?_
        obtain ⟨b80179, e80180, h80181⟩ := I82.fld (h80107) 12 13 63 rfl
        refine g_getR C fi_X12_51 rfl e80180 (h80107).1 (h80107).2 dX12_draw_89 ?_
        refine g_bipush (v := 21) C dX12_draw_92 (by decide) ?_
        refine g_iload_n C dX12_draw_94 rfl 1 rfl ?_
        refine s_imul C dX12_draw_95 (by show -2147483648 ≤ 21 * a1.toInt ∧ 21 * a1.toInt ≤ 2147483647; omega) (fun z80182 h80183 => ?_)
        have h80183 : z80182.toInt = 21 * a1.toInt := h80183
        refine g_iload_n C dX12_draw_96 rfl 2 rfl ?_
        refine s_iadd C dX12_draw_97 (by show -2147483648 ≤ z80182.toInt + v82_2.toInt ∧ z80182.toInt + v82_2.toInt ≤ 2147483647; omega) (fun z80184 h80185 => ?_)
        have h80185 : z80184.toInt = z80182.toInt + v82_2.toInt := h80185
        refine g_aload_n C dX12_draw_98 rfl 0 rfl ?_
        refine g_getR C fi_X12_51 rfl e80180 (h80107).1 (h80107).2 dX12_draw_99 ?_
        refine g_bipush (v := 42) C dX12_draw_102 (by decide) ?_
        refine g_iload_n C dX12_draw_104 rfl 2 rfl ?_
        refine s_iadd C dX12_draw_105 (by show -2147483648 ≤ 42 + v82_2.toInt ∧ 42 + v82_2.toInt ≤ 2147483647; omega) (fun z80186 h80187 => ?_)
        have h80187 : z80186.toInt = 42 + v82_2.toInt := h80187
        refine g_iald (j := (z80186.toInt.toNat)) C h80181.1 h80181.2.1 (ix_in h80181.2.2 (by omega)) dX12_draw_106 ?_
        have h80188 := I82.arr e80180 rfl (z80186.toInt.toNat)
        refine g_iast (j := (z80184.toInt.toNat)) C h80181.1 h80181.2.1 (ix_in h80181.2.2 (by omega)) dX12_draw_107 ?_
        refine gqW (ks := [12]) (I82.setA e80180 h80181 (by decide) (arOk.of rfl (by omega))) (EM.setA I82 e80180 rfl (by decide)) (fun Y80189 Iy80190 Xy80191 w80192  => ?_)
        have w80192 : (pI Y80189 b80179 (z80184.toInt.toNat)).toInt = (pI P82 b80179 (z80186.toInt.toNat)).toInt := w80192
        have q80193 := Xy80191.keepF 0 (by decide)
        have q80194 := Xy80191.keepF 18 (by decide)
        have q80195 := Xy80191.keepF 8 (by decide)
        have q80196 := Xy80191.keepA e80109 (by decide) rfl (a1.toInt.toNat)
        have q80197 := Xy80191.keepA e80112 (by decide) rfl 2
        have W80198 := W82.keep I82 Xy80191 (by decide) (by decide) (by decide) (by decide)
        have Xz80199 : EM [0, 2, 3, 4, 5, 7, 8, 12, 13, 14, 15, 16, 17, 18, 26] a0 P Y80189 := EM.tr ha0 X82 (Xy80191.mono (by decide))
        have e80200 := Xy80191.ref h80107 (by decide) e80109
        have e80201 := Xy80191.ref h80107 (by decide) e80112
        have e80202 := Xy80191.ref h80107 (by decide) e80180
        have h80203 := Xy80191.at h80107
        have h80204 := Xy80191.ar h80110
        have h80205 := Xy80191.ar h80113
        have h80206 := Xy80191.ar h80181
        refine s_iinc (lv0 := [(0, .ref a0), (1, .int a1)]) (m := 1) C dX12_draw_108 2 rfl (by decide) rfl (by decide) (by omega) (fun z80207 h80208 => ?_)
        have h80208 : z80207.toInt = v82_2.toInt + 1 := h80208
        refine g_goto C 82 dX12_draw_111 (by decide) ?_
        refine g_lv (lv' := [(0, .ref a0), (1, .int a1), (2, .int z80207)]) [1, 2, 0] rfl ?_
        exact ih82 Y80189 z80207 (by omega) Iy80190 Xz80199 W80198 (by omega) (by omega) (by omega) (by omega) (by omega) (fun b9 e9 => by rw [e80200] at e9; cases e9; omega) (fun b9 e9 => by rw [e80201] at e9; cases e9; omega)
  have J73 : ∀ (P73 : PP), (IM P73 a0) → (EM [0, 2, 3, 4, 5, 7, 8, 12, 13, 14, 15, 16, 17, 18, 26] a0 P P73) → (MW P73 a0) → (0 ≤ a1.toInt ∧ a1.toInt ≤ 1) → (0 ≤ (pI P73 a0 0).toInt ∧ (pI P73 a0 0).toInt ≤ 0) → (1 ≤ (pI P73 a0 18).toInt ∧ (pI P73 a0 18).toInt ≤ 16) → (0 ≤ (pI P73 a0 8).toInt ∧ (pI P73 a0 8).toInt ≤ 16005) → (∀ b, pR P73 a0 10 = some b → 1 ≤ (pI P73 b (a1.toInt.toNat)).toInt ∧ (pI P73 b (a1.toInt.toNat)).toInt ≤ 16) → (∀ b914, pR P73 a0 14 = some b914 → 1 ≤ (pI P73 a0 8).toInt ∨ 1 ≤ (pI P73 b914 2).toInt) → G E ({ frames := 5, cells := 0, slots := 0, locals := 320 } : Room) D cy 3 P73 0 0 73 [(0, .ref a0), (1, .int a1)] [] := by
    intro P73 I73 X73 W73 hv73_1 hq73_0 hq73_1 hq73_2 hq73_3 rel73_0
    have h80209 := X73.at ha0
    obtain ⟨b80210, e80211, h80212⟩ := I73.fld (h80209) 10 13 2 rfl
    have hq73_3 := hq73_3 b80210 e80211
    obtain ⟨b80213, e80214, h80215⟩ := I73.fld (h80209) 14 13 3 rfl
    have rel73_0 := rel73_0 b80213 e80214
    have h80216 := I73.arr e80214 rfl 2
    have h80217 := I73.rg h80209 7 rfl
    refine g_aload_n C dX12_draw_73 rfl 0 rfl ?_
    refine g_getI C fi_X12_162 (by decide) (h80209).1 (h80209).2 dX12_draw_74 ?_
    refine b_if_ne C 198 dX12_draw_77 (by decide) (fun h80218 => ?_) (fun h80218 => ?_)
    · have h80218 : (pI P73 a0 8).toInt ≠ 0 := ti_ne h80218
      refine g_lv (lv' := [(0, .ref a0)]) [0] rfl ?_
      exact J198 P73 I73 X73 W73 (by omega) (by omega) (by omega) (fun b9 e9 => by rw [e80211] at e9; cases e9; omega)
    · have h80218 : (pI P73 a0 8).toInt = 0 := congrArg Int32.toInt h80218
      refine g_iconst (v := 0) C dX12_draw_80 (by decide) ?_
      refine g_istore_n (lv' := [(2, .int 0), (0, .ref a0), (1, .int a1)]) C dX12_draw_81 rfl (by decide) rfl ?_
      refine g_lv (lv' := [(0, .ref a0), (1, .int a1), (2, .int 0)]) [1, 2, 0] rfl ?_
      exact J82 _ P73 0 (Nat.lt_succ_self _) I73 X73 W73 (by omega) (by decide) (by omega) (by omega) (by omega) (fun b9 e9 => by rw [e80211] at e9; cases e9; omega) (fun b9 e9 => by rw [e80214] at e9; cases e9; omega)
  have J47 : ∀ (n47 : Nat) (P47 : PP), (2 * (1000 - (pI P47 a0 7).toInt) + 1 - min 1 (pI P47 a0 8).toInt).toNat < n47 → (IM P47 a0) → (EM [0, 2, 3, 4, 5, 7, 8, 12, 13, 14, 15, 16, 17, 18, 26] a0 P P47) → (MW P47 a0) → (0 ≤ a1.toInt ∧ a1.toInt ≤ 1) → (0 ≤ (pI P47 a0 0).toInt ∧ (pI P47 a0 0).toInt ≤ 0) → (1 ≤ (pI P47 a0 18).toInt ∧ (pI P47 a0 18).toInt ≤ 16) → (∀ b, pR P47 a0 10 = some b → 1 ≤ (pI P47 b (a1.toInt.toNat)).toInt ∧ (pI P47 b (a1.toInt.toNat)).toInt ≤ 16) → (∀ b914, pR P47 a0 14 = some b914 → 1 ≤ (pI P47 a0 8).toInt ∨ 1 ≤ (pI P47 b914 2).toInt) → G E ({ frames := 5, cells := 0, slots := 0, locals := 320 } : Room) D cy 3 P47 0 0 47 [(0, .ref a0), (1, .int a1)] [] := by
    intro n47
    induction n47 with
    | zero => intro P47 hm47 I47 X47 W47 hv47_1 hq47_0 hq47_1 hq47_2 rel47_0; omega
    | succ n47 ih47 =>
      intro P47 hm47 I47 X47 W47 hv47_1 hq47_0 hq47_1 hq47_2 rel47_0
      have h80219 := X47.at ha0
      obtain ⟨b80220, e80221, h80222⟩ := I47.fld (h80219) 10 13 2 rfl
      have hq47_2 := hq47_2 b80220 e80221
      have h80223 := I47.rg h80219 8 rfl
      obtain ⟨b80224, e80225, h80226⟩ := I47.fld (h80219) 14 13 3 rfl
      have rel47_0 := rel47_0 b80224 e80225
      have h80227 := I47.arr e80225 rfl 2
      have h80228 := I47.rg h80219 7 rfl
      refine g_aload_n C dX12_draw_47 rfl 0 rfl ?_
      refine g_getI C fi_X12_162 (by decide) (h80219).1 (h80219).2 dX12_draw_48 ?_
      refine b_if_ne C 73 dX12_draw_51 (by decide) (fun h80229 => ?_) (fun h80229 => ?_)
      · have h80229 : (pI P47 a0 8).toInt ≠ 0 := ti_ne h80229
        exact J73 P47 I47 X47 W47 (by omega) (by omega) (by omega) (by omega) (fun b9 e9 => by rw [e80221] at e9; cases e9; omega) (by intro b914 e914; rw [e80225] at e914; cases e914; show 1 ≤ (pI P47 a0 8).toInt ∨ 1 ≤ (pI P47 b80224 2).toInt; omega)
      · have h80229 : (pI P47 a0 8).toInt = 0 := congrArg Int32.toInt h80229
        refine g_aload_n C dX12_draw_54 rfl 0 rfl ?_
        obtain ⟨b80230, e80231, h80232⟩ := I47.fld (h80219) 4 13 1002 rfl
        refine g_getR C fi_X12_24 rfl e80231 (h80219).1 (h80219).2 dX12_draw_55 ?_
        refine g_aload_n C dX12_draw_58 rfl 0 rfl ?_
        refine g_getI C fi_X12_159 (by decide) (h80219).1 (h80219).2 dX12_draw_59 ?_
        refine g_iald (j := ((pI P47 a0 7).toInt.toNat)) C h80232.1 h80232.2.1 (ix_in h80232.2.2 (by omega)) dX12_draw_62 ?_
        have h80233 := I47.arr e80231 rfl ((pI P47 a0 7).toInt.toNat)
        refine b_if_eq C 73 dX12_draw_63 (by decide) (fun h80234 => ?_) (fun h80234 => ?_)
        · have h80234 : (pI P47 b80230 ((pI P47 a0 7).toInt.toNat)).toInt = 0 := congrArg Int32.toInt h80234
          exact J73 P47 I47 X47 W47 (by omega) (by omega) (by omega) (by omega) (fun b9 e9 => by rw [e80221] at e9; cases e9; omega) (by intro b914 e914; rw [e80225] at e914; cases e914; show 1 ≤ (pI P47 a0 8).toInt ∨ 1 ≤ (pI P47 b80224 2).toInt; omega)
        · have h80234 : (pI P47 b80230 ((pI P47 a0 7).toInt.toNat)).toInt ≠ 0 := ti_ne h80234
          refine g_aload_n C dX12_draw_66 rfl 0 rfl ?_
          refine g_callVV (rest := []) C mv_X12_205 [] (s_X12_readLine I47 (fun b9 e9 => by rw [e80225] at e9; cases e9; show 1 ≤ (pI P47 b80224 2).toInt ∧ (pI P47 b80224 2).toInt ≤ 9; omega) W47) (h80219).1 (h80219).2 rfl rfl (by decide) (Nat.le_of_ble_eq_true rfl) (by decide) dX12_draw_67 (fun Y80236 h80237 => ?_)
          obtain ⟨Iy80238, Xy80239, W80240, p80241, p80242, p80243, p80244⟩ := h80237
          have p80241 : 1 ≤ (pI Y80236 a0 8).toInt ∨ (pI P47 a0 7).toInt < (pI Y80236 a0 7).toInt := p80241
          have p80242 : (pI P47 a0 7).toInt ≤ (pI Y80236 a0 7).toInt := p80242
          have p80243 : (pI P47 a0 8).toInt ≤ (pI Y80236 a0 8).toInt := p80243
          have q80245 := Xy80239.keepF 0 (by decide)
          have q80246 := Xy80239.keepF 18 (by decide)
          have q80247 := Xy80239.keepA e80221 (by decide) rfl (a1.toInt.toNat)
          have Xz80248 : EM [0, 2, 3, 4, 5, 7, 8, 12, 13, 14, 15, 16, 17, 18, 26] a0 P Y80236 := EM.tr ha0 X47 (Xy80239.mono (by decide))
          have e80249 := Xy80239.ref h80219 (by decide) e80221
          have h80250 := Xy80239.at h80219
          have h80251 := Xy80239.ar h80222
          obtain ⟨b80252, e80253, h80254⟩ := Iy80238.fld (h80250) 14 13 3 rfl
          have p80244 : 1 ≤ (pI Y80236 a0 8).toInt ∨ 1 ≤ (pI Y80236 b80252 2).toInt := p80244 b80252 e80253
          have h80255 := Iy80238.arr e80253 rfl 2
          have h80256 := Iy80238.rg h80250 7 rfl
          have h80257 := Iy80238.rg h80250 8 rfl
          have h80258 := Iy80238.rg h80250 7 rfl
          have h80259 := Iy80238.rg h80250 8 rfl
          have h80260 := Iy80238.rg h80250 7 rfl
          have h80261 := Iy80238.rg h80250 8 rfl
          have h80262 := Iy80238.rg h80250 7 rfl
          have h80263 := Iy80238.rg h80250 8 rfl
          refine g_goto C 47 dX12_draw_70 (by decide) ?_
          exact ih47 Y80236 (by omega) Iy80238 Xz80248 W80240 (by omega) (by omega) (by omega) (fun b9 e9 => by rw [e80249] at e9; cases e9; omega) (by intro b914 e914; rw [e80253] at e914; cases e914; show 1 ≤ (pI Y80236 a0 8).toInt ∨ 1 ≤ (pI Y80236 b80252 2).toInt; omega)
  have J21 : ∀ (P21 : PP), (IM P21 a0) → (EM [0, 2, 3, 4, 5, 7, 8, 12, 13, 14, 15, 16, 17, 18, 26] a0 P P21) → (MW P21 a0) → (0 ≤ (pI P21 a0 0).toInt ∧ (pI P21 a0 0).toInt ≤ 0) → G E ({ frames := 5, cells := 0, slots := 0, locals := 320 } : Room) D cy 3 P21 0 0 21 [(0, .ref a0)] [] := by
    intro P21 I21 X21 W21 hq21_0
    have h80264 := X21.at ha0
    refine g_aload_n C dX12_draw_21 rfl 0 rfl ?_
    refine g_iconst (v := 0) C dX12_draw_22 (by decide) ?_
    refine g_putI C fi_X12_11 rfl (h80264).1 (h80264).2 dX12_draw_23 ?_
    refine gqW (ks := [2]) (I21.setI (rgOk.of rfl (by decide))) (EM.setI I21 (by decide)) (fun Y80265 Iy80266 Xy80267 w80268  => ?_)
    have w80268 : (pI Y80265 a0 2).toInt = 0 := w80268
    have q80269 := Xy80267.keepF 0 (by decide)
    have W80270 := W21.keep I21 Xy80267 (by decide) (by decide) (by decide) (by decide)
    have Xz80271 : EM [0, 2, 3, 4, 5, 7, 8, 12, 13, 14, 15, 16, 17, 18, 26] a0 P Y80265 := EM.tr ha0 X21 (Xy80267.mono (by decide))
    have h80272 := Xy80267.at h80264
    refine g_iconst (v := (-1)) C dX12_draw_26 (by decide) ?_
    exact ret _ _ _ _ _ _ dX12_draw_27 rfl (by decide) (by decide) ⟨Iy80266, Xz80271, W80270, (by decide)⟩
  refine g_aload_n C dX12_draw_0 rfl 0 rfl ?_
  refine g_iconst (v := 0) C dX12_draw_1 (by decide) ?_
  refine g_putI C fi_X12_1 rfl (ha0).1 (ha0).2 dX12_draw_2 ?_
  refine gqW (ks := [0]) (I.setI (rgOk.of rfl (by decide))) (EM.setI I (by decide)) (fun Y80273 Iy80274 Xy80275 w80276  => ?_)
  have w80276 : (pI Y80273 a0 0).toInt = 0 := w80276
  have W80277 := hW.keep I Xy80275 (by decide) (by decide) (by decide) (by decide)
  have Xz80278 : EM [0, 2, 3, 4, 5, 7, 8, 12, 13, 14, 15, 16, 17, 18, 26] a0 P Y80273 := Xy80275.mono (by decide)
  have h80279 := Xy80275.at ha0
  refine g_aload_n C dX12_draw_5 rfl 0 rfl ?_
  refine g_iload_n C dX12_draw_6 rfl 1 rfl ?_
  refine g_callVI (rest := []) C mv_X12_192 [.int a1] (s_X12_isBook Iy80274 W80277) (h80279).1 (h80279).2 rfl rfl (by decide) (Nat.le_of_ble_eq_true rfl) (by decide) dX12_draw_7 (fun r80280 Y80281 h80282 => ?_)
  obtain ⟨rfl, h80282⟩ := h80282
  obtain ⟨h80282, hi80283, hi80284⟩ := h80282
  have hi80283 : r80280.toInt = 0 ∨ (((0 : Int) ≤ a1.toInt ∧ a1.toInt ≤ (1 : Int))) := hi80283
  have h80282 : 0 ≤ r80280.toInt ∧ r80280.toInt ≤ 1 := h80282
  refine b_if_eq C 21 dX12_draw_10 (by decide) (fun h80285 => ?_) (fun h80285 => ?_)
  · have h80285 : r80280.toInt = 0 := congrArg Int32.toInt h80285
    clear hi80283
    refine g_lv (lv' := [(0, .ref a0)]) [0] rfl ?_
    exact J21 Y80273 Iy80274 Xz80278 W80277 (by omega)
  · have h80285 : r80280.toInt ≠ 0 := ti_ne h80285
    replace hi80283 := hi80283.resolve_left (by omega)
    obtain ⟨b80286, e80287, h80288⟩ := Iy80274.fld (h80279) 10 13 2 rfl
    have hi80284 := (hi80284.resolve_left (by omega)) b80286 e80287
    have hi80284 : 0 < (pI Y80273 b80286 (a1.toInt.toNat)).toInt := hi80284
    have h80289 := Iy80274.arr e80287 rfl (a1.toInt.toNat)
    refine g_aload_n C dX12_draw_13 rfl 0 rfl ?_
    refine g_iload_n C dX12_draw_14 rfl 1 rfl ?_
    refine g_callVI (rest := []) C mv_X12_196 [.int a1] (s_X12_isOut Iy80274 W80277) (h80279).1 (h80279).2 rfl rfl (by decide) (Nat.le_of_ble_eq_true rfl) (by decide) dX12_draw_15 (fun r80290 Y80291 h80292 => ?_)
    obtain ⟨rfl, h80292⟩ := h80292
    have h80292 : 0 ≤ r80290.toInt ∧ r80290.toInt ≤ 1 := h80292
    refine b_if_eq C 28 dX12_draw_18 (by decide) (fun h80293 => ?_) (fun h80293 => ?_)
    · have h80293 : r80290.toInt = 0 := congrArg Int32.toInt h80293
      refine g_aload_n C dX12_draw_28 rfl 0 rfl ?_
      refine g_callVV (rest := []) C mv_X12_199 [] (s_X12_cutAll Iy80274 W80277) (h80279).1 (h80279).2 rfl rfl (by decide) (Nat.le_of_ble_eq_true rfl) (by decide) dX12_draw_29 (fun Y80295 h80296 => ?_)
      obtain ⟨Iy80297, Xy80298, W80299⟩ := h80296
      have q80300 := Xy80298.keepF 0 (by decide)
      have q80301 := Xy80298.keepA e80287 (by decide) rfl (a1.toInt.toNat)
      have Xz80302 : EM [0, 2, 3, 4, 5, 7, 8, 12, 13, 14, 15, 16, 17, 18, 26] a0 P Y80295 := EM.tr ha0 Xz80278 (Xy80298.mono (by decide))
      have e80303 := Xy80298.ref h80279 (by decide) e80287
      have h80304 := Xy80298.at h80279
      have h80305 := Xy80298.ar h80288
      refine g_aload_n C dX12_draw_32 rfl 0 rfl ?_
      refine g_iconst (v := 2) C dX12_draw_33 (by decide) ?_
      refine g_callVV (rest := []) C mv_X12_182 [.int 2] (s_X12_forgetsDraw Iy80297 (by decide) W80299) (h80304).1 (h80304).2 rfl rfl (by decide) (Nat.le_of_ble_eq_true rfl) (by decide) dX12_draw_34 (fun Y80307 h80308 => ?_)
      obtain ⟨Iy80309, Xy80310, W80311, p80312⟩ := h80308
      obtain ⟨b80313, e80314, h80315⟩ := Iy80297.fld (h80304) 14 13 3 rfl
      have p80312 := p80312 b80313 e80314
      have p80312 : (pI Y80307 b80313 2).toInt = 1 := p80312
      have h80316 := Iy80297.arr e80314 rfl 2
      have q80317 := Xy80310.keepF 0 (by decide)
      have q80318 := Xy80310.keepA e80303 (by decide) rfl (a1.toInt.toNat)
      have Xz80319 : EM [0, 2, 3, 4, 5, 7, 8, 12, 13, 14, 15, 16, 17, 18, 26] a0 P Y80307 := EM.tr ha0 Xz80302 (Xy80310.mono (by decide))
      have e80320 := Xy80310.ref h80304 (by decide) e80303
      have e80321 := Xy80310.ref h80304 (by decide) e80314
      have h80322 := Xy80310.at h80304
      have h80323 := Xy80310.ar h80305
      have h80324 := Xy80310.ar h80315
      refine g_aload_n C dX12_draw_37 rfl 0 rfl ?_
      refine g_aload_n C dX12_draw_38 rfl 0 rfl ?_
      refine g_getR C fi_X12_45 rfl e80320 (h80322).1 (h80322).2 dX12_draw_39 ?_
      refine g_iload_n C dX12_draw_42 rfl 1 rfl ?_
      refine g_iald (j := (a1.toInt.toNat)) C h80323.1 h80323.2.1 (ix_in h80323.2.2 (by omega)) dX12_draw_43 ?_
      refine g_putI C fi_X12_202 rfl (h80322).1 (h80322).2 dX12_draw_44 ?_
      refine gqW (ks := [18]) (Iy80309.setI (rgOk.of rfl (by omega))) (EM.setI Iy80309 (by decide)) (fun Y80325 Iy80326 Xy80327 w80328  => ?_)
      have w80328 : (pI Y80325 a0 18).toInt = (pI Y80307 b80286 (a1.toInt.toNat)).toInt := w80328
      have q80329 := Xy80327.keepA e80321 (by decide) rfl 2
      have q80330 := Xy80327.keepF 0 (by decide)
      have q80331 := Xy80327.keepA e80320 (by decide) rfl (a1.toInt.toNat)
      have W80332 := W80311.keep Iy80309 Xy80327 (by decide) (by decide) (by decide) (by decide)
      have Xz80333 : EM [0, 2, 3, 4, 5, 7, 8, 12, 13, 14, 15, 16, 17, 18, 26] a0 P Y80325 := EM.tr ha0 Xz80319 (Xy80327.mono (by decide))
      have e80334 := Xy80327.ref h80322 (by decide) e80320
      have e80335 := Xy80327.ref h80322 (by decide) e80321
      have h80336 := Xy80327.at h80322
      have h80337 := Xy80327.ar h80323
      have h80338 := Xy80327.ar h80324
      exact J47 _ Y80325 (Nat.lt_succ_self _) Iy80326 Xz80333 W80332 (by omega) (by omega) (by omega) (fun b9 e9 => by rw [e80334] at e9; cases e9; omega) (by intro b914 e914; rw [e80335] at e914; cases e914; show 1 ≤ (pI Y80325 a0 8).toInt ∨ 1 ≤ (pI Y80325 b80313 2).toInt; omega)
    · have h80293 : r80290.toInt ≠ 0 := ti_ne h80293
      refine g_lv (lv' := [(0, .ref a0)]) [0] rfl ?_
      exact J21 Y80273 Iy80274 Xz80278 W80277 (by omega)
theorem dX12_enough_0 : decode cX12_enough 0 = .ok (.aload_n 0, 1) := by decide +kernel
theorem dX12_enough_1 : decode cX12_enough 1 = .ok (.iconst 0, 1) := by decide +kernel
theorem dX12_enough_2 : decode cX12_enough 2 = .ok (.putfield 1, 3) := by decide +kernel
theorem dX12_enough_5 : decode cX12_enough 5 = .ok (.aload_n 0, 1) := by decide +kernel
theorem dX12_enough_6 : decode cX12_enough 6 = .ok (.iload_n 1, 1) := by decide +kernel
theorem dX12_enough_7 : decode cX12_enough 7 = .ok (.iload_n 2, 1) := by decide +kernel
theorem dX12_enough_8 : decode cX12_enough 8 = .ok (.iload_n 3, 1) := by decide +kernel
theorem dX12_enough_9 : decode cX12_enough 9 = .ok (.invokevirtual 377, 3) := by decide +kernel
theorem dX12_enough_12 : decode cX12_enough 12 = .ok (.ifCond .ne 5, 3) := by decide +kernel
theorem dX12_enough_15 : decode cX12_enough 15 = .ok (.iconst (-1), 1) := by decide +kernel
theorem dX12_enough_16 : decode cX12_enough 16 = .ok (.ireturn, 1) := by decide +kernel
theorem dX12_enough_17 : decode cX12_enough 17 = .ok (.aload_n 0, 1) := by decide +kernel
theorem dX12_enough_18 : decode cX12_enough 18 = .ok (.iload_n 1, 1) := by decide +kernel
theorem dX12_enough_19 : decode cX12_enough 19 = .ok (.iload_n 2, 1) := by decide +kernel
theorem dX12_enough_20 : decode cX12_enough 20 = .ok (.invokevirtual 380, 3) := by decide +kernel
theorem dX12_enough_23 : decode cX12_enough 23 = .ok (.iconst 0, 1) := by decide +kernel
theorem dX12_enough_24 : decode cX12_enough 24 = .ok (.istore 5, 2) := by decide +kernel
theorem dX12_enough_26 : decode cX12_enough 26 = .ok (.iload 5, 2) := by decide +kernel
theorem dX12_enough_28 : decode cX12_enough 28 = .ok (.iload_n 2, 1) := by decide +kernel
theorem dX12_enough_29 : decode cX12_enough 29 = .ok (.if_icmp .gt 55, 3) := by decide +kernel
theorem dX12_enough_32 : decode cX12_enough 32 = .ok (.aload_n 0, 1) := by decide +kernel
theorem dX12_enough_33 : decode cX12_enough 33 = .ok (.iload_n 1, 1) := by decide +kernel
theorem dX12_enough_34 : decode cX12_enough 34 = .ok (.iload_n 2, 1) := by decide +kernel
theorem dX12_enough_35 : decode cX12_enough 35 = .ok (.iload 5, 2) := by decide +kernel
theorem dX12_enough_37 : decode cX12_enough 37 = .ok (.iload_n 3, 1) := by decide +kernel
theorem dX12_enough_38 : decode cX12_enough 38 = .ok (.invokevirtual 383, 3) := by decide +kernel
theorem dX12_enough_41 : decode cX12_enough 41 = .ok (.istore 6, 2) := by decide +kernel
theorem dX12_enough_43 : decode cX12_enough 43 = .ok (.iload 4, 2) := by decide +kernel
theorem dX12_enough_45 : decode cX12_enough 45 = .ok (.ifCond .eq 19, 3) := by decide +kernel
theorem dX12_enough_48 : decode cX12_enough 48 = .ok (.iconst 2, 1) := by decide +kernel
theorem dX12_enough_49 : decode cX12_enough 49 = .ok (.iload 6, 2) := by decide +kernel
theorem dX12_enough_51 : decode cX12_enough 51 = .ok (.imul, 1) := by decide +kernel
theorem dX12_enough_52 : decode cX12_enough 52 = .ok (.iload_n 2, 1) := by decide +kernel
theorem dX12_enough_53 : decode cX12_enough 53 = .ok (.iload 5, 2) := by decide +kernel
theorem dX12_enough_55 : decode cX12_enough 55 = .ok (.invokestatic 387, 3) := by decide +kernel
theorem dX12_enough_58 : decode cX12_enough 58 = .ok (.if_icmp .lt 20, 3) := by decide +kernel
theorem dX12_enough_61 : decode cX12_enough 61 = .ok (.goto 14, 3) := by decide +kernel
theorem dX12_enough_64 : decode cX12_enough 64 = .ok (.iload 6, 2) := by decide +kernel
theorem dX12_enough_66 : decode cX12_enough 66 = .ok (.iload_n 2, 1) := by decide +kernel
theorem dX12_enough_67 : decode cX12_enough 67 = .ok (.iload 5, 2) := by decide +kernel
theorem dX12_enough_69 : decode cX12_enough 69 = .ok (.invokestatic 387, 3) := by decide +kernel
theorem dX12_enough_72 : decode cX12_enough 72 = .ok (.if_icmp .ne 6, 3) := by decide +kernel
theorem dX12_enough_75 : decode cX12_enough 75 = .ok (.iload 5, 2) := by decide +kernel
theorem dX12_enough_77 : decode cX12_enough 77 = .ok (.ireturn, 1) := by decide +kernel
theorem dX12_enough_78 : decode cX12_enough 78 = .ok (.iinc 5 1, 3) := by decide +kernel
theorem dX12_enough_81 : decode cX12_enough 81 = .ok (.goto (-55), 3) := by decide +kernel
theorem dX12_enough_84 : decode cX12_enough 84 = .ok (.iconst (-1), 1) := by decide +kernel
theorem dX12_enough_85 : decode cX12_enough 85 = .ok (.ireturn, 1) := by decide +kernel
set_option maxHeartbeats 4000000 in
set_option maxRecDepth 100000 in
theorem s_X12_enough {P : PP} {a0 : Nat} {a1 : Int32} {a2 : Int32} {a3 : Int32} {a4 : Int32} (I : IM P a0) (ha4 : 0 ≤ a4.toInt ∧ a4.toInt ≤ 1) (hW : MW P a0) : CtrI yX12_enough cX12_enough 7 (some Jvm.ClassFile.FieldType.int) ({ frames := 5, cells := 0, slots := 0, locals := 320 } : Room) 0 0 P [.ref a0, .int a1, .int a2, .int a3, .int a4] (fun r P2 => IM P2 a0 ∧ EM [0, 28, 29, 30, 31, 33, 34, 35, 36, 37, 38, 43] a0 P P2 ∧ MW P2 a0 ∧ (-1 ≤ r.toInt ∧ r.toInt ≤ 11)) := by
  refine enI (lv := [(0, .ref a0), (1, .int a1), (2, .int a2), (3, .int a3), (4, .int a4)]) (by decide) (Nat.le_of_ble_eq_true rfl) rfl (fun E D cy C Ci0 ret => ?_)
  have ha0 := I.2.1
  have J75 : ∀ (P75 : PP) (v75_5 : Int32), (IM P75 a0) → (EM [0, 28, 29, 30, 31, 33, 34, 35, 36, 37, 38, 43] a0 P P75) → (MW P75 a0) → (0 ≤ v75_5.toInt ∧ v75_5.toInt ≤ 11) → (0 ≤ (pI P75 a0 0).toInt ∧ (pI P75 a0 0).toInt ≤ 0) → (∀ b, pR P75 a0 10 = some b → 1 ≤ (pI P75 b (a1.toInt.toNat)).toInt ∧ (pI P75 b (a1.toInt.toNat)).toInt ≤ 16) → G E ({ frames := 5, cells := 0, slots := 0, locals := 320 } : Room) D cy 7 P75 0 0 75 [(5, .int v75_5)] [] := by
    intro P75 v75_5 I75 X75 W75 hv75_5 hq75_0 hq75_1
    have h80798 := X75.at ha0
    obtain ⟨b80799, e80800, h80801⟩ := I75.fld (h80798) 10 13 2 rfl
    have hq75_1 := hq75_1 b80799 e80800
    refine g_iload C dX12_enough_75 0 rfl ?_
    exact ret _ _ _ _ _ _ dX12_enough_77 rfl (by decide) (by decide) ⟨I75, X75, W75, (by omega)⟩
  have J26 : ∀ (n26 : Nat) (P26 : PP) (v26_5 : Int32), (12 - v26_5.toInt).toNat < n26 → (IM P26 a0) → (EM [0, 28, 29, 30, 31, 33, 34, 35, 36, 37, 38, 43] a0 P P26) → (MW P26 a0) → (0 ≤ a1.toInt ∧ a1.toInt ≤ 1) → (1 ≤ a2.toInt ∧ a2.toInt ≤ 11) → (0 ≤ a3.toInt ∧ a3.toInt ≤ 1) → (0 ≤ v26_5.toInt ∧ v26_5.toInt ≤ 12) → (0 ≤ (pI P26 a0 0).toInt ∧ (pI P26 a0 0).toInt ≤ 0) → (∀ b, pR P26 a0 10 = some b → 1 ≤ (pI P26 b (a1.toInt.toNat)).toInt ∧ (pI P26 b (a1.toInt.toNat)).toInt ≤ 16) → G E ({ frames := 5, cells := 0, slots := 0, locals := 320 } : Room) D cy 7 P26 0 0 26 [(0, .ref a0), (1, .int a1), (2, .int a2), (3, .int a3), (4, .int a4), (5, .int v26_5)] [] := by
    intro n26
    induction n26 with
    | zero => intro P26 v26_5 hm26 I26 X26 W26 hv26_1 hv26_2 hv26_3 hv26_5 hq26_0 hq26_1; omega
    | succ n26 ih26 =>
      intro P26 v26_5 hm26 I26 X26 W26 hv26_1 hv26_2 hv26_3 hv26_5 hq26_0 hq26_1
      have h80802 := X26.at ha0
      obtain ⟨b80803, e80804, h80805⟩ := I26.fld (h80802) 10 13 2 rfl
      have hq26_1 := hq26_1 b80803 e80804
      have J78 : ∀ (P78 : PP), (IM P78 a0) → (EM [0, 28, 29, 30, 31, 33, 34, 35, 36, 37, 38, 43] a0 P P78) → (MW P78 a0) → (0 ≤ a1.toInt ∧ a1.toInt ≤ 1) → (1 ≤ a2.toInt ∧ a2.toInt ≤ 11) → (0 ≤ a3.toInt ∧ a3.toInt ≤ 1) → (0 ≤ v26_5.toInt ∧ v26_5.toInt ≤ 11) → (0 ≤ (pI P78 a0 0).toInt ∧ (pI P78 a0 0).toInt ≤ 0) → (∀ b, pR P78 a0 10 = some b → 1 ≤ (pI P78 b (a1.toInt.toNat)).toInt ∧ (pI P78 b (a1.toInt.toNat)).toInt ≤ 16) → G E ({ frames := 5, cells := 0, slots := 0, locals := 320 } : Room) D cy 7 P78 0 0 78 [(0, .ref a0), (1, .int a1), (2, .int a2), (3, .int a3), (4, .int a4), (5, .int v26_5)] [] := by
        intro P78 I78 X78 W78 hv78_1 hv78_2 hv78_3 hv78_5 hq78_0 hq78_1
        have h80806 := X78.at ha0
        obtain ⟨b80807, e80808, h80809⟩ := I78.fld (h80806) 10 13 2 rfl
        have hq78_1 := hq78_1 b80807 e80808
        refine s_iinc (lv0 := [(0, .ref a0), (1, .int a1), (2, .int a2), (3, .int a3), (4, .int a4)]) (m := 1) C dX12_enough_78 5 rfl (by decide) rfl (by decide) (by omega) (fun z80810 h80811 => ?_)
        have h80811 : z80810.toInt = v26_5.toInt + 1 := h80811
        refine g_goto C 26 dX12_enough_81 (by decide) ?_
        refine g_lv (lv' := [(0, .ref a0), (1, .int a1), (2, .int a2), (3, .int a3), (4, .int a4), (5, .int z80810)]) [1, 2, 3, 4, 5, 0] rfl ?_
        exact ih26 P78 z80810 (by omega) I78 X78 W78 (by omega) (by omega) (by omega) (by omega) (by omega) (fun b9 e9 => by rw [e80808] at e9; cases e9; omega)
      refine g_iload C dX12_enough_26 5 rfl ?_
      refine g_iload_n C dX12_enough_28 rfl 2 rfl ?_
      refine b_icmp_gt C 84 dX12_enough_29 (by decide) (fun h80812 => ?_) (fun h80812 => ?_)
      · have h80812 : a2.toInt < v26_5.toInt := h80812
        refine g_iconst (v := (-1)) C dX12_enough_84 (by decide) ?_
        exact ret _ _ _ _ _ _ dX12_enough_85 rfl (by decide) (by decide) ⟨I26, X26, W26, (by decide)⟩
      · have h80812 : v26_5.toInt ≤ a2.toInt := h80812
        refine g_aload_n C dX12_enough_32 rfl 0 rfl ?_
        refine g_iload_n C dX12_enough_33 rfl 1 rfl ?_
        refine g_iload_n C dX12_enough_34 rfl 2 rfl ?_
        refine g_iload C dX12_enough_35 5 rfl ?_
        refine g_iload_n C dX12_enough_37 rfl 3 rfl ?_
        refine g_callVI (rest := []) C mv_X12_383 [.int a1, .int a2, .int v26_5, .int a3] (s_X12_chancesOf I26 (by omega) (by omega) (fun b9 e9 => by rw [e80804] at e9; cases e9; show 1 ≤ (pI P26 b80803 (a1.toInt.toNat)).toInt ∧ (pI P26 b80803 (a1.toInt.toNat)).toInt ≤ 16; omega) W26) (h80802).1 (h80802).2 rfl rfl (by decide) (Nat.le_of_ble_eq_true rfl) (by decide) dX12_enough_38 (fun r80813 Y80814 h80815 => ?_)
        obtain ⟨Iy80816, Xy80817, W80818, h80815⟩ := h80815
        have q80819 := Xy80817.keepF 0 (by decide)
        have q80820 := Xy80817.keepA e80804 (by decide) rfl (a1.toInt.toNat)
        have Xz80821 : EM [0, 28, 29, 30, 31, 33, 34, 35, 36, 37, 38, 43] a0 P Y80814 := EM.tr ha0 X26 (Xy80817.mono (by decide))
        have e80822 := Xy80817.ref h80802 (by decide) e80804
        have h80823 := Xy80817.at h80802
        have h80824 := Xy80817.ar h80805
        have h80815 : True := h80815
        refine g_istore (lv' := [(6, .int r80813), (0, .ref a0), (1, .int a1), (2, .int a2), (3, .int a3), (4, .int a4), (5, .int v26_5)]) C dX12_enough_41 (by decide) rfl ?_
        refine g_iload C dX12_enough_43 5 rfl ?_
        refine b_if_eq C 64 dX12_enough_45 (by decide) (fun h80825 => ?_) (fun h80825 => ?_)
        · have h80825 : a4.toInt = 0 := congrArg Int32.toInt h80825
          refine g_iload C dX12_enough_64 0 rfl ?_
          refine g_iload_n C dX12_enough_66 rfl 3 rfl ?_
          refine g_iload C dX12_enough_67 6 rfl ?_
          refine g_callSI (b := 0) (ci := 0) (rest := [.int r80813]) C ms_X12_387 [.int a2, .int v26_5] (s_X12_choices Iy80816.1 (by omega) (by omega)) rfl rfl (by decide) (Nat.le_of_ble_eq_true rfl) (by decide) dX12_enough_69 (fun r80826 Y80827 h80828 => ?_)
          obtain ⟨rfl, h80828⟩ := h80828
          obtain ⟨h80828, hi80829⟩ := h80828
          have hi80829 : v26_5.toInt ≤ a2.toInt → (1 ≤ r80826.toInt ∧ r80826.toInt ≤ 462) ∧ r80826.toInt.natAbs ∣ 27720 := hi80829
          have h80828 : True := h80828
          have u80831 := ti_rng r80813
          have u80832 := ti_rng r80826
          refine b_icmp_ne C 78 dX12_enough_72 (by decide) (fun h80830 => ?_) (fun h80830 => ?_)
          · have h80830 : r80813.toInt ≠ r80826.toInt := ti_ne h80830
            refine g_lv (lv' := [(0, .ref a0), (1, .int a1), (2, .int a2), (3, .int a3), (4, .int a4), (5, .int v26_5)]) [1, 2, 3, 4, 5, 6] rfl ?_
            exact J78 Y80814 Iy80816 Xz80821 W80818 (by omega) (by omega) (by omega) (by omega) (by omega) (fun b9 e9 => by rw [e80822] at e9; cases e9; omega)
          · have h80830 : r80813.toInt = r80826.toInt := congrArg Int32.toInt h80830
            refine g_lv (lv' := [(5, .int v26_5)]) [6] rfl ?_
            exact J75 Y80814 v26_5 Iy80816 Xz80821 W80818 (by omega) (by omega) (fun b9 e9 => by rw [e80822] at e9; cases e9; omega)
        · have h80825 : a4.toInt ≠ 0 := ti_ne h80825
          refine g_iconst (v := 2) C dX12_enough_48 (by decide) ?_
          refine g_iload C dX12_enough_49 0 rfl ?_
          refine a_imul C dX12_enough_51 (fun z80833 => ?_)
          refine g_iload_n C dX12_enough_52 rfl 3 rfl ?_
          refine g_iload C dX12_enough_53 6 rfl ?_
          refine g_callSI (b := 0) (ci := 0) (rest := [.int z80833]) C ms_X12_387 [.int a2, .int v26_5] (s_X12_choices Iy80816.1 (by omega) (by omega)) rfl rfl (by decide) (Nat.le_of_ble_eq_true rfl) (by decide) dX12_enough_55 (fun r80835 Y80836 h80837 => ?_)
          obtain ⟨rfl, h80837⟩ := h80837
          obtain ⟨h80837, hi80838⟩ := h80837
          have hi80838 : v26_5.toInt ≤ a2.toInt → (1 ≤ r80835.toInt ∧ r80835.toInt ≤ 462) ∧ r80835.toInt.natAbs ∣ 27720 := hi80838
          have h80837 : True := h80837
          have u80840 := ti_rng z80833
          have u80841 := ti_rng r80835
          refine b_icmp_lt C 78 dX12_enough_58 (by decide) (fun h80839 => ?_) (fun h80839 => ?_)
          · have h80839 : z80833.toInt < r80835.toInt := h80839
            refine g_lv (lv' := [(0, .ref a0), (1, .int a1), (2, .int a2), (3, .int a3), (4, .int a4), (5, .int v26_5)]) [1, 2, 3, 4, 5, 6] rfl ?_
            exact J78 Y80814 Iy80816 Xz80821 W80818 (by omega) (by omega) (by omega) (by omega) (by omega) (fun b9 e9 => by rw [e80822] at e9; cases e9; omega)
          · have h80839 : r80835.toInt ≤ z80833.toInt := h80839
            refine g_goto C 75 dX12_enough_61 (by decide) ?_
            refine g_lv (lv' := [(5, .int v26_5)]) [6] rfl ?_
            exact J75 Y80814 v26_5 Iy80816 Xz80821 W80818 (by omega) (by omega) (fun b9 e9 => by rw [e80822] at e9; cases e9; omega)
  refine g_aload_n C dX12_enough_0 rfl 0 rfl ?_
  refine g_iconst (v := 0) C dX12_enough_1 (by decide) ?_
  refine g_putI C fi_X12_1 rfl (ha0).1 (ha0).2 dX12_enough_2 ?_
  refine gqW (ks := [0]) (I.setI (rgOk.of rfl (by decide))) (EM.setI I (by decide)) (fun Y80842 Iy80843 Xy80844 w80845  => ?_)
  have w80845 : (pI Y80842 a0 0).toInt = 0 := w80845
  have W80846 := hW.keep I Xy80844 (by decide) (by decide) (by decide) (by decide)
  have Xz80847 : EM [0, 28, 29, 30, 31, 33, 34, 35, 36, 37, 38, 43] a0 P Y80842 := Xy80844.mono (by decide)
  have h80848 := Xy80844.at ha0
  refine g_aload_n C dX12_enough_5 rfl 0 rfl ?_
  refine g_iload_n C dX12_enough_6 rfl 1 rfl ?_
  refine g_iload_n C dX12_enough_7 rfl 2 rfl ?_
  refine g_iload_n C dX12_enough_8 rfl 3 rfl ?_
  refine g_callVI (rest := []) C mv_X12_377 [.int a1, .int a2, .int a3] (s_X12_areChances Iy80843 W80846) (h80848).1 (h80848).2 rfl rfl (by decide) (Nat.le_of_ble_eq_true rfl) (by decide) dX12_enough_9 (fun r80849 Y80850 h80851 => ?_)
  obtain ⟨rfl, h80851⟩ := h80851
  obtain ⟨h80851, hi80852, hi80853⟩ := h80851
  have hi80852 : r80849.toInt = 0 ∨ (((0 : Int) ≤ a1.toInt ∧ a1.toInt ≤ (1 : Int)) ∧ ((1 : Int) ≤ a2.toInt ∧ a2.toInt ≤ (11 : Int)) ∧ ((0 : Int) ≤ a3.toInt ∧ a3.toInt ≤ (1 : Int))) := hi80852
  have h80851 : 0 ≤ r80849.toInt ∧ r80849.toInt ≤ 1 := h80851
  refine b_if_ne C 17 dX12_enough_12 (by decide) (fun h80854 => ?_) (fun h80854 => ?_)
  · have h80854 : r80849.toInt ≠ 0 := ti_ne h80854
    replace hi80852 := hi80852.resolve_left (by omega)
    obtain ⟨b80855, e80856, h80857⟩ := Iy80843.fld (h80848) 10 13 2 rfl
    have hi80853 := (hi80853.resolve_left (by omega)) b80855 e80856
    have hi80853 : 0 < (pI Y80842 b80855 (a1.toInt.toNat)).toInt := hi80853
    have h80858 := Iy80843.arr e80856 rfl (a1.toInt.toNat)
    refine g_aload_n C dX12_enough_17 rfl 0 rfl ?_
    refine g_iload_n C dX12_enough_18 rfl 1 rfl ?_
    refine g_iload_n C dX12_enough_19 rfl 2 rfl ?_
    refine g_callVV (rest := []) C mv_X12_380 [.int a1, .int a2] (s_X12_keepsSets Iy80843 (by omega) (by omega) (fun b9 e9 => by rw [e80856] at e9; cases e9; show 1 ≤ (pI Y80842 b80855 (a1.toInt.toNat)).toInt ∧ (pI Y80842 b80855 (a1.toInt.toNat)).toInt ≤ 16; omega) W80846) (h80848).1 (h80848).2 rfl rfl (by decide) (Nat.le_of_ble_eq_true rfl) (by decide) dX12_enough_20 (fun Y80860 h80861 => ?_)
    obtain ⟨Iy80862, Xy80863, W80864⟩ := h80861
    have q80865 := Xy80863.keepF 0 (by decide)
    have q80866 := Xy80863.keepA e80856 (by decide) rfl (a1.toInt.toNat)
    have Xz80867 : EM [0, 28, 29, 30, 31, 33, 34, 35, 36, 37, 38, 43] a0 P Y80860 := EM.tr ha0 Xz80847 (Xy80863.mono (by decide))
    have e80868 := Xy80863.ref h80848 (by decide) e80856
    have h80869 := Xy80863.at h80848
    have h80870 := Xy80863.ar h80857
    refine g_iconst (v := 0) C dX12_enough_23 (by decide) ?_
    refine g_istore (lv' := [(5, .int 0), (0, .ref a0), (1, .int a1), (2, .int a2), (3, .int a3), (4, .int a4)]) C dX12_enough_24 (by decide) rfl ?_
    refine g_lv (lv' := [(0, .ref a0), (1, .int a1), (2, .int a2), (3, .int a3), (4, .int a4), (5, .int 0)]) [1, 2, 3, 4, 5, 0] rfl ?_
    exact J26 _ Y80860 0 (Nat.lt_succ_self _) Iy80862 Xz80867 W80864 (by omega) (by omega) (by omega) (by decide) (by omega) (fun b9 e9 => by rw [e80868] at e9; cases e9; omega)
  · have h80854 : r80849.toInt = 0 := congrArg Int32.toInt h80854
    clear hi80852
    refine g_iconst (v := (-1)) C dX12_enough_15 (by decide) ?_
    exact ret _ _ _ _ _ _ dX12_enough_16 rfl (by decide) (by decide) ⟨Iy80843, Xz80847, W80846, (by decide)⟩
theorem dX12_falls_0 : decode cX12_falls 0 = .ok (.iload_n 3, 1) := by decide +kernel
theorem dX12_falls_1 : decode cX12_falls 1 = .ok (.bipush 37, 2) := by decide +kernel
theorem dX12_falls_3 : decode cX12_falls 3 = .ok (.imul, 1) := by decide +kernel
theorem dX12_falls_4 : decode cX12_falls 4 = .ok (.bipush 11, 2) := by decide +kernel
theorem dX12_falls_6 : decode cX12_falls 6 = .ok (.iload_n 2, 1) := by decide +kernel
theorem dX12_falls_7 : decode cX12_falls 7 = .ok (.imul, 1) := by decide +kernel
theorem dX12_falls_8 : decode cX12_falls 8 = .ok (.iadd, 1) := by decide +kernel
theorem dX12_falls_9 : decode cX12_falls 9 = .ok (.bipush 101, 2) := by decide +kernel
theorem dX12_falls_11 : decode cX12_falls 11 = .ok (.iload_n 1, 1) := by decide +kernel
theorem dX12_falls_12 : decode cX12_falls 12 = .ok (.imul, 1) := by decide +kernel
theorem dX12_falls_13 : decode cX12_falls 13 = .ok (.iadd, 1) := by decide +kernel
theorem dX12_falls_14 : decode cX12_falls 14 = .ok (.bipush 13, 2) := by decide +kernel
theorem dX12_falls_16 : decode cX12_falls 16 = .ok (.iadd, 1) := by decide +kernel
theorem dX12_falls_17 : decode cX12_falls 17 = .ok (.bipush 7, 2) := by decide +kernel
theorem dX12_falls_19 : decode cX12_falls 19 = .ok (.imul, 1) := by decide +kernel
theorem dX12_falls_20 : decode cX12_falls 20 = .ok (.bipush 100, 2) := by decide +kernel
theorem dX12_falls_22 : decode cX12_falls 22 = .ok (.irem, 1) := by decide +kernel
theorem dX12_falls_23 : decode cX12_falls 23 = .ok (.aload_n 0, 1) := by decide +kernel
theorem dX12_falls_24 : decode cX12_falls 24 = .ok (.getfield 127, 3) := by decide +kernel
theorem dX12_falls_27 : decode cX12_falls 27 = .ok (.iload_n 1, 1) := by decide +kernel
theorem dX12_falls_28 : decode cX12_falls 28 = .ok (.iaload, 1) := by decide +kernel
theorem dX12_falls_29 : decode cX12_falls 29 = .ok (.if_icmp .lt 7, 3) := by decide +kernel
theorem dX12_falls_32 : decode cX12_falls 32 = .ok (.iconst 1, 1) := by decide +kernel
theorem dX12_falls_33 : decode cX12_falls 33 = .ok (.goto 4, 3) := by decide +kernel
theorem dX12_falls_36 : decode cX12_falls 36 = .ok (.iconst 0, 1) := by decide +kernel
theorem dX12_falls_37 : decode cX12_falls 37 = .ok (.ireturn, 1) := by decide +kernel
set_option maxHeartbeats 4000000 in
set_option maxRecDepth 100000 in
theorem s_X12_falls {P : PP} {a0 : Nat} {a1 : Int32} {a2 : Int32} {a3 : Int32} (I : IM P a0) (ha1 : 0 ≤ a1.toInt ∧ a1.toInt ≤ 3) (hW : MW P a0) : CtrI yX12_falls cX12_falls 4 (some Jvm.ClassFile.FieldType.boolean) ({ frames := 1, cells := 0, slots := 0, locals := 64 } : Room) 0 0 P [.ref a0, .int a1, .int a2, .int a3] (fun r P2 => P = P2 ∧ (0 ≤ r.toInt ∧ r.toInt ≤ 1)) := by
  refine enI (lv := [(0, .ref a0), (1, .int a1), (2, .int a2), (3, .int a3)]) (by decide) (Nat.le_of_ble_eq_true rfl) rfl (fun E D cy C Ci0 ret => ?_)
  have ha0 := I.2.1
  refine g_iload_n C dX12_falls_0 rfl 3 rfl ?_
  refine g_bipush (v := 37) C dX12_falls_1 (by decide) ?_
  refine a_imul C dX12_falls_3 (fun z80892 => ?_)
  refine g_bipush (v := 11) C dX12_falls_4 (by decide) ?_
  refine g_iload_n C dX12_falls_6 rfl 2 rfl ?_
  refine a_imul C dX12_falls_7 (fun z80894 => ?_)
  refine a_iadd C dX12_falls_8 (fun z80896 => ?_)
  refine g_bipush (v := 101) C dX12_falls_9 (by decide) ?_
  refine g_iload_n C dX12_falls_11 rfl 1 rfl ?_
  refine s_imul C dX12_falls_12 (by show -2147483648 ≤ 101 * a1.toInt ∧ 101 * a1.toInt ≤ 2147483647; omega) (fun z80898 h80899 => ?_)
  have h80899 : z80898.toInt = 101 * a1.toInt := h80899
  refine a_iadd C dX12_falls_13 (fun z80900 => ?_)
  refine g_bipush (v := 13) C dX12_falls_14 (by decide) ?_
  refine a_iadd C dX12_falls_16 (fun z80902 => ?_)
  refine g_bipush (v := 7) C dX12_falls_17 (by decide) ?_
  refine a_imul C dX12_falls_19 (fun z80904 => ?_)
  refine g_bipush (v := 100) C dX12_falls_20 (by decide) ?_
  refine s_irem C dX12_falls_22 (by show 0 < 100; omega) (fun z80906 h80907 => ?_)
  have h80907 : -100 < z80906.toInt ∧ z80906.toInt < 100 := h80907
  refine g_aload_n C dX12_falls_23 rfl 0 rfl ?_
  obtain ⟨b80908, e80909, h80910⟩ := I.fld (ha0) 45 13 4 rfl
  refine g_getR C fi_X12_127 rfl e80909 (ha0).1 (ha0).2 dX12_falls_24 ?_
  refine g_iload_n C dX12_falls_27 rfl 1 rfl ?_
  refine g_iald (j := (a1.toInt.toNat)) C h80910.1 h80910.2.1 (ix_in h80910.2.2 (by omega)) dX12_falls_28 ?_
  have u80912 := ti_rng (pI P b80908 (a1.toInt.toNat))
  refine b_icmp_lt C 36 dX12_falls_29 (by decide) (fun h80911 => ?_) (fun h80911 => ?_)
  · have h80911 : z80906.toInt < (pI P b80908 (a1.toInt.toNat)).toInt := h80911
    refine g_iconst (v := 0) C dX12_falls_36 (by decide) ?_
    exact ret _ _ _ _ _ _ dX12_falls_37 rfl (by decide) (by decide) ⟨rfl, (by decide)⟩
  · have h80911 : (pI P b80908 (a1.toInt.toNat)).toInt ≤ z80906.toInt := h80911
    refine g_iconst (v := 1) C dX12_falls_32 (by decide) ?_
    refine g_goto C 37 dX12_falls_33 (by decide) ?_
    exact ret _ _ _ _ _ _ dX12_falls_37 rfl (by decide) (by decide) ⟨rfl, (by decide)⟩
theorem dX12_feed_0 : decode cX12_feed 0 = .ok (.aload_n 0, 1) := by decide +kernel
theorem dX12_feed_1 : decode cX12_feed 1 = .ok (.iconst 0, 1) := by decide +kernel
theorem dX12_feed_2 : decode cX12_feed 2 = .ok (.putfield 1, 3) := by decide +kernel
theorem dX12_feed_5 : decode cX12_feed 5 = .ok (.aload_n 0, 1) := by decide +kernel
theorem dX12_feed_6 : decode cX12_feed 6 = .ok (.lload_n 1, 1) := by decide +kernel
theorem dX12_feed_7 : decode cX12_feed 7 = .ok (.invokevirtual 7, 3) := by decide +kernel
theorem dX12_lay_0 : decode cX12_lay 0 = .ok (.bipush 56, 2) := by decide +kernel
theorem dX12_lay_2 : decode cX12_lay 2 = .ok (.istore_n 3, 1) := by decide +kernel
theorem dX12_lay_3 : decode cX12_lay 3 = .ok (.iload_n 3, 1) := by decide +kernel
theorem dX12_lay_4 : decode cX12_lay 4 = .ok (.ifCond .lt 71, 3) := by decide +kernel
theorem dX12_lay_7 : decode cX12_lay 7 = .ok (.lload_n 1, 1) := by decide +kernel
theorem dX12_lay_8 : decode cX12_lay 8 = .ok (.iload_n 3, 1) := by decide +kernel
theorem dX12_lay_9 : decode cX12_lay 9 = .ok (.lshr, 1) := by decide +kernel
theorem dX12_lay_10 : decode cX12_lay 10 = .ok (.l2i, 1) := by decide +kernel
theorem dX12_lay_11 : decode cX12_lay 11 = .ok (.sipush 255, 3) := by decide +kernel
theorem dX12_lay_14 : decode cX12_lay 14 = .ok (.iand, 1) := by decide +kernel
theorem dX12_lay_15 : decode cX12_lay 15 = .ok (.istore 4, 2) := by decide +kernel
theorem dX12_lay_17 : decode cX12_lay 17 = .ok (.iload 4, 2) := by decide +kernel
theorem dX12_lay_19 : decode cX12_lay 19 = .ok (.bipush 10, 2) := by decide +kernel
theorem dX12_lay_21 : decode cX12_lay 21 = .ok (.if_icmp .eq 17, 3) := by decide +kernel
theorem dX12_lay_24 : decode cX12_lay 24 = .ok (.iload 4, 2) := by decide +kernel
theorem dX12_lay_26 : decode cX12_lay 26 = .ok (.bipush 32, 2) := by decide +kernel
theorem dX12_lay_28 : decode cX12_lay 28 = .ok (.if_icmp .lt 41, 3) := by decide +kernel
theorem dX12_lay_31 : decode cX12_lay 31 = .ok (.iload 4, 2) := by decide +kernel
theorem dX12_lay_33 : decode cX12_lay 33 = .ok (.bipush 126, 2) := by decide +kernel
theorem dX12_lay_35 : decode cX12_lay 35 = .ok (.if_icmp .gt 34, 3) := by decide +kernel
theorem dX12_lay_38 : decode cX12_lay 38 = .ok (.aload_n 0, 1) := by decide +kernel
theorem dX12_lay_39 : decode cX12_lay 39 = .ok (.getfield 11, 3) := by decide +kernel
theorem dX12_lay_42 : decode cX12_lay 42 = .ok (.sipush 1000, 3) := by decide +kernel
theorem dX12_lay_45 : decode cX12_lay 45 = .ok (.if_icmp .ge 24, 3) := by decide +kernel
theorem dX12_lay_48 : decode cX12_lay 48 = .ok (.aload_n 0, 1) := by decide +kernel
theorem dX12_lay_49 : decode cX12_lay 49 = .ok (.getfield 14, 3) := by decide +kernel
theorem dX12_lay_52 : decode cX12_lay 52 = .ok (.aload_n 0, 1) := by decide +kernel
theorem dX12_lay_53 : decode cX12_lay 53 = .ok (.getfield 11, 3) := by decide +kernel
theorem dX12_lay_56 : decode cX12_lay 56 = .ok (.iload 4, 2) := by decide +kernel
theorem dX12_lay_58 : decode cX12_lay 58 = .ok (.iastore, 1) := by decide +kernel
theorem dX12_lay_59 : decode cX12_lay 59 = .ok (.aload_n 0, 1) := by decide +kernel
theorem dX12_lay_60 : decode cX12_lay 60 = .ok (.dup, 1) := by decide +kernel
theorem dX12_lay_61 : decode cX12_lay 61 = .ok (.getfield 11, 3) := by decide +kernel
theorem dX12_lay_64 : decode cX12_lay 64 = .ok (.iconst 1, 1) := by decide +kernel
theorem dX12_lay_65 : decode cX12_lay 65 = .ok (.iadd, 1) := by decide +kernel
theorem dX12_lay_66 : decode cX12_lay 66 = .ok (.putfield 11, 3) := by decide +kernel
theorem dX12_lay_69 : decode cX12_lay 69 = .ok (.iinc 3 (-8), 3) := by decide +kernel
theorem dX12_lay_72 : decode cX12_lay 72 = .ok (.goto (-69), 3) := by decide +kernel
theorem dX12_lay_75 : decode cX12_lay 75 = .ok (.return_, 1) := by decide +kernel
set_option maxHeartbeats 4000000 in
set_option maxRecDepth 100000 in
theorem s_X12_lay {P : PP} {a0 : Nat} {a1 : Int64} (I : IM P a0) (hW : MW P a0) : CtrV yX12_lay cX12_lay 5 none ({ frames := 1, cells := 0, slots := 0, locals := 64 } : Room) 0 0 P [.ref a0, .long a1] (fun P2 => IM P2 a0 ∧ EM [1, 2] a0 P P2 ∧ MW P2 a0) := by
  refine enV (lv := [(0, .ref a0), (1, .long a1)]) (by decide) (Nat.le_of_ble_eq_true rfl) rfl (fun E D cy C Ci0 ret => ?_)
  have ha0 := I.2.1
  have J3 : ∀ (n3 : Nat) (P3 : PP) (v3_3 : Int32), (v3_3.toInt - (-8)).toNat < n3 → (IM P3 a0) → (EM [1, 2] a0 P P3) → (MW P3 a0) → (-8 ≤ v3_3.toInt ∧ v3_3.toInt ≤ 56) → G E ({ frames := 1, cells := 0, slots := 0, locals := 64 } : Room) D cy 5 P3 0 0 3 [(0, .ref a0), (1, .long a1), (3, .int v3_3)] [] := by
    intro n3
    induction n3 with
    | zero => intro P3 v3_3 hm3 I3 X3 W3 hv3_3; omega
    | succ n3 ih3 =>
      intro P3 v3_3 hm3 I3 X3 W3 hv3_3
      have h81163 := X3.at ha0
      have J69 : ∀ (P69 : PP), (IM P69 a0) → (EM [1, 2] a0 P P69) → (MW P69 a0) → (0 ≤ v3_3.toInt ∧ v3_3.toInt ≤ 56) → G E ({ frames := 1, cells := 0, slots := 0, locals := 64 } : Room) D cy 5 P69 0 0 69 [(0, .ref a0), (1, .long a1), (3, .int v3_3)] [] := by
        intro P69 I69 X69 W69 hv69_3
        have h81164 := X69.at ha0
        refine s_iinc (lv0 := [(0, .ref a0), (1, .long a1)]) (m := -8) C dX12_lay_69 2 rfl (by decide) rfl (by decide) (by omega) (fun z81165 h81166 => ?_)
        have h81166 : z81165.toInt = v3_3.toInt + (-8) := h81166
        refine g_goto C 3 dX12_lay_72 (by decide) ?_
        refine g_lv (lv' := [(0, .ref a0), (1, .long a1), (3, .int z81165)]) [1, 2, 0] rfl ?_
        exact ih3 P69 z81165 (by omega) I69 X69 W69 (by omega)
      have J38 : ∀ (v38_4 : Int32), (0 ≤ v3_3.toInt ∧ v3_3.toInt ≤ 56) → (10 ≤ v38_4.toInt ∧ v38_4.toInt ≤ 126) → G E ({ frames := 1, cells := 0, slots := 0, locals := 64 } : Room) D cy 5 P3 0 0 38 [(0, .ref a0), (1, .long a1), (3, .int v3_3), (4, .int v38_4)] [] := by
        intro v38_4 hv38_3 hv38_4
        have h81167 := X3.at ha0
        refine g_aload_n C dX12_lay_38 rfl 0 rfl ?_
        refine g_getI C fi_X12_11 (by decide) (h81167).1 (h81167).2 dX12_lay_39 ?_
        have h81168 := I3.rg (h81167) 2 rfl
        refine g_sipush (v := 1000) C dX12_lay_42 (by decide) ?_
        refine b_icmp_ge C 69 dX12_lay_45 (by decide) (fun h81169 => ?_) (fun h81169 => ?_)
        · have h81169 : 1000 ≤ (pI P3 a0 2).toInt := h81169
          refine g_lv (lv' := [(0, .ref a0), (1, .long a1), (3, .int v3_3)]) [0, 1, 2] rfl ?_
          exact J69 P3 I3 X3 W3 (by omega)
        · have h81169 : (pI P3 a0 2).toInt < 1000 := h81169
          refine g_aload_n C dX12_lay_48 rfl 0 rfl ?_
          obtain ⟨b81170, e81171, h81172⟩ := I3.fld (h81167) 1 13 1000 rfl
          refine g_getR C fi_X12_14 rfl e81171 (h81167).1 (h81167).2 dX12_lay_49 ?_
          refine g_aload_n C dX12_lay_52 rfl 0 rfl ?_
          refine g_getI C fi_X12_11 (by decide) (h81167).1 (h81167).2 dX12_lay_53 ?_
          refine g_iload C dX12_lay_56 3 rfl ?_
          refine g_iast (j := ((pI P3 a0 2).toInt.toNat)) C h81172.1 h81172.2.1 (ix_in h81172.2.2 (by omega)) dX12_lay_58 ?_
          refine gqW (ks := [1]) (I3.setA e81171 h81172 (by decide) (arOk.none rfl)) (EM.setA I3 e81171 rfl (by decide)) (fun Y81173 Iy81174 Xy81175 w81176  => ?_)
          have w81176 : (pI Y81173 b81170 ((pI P3 a0 2).toInt.toNat)).toInt = v38_4.toInt := w81176
          have q81177 := Xy81175.keepF 2 (by decide)
          have W81178 := W3.keep I3 Xy81175 (by decide) (by decide) (by decide) (by decide)
          have Xz81179 : EM [1, 2] a0 P Y81173 := EM.tr ha0 X3 (Xy81175.mono (by decide))
          have h81180 := Xy81175.at h81167
          refine g_aload_n C dX12_lay_59 rfl 0 rfl ?_
          refine g_dup C dX12_lay_60 rfl ?_
          refine g_getI C fi_X12_11 (by decide) (h81180).1 (h81180).2 dX12_lay_61 ?_
          refine g_iconst (v := 1) C dX12_lay_64 (by decide) ?_
          refine s_iadd C dX12_lay_65 (by show -2147483648 ≤ (pI Y81173 a0 2).toInt + 1 ∧ (pI Y81173 a0 2).toInt + 1 ≤ 2147483647; omega) (fun z81181 h81182 => ?_)
          have h81182 : z81181.toInt = (pI Y81173 a0 2).toInt + 1 := h81182
          refine g_putI C fi_X12_11 rfl (h81180).1 (h81180).2 dX12_lay_66 ?_
          refine gqW (ks := [2]) (Iy81174.setI (rgOk.of rfl (by omega))) (EM.setI Iy81174 (by decide)) (fun Y81183 Iy81184 Xy81185 w81186  => ?_)
          have w81186 : (pI Y81183 a0 2).toInt = z81181.toInt := w81186
          have W81187 := W81178.keep Iy81174 Xy81185 (by decide) (by decide) (by decide) (by decide)
          have Xz81188 : EM [1, 2] a0 P Y81183 := EM.tr ha0 Xz81179 (Xy81185.mono (by decide))
          have h81189 := Xy81185.at h81180
          refine g_lv (lv' := [(0, .ref a0), (1, .long a1), (3, .int v3_3)]) [0, 1, 2] rfl ?_
          exact J69 Y81183 Iy81184 Xz81188 W81187 (by omega)
      refine g_iload_n C dX12_lay_3 rfl 2 rfl ?_
      refine b_if_lt C 75 dX12_lay_4 (by decide) (fun h81190 => ?_) (fun h81190 => ?_)
      · have h81190 : v3_3.toInt < 0 := h81190
        exact ret _ _ _ _ _ dX12_lay_75 (by decide) (by decide) ⟨I3, X3, W3⟩
      · have h81190 : 0 ≤ v3_3.toInt := h81190
        refine g_lload_n C dX12_lay_7 rfl 1 rfl ?_
        refine g_iload_n C dX12_lay_8 rfl 2 rfl ?_
        refine a_lshr C dX12_lay_9 (fun l81191 => ?_)
        refine a_l2i C dX12_lay_10 (fun z81192 => ?_)
        refine g_sipush (v := 255) C dX12_lay_11 (by decide) ?_
        refine s_iand C dX12_lay_14 (by show 0 ≤ 255; omega) (fun z81193 h81194 => ?_)
        have h81194 : 0 ≤ z81193.toInt ∧ z81193.toInt ≤ 255 := h81194
        refine g_istore (lv' := [(4, .int z81193), (0, .ref a0), (1, .long a1), (3, .int v3_3)]) C dX12_lay_15 (by decide) rfl ?_
        refine g_iload C dX12_lay_17 0 rfl ?_
        refine g_bipush (v := 10) C dX12_lay_19 (by decide) ?_
        refine b_icmp_eq C 38 dX12_lay_21 (by decide) (fun h81195 => ?_) (fun h81195 => ?_)
        · have h81195 : z81193.toInt = 10 := congrArg Int32.toInt h81195
          refine g_lv (lv' := [(0, .ref a0), (1, .long a1), (3, .int v3_3), (4, .int z81193)]) [1, 2, 3, 0] rfl ?_
          exact J38 z81193 (by omega) (by omega)
        · have h81195 : z81193.toInt ≠ 10 := ti_ne h81195
          refine g_iload C dX12_lay_24 0 rfl ?_
          refine g_bipush (v := 32) C dX12_lay_26 (by decide) ?_
          refine b_icmp_lt C 69 dX12_lay_28 (by decide) (fun h81196 => ?_) (fun h81196 => ?_)
          · have h81196 : z81193.toInt < 32 := h81196
            refine g_lv (lv' := [(0, .ref a0), (1, .long a1), (3, .int v3_3)]) [1, 2, 3] rfl ?_
            exact J69 P3 I3 X3 W3 (by omega)
          · have h81196 : 32 ≤ z81193.toInt := h81196
            refine g_iload C dX12_lay_31 0 rfl ?_
            refine g_bipush (v := 126) C dX12_lay_33 (by decide) ?_
            refine b_icmp_gt C 69 dX12_lay_35 (by decide) (fun h81197 => ?_) (fun h81197 => ?_)
            · have h81197 : 126 < z81193.toInt := h81197
              refine g_lv (lv' := [(0, .ref a0), (1, .long a1), (3, .int v3_3)]) [1, 2, 3] rfl ?_
              exact J69 P3 I3 X3 W3 (by omega)
            · have h81197 : z81193.toInt ≤ 126 := h81197
              refine g_lv (lv' := [(0, .ref a0), (1, .long a1), (3, .int v3_3), (4, .int z81193)]) [1, 2, 3, 0] rfl ?_
              exact J38 z81193 (by omega) (by omega)
  refine g_bipush (v := 56) C dX12_lay_0 (by decide) ?_
  refine g_istore_n (lv' := [(3, .int 56), (0, .ref a0), (1, .long a1)]) C dX12_lay_2 rfl (by decide) rfl ?_
  refine g_lv (lv' := [(0, .ref a0), (1, .long a1), (3, .int 56)]) [1, 2, 0] rfl ?_
  exact J3 _ P 56 (Nat.lt_succ_self _) I EM.rf hW (by decide)
theorem dX12_feed_10 : decode cX12_feed 10 = .ok (.aload_n 0, 1) := by decide +kernel
theorem dX12_feed_11 : decode cX12_feed 11 = .ok (.lload_n 3, 1) := by decide +kernel
theorem dX12_feed_12 : decode cX12_feed 12 = .ok (.invokevirtual 7, 3) := by decide +kernel
theorem dX12_feed_15 : decode cX12_feed 15 = .ok (.aload_n 0, 1) := by decide +kernel
theorem dX12_feed_16 : decode cX12_feed 16 = .ok (.lload 5, 2) := by decide +kernel
theorem dX12_feed_18 : decode cX12_feed 18 = .ok (.invokevirtual 7, 3) := by decide +kernel
theorem dX12_feed_21 : decode cX12_feed 21 = .ok (.aload_n 0, 1) := by decide +kernel
theorem dX12_feed_22 : decode cX12_feed 22 = .ok (.getfield 11, 3) := by decide +kernel
theorem dX12_feed_25 : decode cX12_feed 25 = .ok (.ireturn, 1) := by decide +kernel
set_option maxHeartbeats 4000000 in
set_option maxRecDepth 100000 in
theorem s_X12_feed {P : PP} {a0 : Nat} {a1 : Int64} {a2 : Int64} {a3 : Int64} (I : IM P a0) (hW : MW P a0) : CtrI yX12_feed cX12_feed 7 (some Jvm.ClassFile.FieldType.int) ({ frames := 2, cells := 0, slots := 0, locals := 128 } : Room) 0 0 P [.ref a0, .long a1, .long a2, .long a3] (fun r P2 => IM P2 a0 ∧ EM [0, 1, 2] a0 P P2 ∧ MW P2 a0 ∧ (0 ≤ r.toInt ∧ r.toInt ≤ 1000)) := by
  refine enI (lv := [(0, .ref a0), (1, .long a1), (3, .long a2), (5, .long a3)]) (by decide) (Nat.le_of_ble_eq_true rfl) rfl (fun E D cy C Ci0 ret => ?_)
  have ha0 := I.2.1
  refine g_aload_n C dX12_feed_0 rfl 0 rfl ?_
  refine g_iconst (v := 0) C dX12_feed_1 (by decide) ?_
  refine g_putI C fi_X12_1 rfl (ha0).1 (ha0).2 dX12_feed_2 ?_
  refine gqW (ks := [0]) (I.setI (rgOk.of rfl (by decide))) (EM.setI I (by decide)) (fun Y81233 Iy81234 Xy81235 w81236  => ?_)
  have w81236 : (pI Y81233 a0 0).toInt = 0 := w81236
  have W81237 := hW.keep I Xy81235 (by decide) (by decide) (by decide) (by decide)
  have Xz81238 : EM [0, 1, 2] a0 P Y81233 := Xy81235.mono (by decide)
  have h81239 := Xy81235.at ha0
  refine g_aload_n C dX12_feed_5 rfl 0 rfl ?_
  refine g_lload_n C dX12_feed_6 rfl 1 rfl ?_
  refine g_callVV (rest := []) C mv_X12_7 [.long a1] (s_X12_lay Iy81234 W81237) (h81239).1 (h81239).2 rfl rfl (by decide) (Nat.le_of_ble_eq_true rfl) (by decide) dX12_feed_7 (fun Y81241 h81242 => ?_)
  obtain ⟨Iy81243, Xy81244, W81245⟩ := h81242
  have q81246 := Xy81244.keepF 0 (by decide)
  have Xz81247 : EM [0, 1, 2] a0 P Y81241 := EM.tr ha0 Xz81238 (Xy81244.mono (by decide))
  have h81248 := Xy81244.at h81239
  refine g_aload_n C dX12_feed_10 rfl 0 rfl ?_
  refine g_lload_n C dX12_feed_11 rfl 2 rfl ?_
  refine g_callVV (rest := []) C mv_X12_7 [.long a2] (s_X12_lay Iy81243 W81245) (h81248).1 (h81248).2 rfl rfl (by decide) (Nat.le_of_ble_eq_true rfl) (by decide) dX12_feed_12 (fun Y81250 h81251 => ?_)
  obtain ⟨Iy81252, Xy81253, W81254⟩ := h81251
  have q81255 := Xy81253.keepF 0 (by decide)
  have Xz81256 : EM [0, 1, 2] a0 P Y81250 := EM.tr ha0 Xz81247 (Xy81253.mono (by decide))
  have h81257 := Xy81253.at h81248
  refine g_aload_n C dX12_feed_15 rfl 0 rfl ?_
  refine g_lload C dX12_feed_16 3 rfl ?_
  refine g_callVV (rest := []) C mv_X12_7 [.long a3] (s_X12_lay Iy81252 W81254) (h81257).1 (h81257).2 rfl rfl (by decide) (Nat.le_of_ble_eq_true rfl) (by decide) dX12_feed_18 (fun Y81259 h81260 => ?_)
  obtain ⟨Iy81261, Xy81262, W81263⟩ := h81260
  have q81264 := Xy81262.keepF 0 (by decide)
  have Xz81265 : EM [0, 1, 2] a0 P Y81259 := EM.tr ha0 Xz81256 (Xy81262.mono (by decide))
  have h81266 := Xy81262.at h81257
  refine g_aload_n C dX12_feed_21 rfl 0 rfl ?_
  refine g_getI C fi_X12_11 (by decide) (h81266).1 (h81266).2 dX12_feed_22 ?_
  have h81267 := Iy81261.rg (h81266) 2 rfl
  exact ret _ _ _ _ _ _ dX12_feed_25 rfl (by decide) (by decide) ⟨Iy81261, Xz81265, W81263, (by omega)⟩
