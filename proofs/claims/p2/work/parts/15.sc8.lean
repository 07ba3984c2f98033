theorem dX11_tocome_0 : decode cX11_tocome 0 = .ok (.iload_n 1, 1) := by decide +kernel
theorem dX11_tocome_1 : decode cX11_tocome 1 = .ok (.invokestatic 158, 3) := by decide +kernel
theorem dX11_tocome_4 : decode cX11_tocome 4 = .ok (.ifCond .eq 20, 3) := by decide +kernel
theorem dX11_tocome_7 : decode cX11_tocome 7 = .ok (.aload_n 0, 1) := by decide +kernel
theorem dX11_tocome_8 : decode cX11_tocome 8 = .ok (.iload_n 2, 1) := by decide +kernel
theorem dX11_tocome_9 : decode cX11_tocome 9 = .ok (.invokevirtual 97, 3) := by decide +kernel
theorem dX11_tocome_12 : decode cX11_tocome 12 = .ok (.ifCond .eq 12, 3) := by decide +kernel
theorem dX11_tocome_15 : decode cX11_tocome 15 = .ok (.iload_n 3, 1) := by decide +kernel
theorem dX11_tocome_16 : decode cX11_tocome 16 = .ok (.ifCond .lt 8, 3) := by decide +kernel
theorem dX11_tocome_19 : decode cX11_tocome 19 = .ok (.iload_n 3, 1) := by decide +kernel
theorem dX11_tocome_20 : decode cX11_tocome 20 = .ok (.iconst 1, 1) := by decide +kernel
theorem dX11_tocome_21 : decode cX11_tocome 21 = .ok (.if_icmp .le 5, 3) := by decide +kernel
theorem dX11_tocome_26 : decode cX11_tocome 26 = .ok (.aload_n 0, 1) := by decide +kernel
theorem dX11_tocome_27 : decode cX11_tocome 27 = .ok (.iload_n 1, 1) := by decide +kernel
theorem dX11_tocome_28 : decode cX11_tocome 28 = .ok (.iload_n 2, 1) := by decide +kernel
theorem dX11_tocome_29 : decode cX11_tocome 29 = .ok (.iconst 0, 1) := by decide +kernel
theorem dX11_tocome_30 : decode cX11_tocome 30 = .ok (.invokevirtual 216, 3) := by decide +kernel
theorem dX11_tocome_33 : decode cX11_tocome 33 = .ok (.astore 4, 2) := by decide +kernel
theorem dX11_tocome_35 : decode cX11_tocome 35 = .ok (.aload_n 0, 1) := by decide +kernel
theorem dX11_tocome_36 : decode cX11_tocome 36 = .ok (.iload_n 1, 1) := by decide +kernel
theorem dX11_tocome_37 : decode cX11_tocome 37 = .ok (.iload_n 2, 1) := by decide +kernel
theorem dX11_tocome_38 : decode cX11_tocome 38 = .ok (.iconst 1, 1) := by decide +kernel
theorem dX11_tocome_39 : decode cX11_tocome 39 = .ok (.invokevirtual 216, 3) := by decide +kernel
theorem dX11_tocome_42 : decode cX11_tocome 42 = .ok (.astore 5, 2) := by decide +kernel
theorem dX11_tocome_44 : decode cX11_tocome 44 = .ok (.aload_n 0, 1) := by decide +kernel
theorem dX11_tocome_45 : decode cX11_tocome 45 = .ok (.getfield 67, 3) := by decide +kernel
theorem dX11_tocome_48 : decode cX11_tocome 48 = .ok (.aload_n 0, 1) := by decide +kernel
theorem dX11_tocome_49 : decode cX11_tocome 49 = .ok (.getfield 11, 3) := by decide +kernel
theorem dX11_tocome_52 : decode cX11_tocome 52 = .ok (.iload_n 2, 1) := by decide +kernel
theorem dX11_tocome_53 : decode cX11_tocome 53 = .ok (.aaload, 1) := by decide +kernel
theorem dX11_tocome_54 : decode cX11_tocome 54 = .ok (.aload 4, 2) := by decide +kernel
theorem dX11_tocome_56 : decode cX11_tocome 56 = .ok (.aload 5, 2) := by decide +kernel
theorem dX11_tocome_58 : decode cX11_tocome 58 = .ok (.invokevirtual 279, 3) := by decide +kernel
theorem dX2_find_0 : decode cX2_find 0 = .ok (.aload_n 0, 1) := by decide +kernel
theorem dX2_find_1 : decode cX2_find 1 = .ok (.getfield 21, 3) := by decide +kernel
theorem dX2_find_4 : decode cX2_find 4 = .ok (.aload_n 2, 1) := by decide +kernel
theorem dX2_find_5 : decode cX2_find 5 = .ok (.iconst (-1), 1) := by decide +kernel
theorem dX2_find_6 : decode cX2_find 6 = .ok (.invokevirtual 28, 3) := by decide +kernel
theorem dX2_find_9 : decode cX2_find 9 = .ok (.aload_n 0, 1) := by decide +kernel
theorem dX2_find_10 : decode cX2_find 10 = .ok (.getfield 25, 3) := by decide +kernel
theorem dX2_find_13 : decode cX2_find 13 = .ok (.aload_n 3, 1) := by decide +kernel
theorem dX2_find_14 : decode cX2_find 14 = .ok (.iconst (-1), 1) := by decide +kernel
theorem dX2_find_15 : decode cX2_find 15 = .ok (.invokevirtual 28, 3) := by decide +kernel
theorem dX2_find_18 : decode cX2_find 18 = .ok (.aload_n 0, 1) := by decide +kernel
theorem dX2_find_19 : decode cX2_find 19 = .ok (.getfield 21, 3) := by decide +kernel
theorem dX2_find_22 : decode cX2_find 22 = .ok (.getfield 32, 3) := by decide +kernel
theorem dX2_find_25 : decode cX2_find 25 = .ok (.ifCond .eq 13, 3) := by decide +kernel
theorem dX2_find_28 : decode cX2_find 28 = .ok (.aload_n 0, 1) := by decide +kernel
theorem dX2_find_29 : decode cX2_find 29 = .ok (.getfield 25, 3) := by decide +kernel
theorem dX2_find_32 : decode cX2_find 32 = .ok (.getfield 32, 3) := by decide +kernel
theorem dX2_find_35 : decode cX2_find 35 = .ok (.ifCond .ne 5, 3) := by decide +kernel
theorem dX2_find_38 : decode cX2_find 38 = .ok (.iconst 0, 1) := by decide +kernel
theorem dX2_find_39 : decode cX2_find 39 = .ok (.ireturn, 1) := by decide +kernel
theorem dX2_find_40 : decode cX2_find 40 = .ok (.aload_n 0, 1) := by decide +kernel
theorem dX2_find_41 : decode cX2_find 41 = .ok (.aload_n 1, 1) := by decide +kernel
theorem dX2_find_42 : decode cX2_find 42 = .ok (.invokevirtual 36, 3) := by decide +kernel
theorem dX2_find_45 : decode cX2_find 45 = .ok (.putfield 42, 3) := by decide +kernel
theorem dX2_find_48 : decode cX2_find 48 = .ok (.aload_n 0, 1) := by decide +kernel
theorem dX2_find_49 : decode cX2_find 49 = .ok (.bipush 12, 2) := by decide +kernel
theorem dX2_find_51 : decode cX2_find 51 = .ok (.putfield 45, 3) := by decide +kernel
theorem dX2_find_54 : decode cX2_find 54 = .ok (.aload_n 0, 1) := by decide +kernel
theorem dX2_find_55 : decode cX2_find 55 = .ok (.iconst 0, 1) := by decide +kernel
theorem dX2_find_56 : decode cX2_find 56 = .ok (.putfield 48, 3) := by decide +kernel
theorem dX2_find_59 : decode cX2_find 59 = .ok (.iconst 0, 1) := by decide +kernel
theorem dX2_find_60 : decode cX2_find 60 = .ok (.istore 4, 2) := by decide +kernel
theorem dX2_find_62 : decode cX2_find 62 = .ok (.iload 4, 2) := by decide +kernel
theorem dX2_find_64 : decode cX2_find 64 = .ok (.bipush 11, 2) := by decide +kernel
theorem dX2_find_66 : decode cX2_find 66 = .ok (.if_icmp .ge 62, 3) := by decide +kernel
theorem dX2_find_69 : decode cX2_find 69 = .ok (.aload_n 1, 1) := by decide +kernel
theorem dX2_find_70 : decode cX2_find 70 = .ok (.iload 4, 2) := by decide +kernel
theorem dX2_find_72 : decode cX2_find 72 = .ok (.invokevirtual 51, 3) := by decide +kernel
theorem dX2_find_75 : decode cX2_find 75 = .ok (.istore 5, 2) := by decide +kernel
theorem dX2_find_77 : decode cX2_find 77 = .ok (.aload_n 1, 1) := by decide +kernel
theorem dX2_find_78 : decode cX2_find 78 = .ok (.iload 5, 2) := by decide +kernel
theorem dX2_find_80 : decode cX2_find 80 = .ok (.invokevirtual 55, 3) := by decide +kernel
theorem dX2_find_83 : decode cX2_find 83 = .ok (.istore 6, 2) := by decide +kernel
theorem dX2_find_85 : decode cX2_find 85 = .ok (.aload_n 0, 1) := by decide +kernel
theorem dX2_find_86 : decode cX2_find 86 = .ok (.getfield 9, 3) := by decide +kernel
theorem dX2_find_89 : decode cX2_find 89 = .ok (.iload 4, 2) := by decide +kernel
theorem dX2_find_91 : decode cX2_find 91 = .ok (.iload 5, 2) := by decide +kernel
theorem dX2_find_93 : decode cX2_find 93 = .ok (.iload 6, 2) := by decide +kernel
theorem dX2_find_95 : decode cX2_find 95 = .ok (.sipush 255, 3) := by decide +kernel
theorem dX2_find_98 : decode cX2_find 98 = .ok (.iand, 1) := by decide +kernel
theorem dX2_find_99 : decode cX2_find 99 = .ok (.bipush 20, 2) := by decide +kernel
theorem dX2_find_101 : decode cX2_find 101 = .ok (.ishl, 1) := by decide +kernel
theorem dX2_find_102 : decode cX2_find 102 = .ok (.ior, 1) := by decide +kernel
theorem dX2_find_103 : decode cX2_find 103 = .ok (.iastore, 1) := by decide +kernel
theorem dX2_find_104 : decode cX2_find 104 = .ok (.aload_n 0, 1) := by decide +kernel
theorem dX2_find_105 : decode cX2_find 105 = .ok (.getfield 15, 3) := by decide +kernel
theorem dX2_find_108 : decode cX2_find 108 = .ok (.iload 4, 2) := by decide +kernel
theorem dX2_find_110 : decode cX2_find 110 = .ok (.iload 5, 2) := by decide +kernel
theorem dX2_find_112 : decode cX2_find 112 = .ok (.iload 6, 2) := by decide +kernel
theorem dX2_find_114 : decode cX2_find 114 = .ok (.bipush 8, 2) := by decide +kernel
theorem dX2_find_116 : decode cX2_find 116 = .ok (.ishr, 1) := by decide +kernel
theorem dX2_find_117 : decode cX2_find 117 = .ok (.bipush 20, 2) := by decide +kernel
theorem dX2_find_119 : decode cX2_find 119 = .ok (.ishl, 1) := by decide +kernel
theorem dX2_find_120 : decode cX2_find 120 = .ok (.ior, 1) := by decide +kernel
theorem dX2_find_121 : decode cX2_find 121 = .ok (.iastore, 1) := by decide +kernel
theorem dX2_find_122 : decode cX2_find 122 = .ok (.iinc 4 1, 3) := by decide +kernel
theorem dX2_find_125 : decode cX2_find 125 = .ok (.goto (-63), 3) := by decide +kernel
theorem dX2_find_128 : decode cX2_find 128 = .ok (.aload_n 0, 1) := by decide +kernel
theorem dX2_find_129 : decode cX2_find 129 = .ok (.bipush 10, 2) := by decide +kernel
theorem dX2_find_131 : decode cX2_find 131 = .ok (.iconst 0, 1) := by decide +kernel
theorem dX2_find_132 : decode cX2_find 132 = .ok (.iconst 0, 1) := by decide +kernel
theorem dX2_find_133 : decode cX2_find 133 = .ok (.invokevirtual 58, 3) := by decide +kernel
theorem dX2_seek_0 : decode cX2_seek 0 = .ok (.aload_n 0, 1) := by decide +kernel
theorem dX2_seek_1 : decode cX2_seek 1 = .ok (.getfield 42, 3) := by decide +kernel
theorem dX2_seek_4 : decode cX2_seek 4 = .ok (.aload_n 0, 1) := by decide +kernel
theorem dX2_seek_5 : decode cX2_seek 5 = .ok (.getfield 21, 3) := by decide +kernel
theorem dX2_seek_8 : decode cX2_seek 8 = .ok (.getfield 62, 3) := by decide +kernel
theorem dX2_seek_11 : decode cX2_seek 11 = .ok (.aload_n 0, 1) := by decide +kernel
theorem dX2_seek_12 : decode cX2_seek 12 = .ok (.getfield 25, 3) := by decide +kernel
theorem dX2_seek_15 : decode cX2_seek 15 = .ok (.getfield 62, 3) := by decide +kernel
theorem dX2_seek_18 : decode cX2_seek 18 = .ok (.invokestatic 65, 3) := by decide +kernel
theorem dX2_seek_21 : decode cX2_seek 21 = .ok (.isub, 1) := by decide +kernel
theorem dX2_seek_22 : decode cX2_seek 22 = .ok (.istore 4, 2) := by decide +kernel
theorem dX2_seek_24 : decode cX2_seek 24 = .ok (.iload_n 3, 1) := by decide +kernel
theorem dX2_seek_25 : decode cX2_seek 25 = .ok (.iload 4, 2) := by decide +kernel
theorem dX2_seek_27 : decode cX2_seek 27 = .ok (.iadd, 1) := by decide +kernel
theorem dX2_seek_28 : decode cX2_seek 28 = .ok (.aload_n 0, 1) := by decide +kernel
theorem dX2_seek_29 : decode cX2_seek 29 = .ok (.getfield 45, 3) := by decide +kernel
theorem dX2_seek_32 : decode cX2_seek 32 = .ok (.if_icmp .lt 4, 3) := by decide +kernel
theorem dX2_seek_35 : decode cX2_seek 35 = .ok (.return_, 1) := by decide +kernel
theorem dX2_seek_36 : decode cX2_seek 36 = .ok (.iload 4, 2) := by decide +kernel
theorem dX2_seek_38 : decode cX2_seek 38 = .ok (.ifCond .ne 14, 3) := by decide +kernel
theorem dX2_seek_41 : decode cX2_seek 41 = .ok (.aload_n 0, 1) := by decide +kernel
theorem dX2_seek_42 : decode cX2_seek 42 = .ok (.iload_n 3, 1) := by decide +kernel
theorem dX2_seek_43 : decode cX2_seek 43 = .ok (.putfield 45, 3) := by decide +kernel
theorem dX2_seek_46 : decode cX2_seek 46 = .ok (.aload_n 0, 1) := by decide +kernel
theorem dX2_seek_47 : decode cX2_seek 47 = .ok (.iload_n 2, 1) := by decide +kernel
theorem dX2_seek_48 : decode cX2_seek 48 = .ok (.putfield 48, 3) := by decide +kernel
theorem dX2_seek_51 : decode cX2_seek 51 = .ok (.return_, 1) := by decide +kernel
theorem dX2_seek_52 : decode cX2_seek 52 = .ok (.iload_n 1, 1) := by decide +kernel
theorem dX2_seek_53 : decode cX2_seek 53 = .ok (.ifCond .lt 17, 3) := by decide +kernel
theorem dX2_seek_70 : decode cX2_seek 70 = .ok (.return_, 1) := by decide +kernel
set_option maxHeartbeats 4000000 in
set_option maxRecDepth 100000 in
theorem s_X2_seek_L0 {P : PP} {a0 : Nat} {a1 : Int32} {a2 : Int32} {a3 : Int32} (I : IV P) (ha0 : At P a0 2) (ha1 : -1 ≤ a1.toInt ∧ a1.toInt ≤ -1) (ha3 : 0 ≤ a3.toInt ∧ a3.toInt ≤ 11) : CtrV yX2_seek cX2_seek 7 none ({ frames := 2, cells := 0, slots := 0, locals := 128 } : Room) 0 0 P [.ref a0, .int a1, .int a2, .int a3] (fun P2 => IV P2 ∧ EK [2] P P2) := by
  refine enV (lv := [(0, .ref a0), (1, .int a1), (2, .int a2), (3, .int a3)]) (by decide) (Nat.le_of_ble_eq_true rfl) rfl (fun E D cy C Ci0 ret => ?_)
  refine g_aload_n C dX2_seek_0 rfl 0 rfl ?_
  refine g_getI C fi_X2_42 (by decide) (ha0).1 (ha0).2 dX2_seek_1 ?_
  have h34213 := I.rg (ha0) 4 rfl
  refine g_aload_n C dX2_seek_4 rfl 0 rfl ?_
  obtain ⟨b34214, e34215, h34216⟩ := I.fld (ha0) 2 0 0 rfl
  refine g_getR C fi_X2_21 rfl e34215 (ha0).1 (ha0).2 dX2_seek_5 ?_
  refine g_getI C fi_X2_62 (by decide) (h34216.at).1 (h34216.at).2 dX2_seek_8 ?_
  have h34217 := I.rg (h34216.at) 2 rfl
  refine g_aload_n C dX2_seek_11 rfl 0 rfl ?_
  obtain ⟨b34218, e34219, h34220⟩ := I.fld (ha0) 3 0 0 rfl
  refine g_getR C fi_X2_25 rfl e34219 (ha0).1 (ha0).2 dX2_seek_12 ?_
  refine g_getI C fi_X2_62 (by decide) (h34220.at).1 (h34220.at).2 dX2_seek_15 ?_
  have h34221 := I.rg (h34220.at) 2 rfl
  refine g_mmin C ms_X2_65 (by decide) (by decide) (Nat.le_of_ble_eq_true rfl) (by decide) dX2_seek_18 (fun z34222 h34223 => ?_)
  have h34223 : z34222.toInt ≤ (pI P b34214 2).toInt ∧ z34222.toInt ≤ (pI P b34218 2).toInt ∧ (z34222.toInt = (pI P b34214 2).toInt ∨ z34222.toInt = (pI P b34218 2).toInt) := h34223
  refine s_isub C dX2_seek_21 (by show -2147483648 ≤ (pI P a0 4).toInt - z34222.toInt ∧ (pI P a0 4).toInt - z34222.toInt ≤ 2147483647; omega) (fun z34224 h34225 => ?_)
  have h34225 : z34224.toInt = (pI P a0 4).toInt - z34222.toInt := h34225
  refine g_istore (lv' := [(4, .int z34224), (0, .ref a0), (1, .int a1), (2, .int a2), (3, .int a3)]) C dX2_seek_22 (by decide) rfl ?_
  refine g_iload_n C dX2_seek_24 rfl 4 rfl ?_
  refine g_iload C dX2_seek_25 0 rfl ?_
  refine s_iadd C dX2_seek_27 (by show -2147483648 ≤ a3.toInt + z34224.toInt ∧ a3.toInt + z34224.toInt ≤ 2147483647; omega) (fun z34226 h34227 => ?_)
  have h34227 : z34226.toInt = a3.toInt + z34224.toInt := h34227
  refine g_aload_n C dX2_seek_28 rfl 1 rfl ?_
  refine g_getI C fi_X2_45 (by decide) (ha0).1 (ha0).2 dX2_seek_29 ?_
  have h34228 := I.rg (ha0) 5 rfl
  refine b_icmp_lt C 36 dX2_seek_32 (by decide) (fun h34229 => ?_) (fun h34229 => ?_)
  · have h34229 : z34226.toInt < (pI P a0 5).toInt := h34229
    refine g_iload C dX2_seek_36 0 rfl ?_
    refine b_if_ne C 52 dX2_seek_38 (by decide) (fun h34230 => ?_) (fun h34230 => ?_)
    · have h34230 : z34224.toInt ≠ 0 := ti_ne h34230
      refine g_iload_n C dX2_seek_52 rfl 2 rfl ?_
      refine b_if_lt C 70 dX2_seek_53 (by decide) (fun h34231 => ?_) (fun h34231 => ?_)
      · have h34231 : a1.toInt < 0 := h34231
        exact ret _ _ _ _ _ dX2_seek_70 (by decide) (by decide) ⟨I, EK.rf⟩
      · have h34231 : 0 ≤ a1.toInt := h34231
        omega
    · have h34230 : z34224.toInt = 0 := congrArg Int32.toInt h34230
      refine g_aload_n C dX2_seek_41 rfl 1 rfl ?_
      refine g_iload_n C dX2_seek_42 rfl 4 rfl ?_
      refine g_putI C fi_X2_45 rfl (ha0).1 (ha0).2 dX2_seek_43 ?_
      refine gpW (ks := [2]) (I.setI (ha0) (rgOk.of rfl (by omega))) (EK.setI (ha0).2 (by decide)) (fun Y34232 Iy34233 Xy34234 w34235 w34236 => ?_)
      have q34237 := w34235 4 (by decide)
      have q34238 := Xy34234.keep (h34216.at) (by decide) 2
      have q34239 := Xy34234.keep (h34220.at) (by decide) 2
      have Xz34240 : EK [2] P Y34232 := Xy34234.mono (by decide)
      have h34241 := Xy34234.at ha0
      refine g_aload_n C dX2_seek_46 rfl 1 rfl ?_
      refine g_iload_n C dX2_seek_47 rfl 3 rfl ?_
      refine g_putI C fi_X2_48 rfl (h34241).1 (h34241).2 dX2_seek_48 ?_
      refine gpW (ks := [2]) (Iy34233.setI (h34241) (rgOk.none rfl)) (EK.setI (h34241).2 (by decide)) (fun Y34242 Iy34243 Xy34244 w34245 w34246 => ?_)
      have q34247 := w34245 4 (by decide)
      have q34248 := w34245 5 (by decide)
      have Xz34249 : EK [2] P Y34242 := Xz34240.tr (Xy34244.mono (by decide))
      have h34250 := Xy34244.at h34241
      exact ret _ _ _ _ _ dX2_seek_51 (by decide) (by decide) ⟨Iy34243, Xz34249⟩
  · have h34229 : (pI P a0 5).toInt ≤ z34226.toInt := h34229
    exact ret _ _ _ _ _ dX2_seek_35 (by decide) (by decide) ⟨I, EK.rf⟩
theorem dX2_seek_56 : decode cX2_seek 56 = .ok (.iload_n 1, 1) := by decide +kernel
theorem dX2_seek_57 : decode cX2_seek 57 = .ok (.bipush 11, 2) := by decide +kernel
theorem dX2_seek_59 : decode cX2_seek 59 = .ok (.if_icmp .ge 11, 3) := by decide +kernel
theorem dX2_seek_62 : decode cX2_seek 62 = .ok (.iload 4, 2) := by decide +kernel
theorem dX2_seek_64 : decode cX2_seek 64 = .ok (.iload_n 1, 1) := by decide +kernel
theorem dX2_seek_65 : decode cX2_seek 65 = .ok (.iconst 1, 1) := by decide +kernel
theorem dX2_seek_66 : decode cX2_seek 66 = .ok (.iadd, 1) := by decide +kernel
theorem dX2_seek_67 : decode cX2_seek 67 = .ok (.if_icmp .le 4, 3) := by decide +kernel
theorem dX2_seek_71 : decode cX2_seek 71 = .ok (.aload_n 0, 1) := by decide +kernel
theorem dX2_seek_72 : decode cX2_seek 72 = .ok (.iload_n 1, 1) := by decide +kernel
theorem dX2_seek_73 : decode cX2_seek 73 = .ok (.iconst 1, 1) := by decide +kernel
theorem dX2_seek_74 : decode cX2_seek 74 = .ok (.isub, 1) := by decide +kernel
theorem dX2_seek_75 : decode cX2_seek 75 = .ok (.iload_n 2, 1) := by decide +kernel
theorem dX2_seek_76 : decode cX2_seek 76 = .ok (.iload_n 3, 1) := by decide +kernel
theorem dX2_seek_77 : decode cX2_seek 77 = .ok (.invokevirtual 58, 3) := by decide +kernel
theorem dX2_seek_80 : decode cX2_seek 80 = .ok (.aload_n 0, 1) := by decide +kernel
theorem dX2_seek_81 : decode cX2_seek 81 = .ok (.getfield 21, 3) := by decide +kernel
theorem dX2_seek_84 : decode cX2_seek 84 = .ok (.getfield 62, 3) := by decide +kernel
theorem dX2_seek_87 : decode cX2_seek 87 = .ok (.istore 5, 2) := by decide +kernel
theorem dX2_seek_89 : decode cX2_seek 89 = .ok (.aload_n 0, 1) := by decide +kernel
theorem dX2_seek_90 : decode cX2_seek 90 = .ok (.getfield 25, 3) := by decide +kernel
theorem dX2_seek_93 : decode cX2_seek 93 = .ok (.getfield 62, 3) := by decide +kernel
theorem dX2_seek_96 : decode cX2_seek 96 = .ok (.istore 6, 2) := by decide +kernel
theorem dX2_seek_98 : decode cX2_seek 98 = .ok (.aload_n 0, 1) := by decide +kernel
theorem dX2_seek_99 : decode cX2_seek 99 = .ok (.getfield 21, 3) := by decide +kernel
theorem dX2_seek_102 : decode cX2_seek 102 = .ok (.aload_n 0, 1) := by decide +kernel
theorem dX2_seek_103 : decode cX2_seek 103 = .ok (.getfield 9, 3) := by decide +kernel
theorem dX2_seek_106 : decode cX2_seek 106 = .ok (.iload_n 1, 1) := by decide +kernel
theorem dX2_seek_107 : decode cX2_seek 107 = .ok (.iaload, 1) := by decide +kernel
theorem dX2_seek_108 : decode cX2_seek 108 = .ok (.invokevirtual 71, 3) := by decide +kernel
theorem dX2_seek_111 : decode cX2_seek 111 = .ok (.aload_n 0, 1) := by decide +kernel
theorem dX2_seek_112 : decode cX2_seek 112 = .ok (.getfield 25, 3) := by decide +kernel
theorem dX2_seek_115 : decode cX2_seek 115 = .ok (.aload_n 0, 1) := by decide +kernel
theorem dX2_seek_116 : decode cX2_seek 116 = .ok (.getfield 15, 3) := by decide +kernel
theorem dX2_seek_119 : decode cX2_seek 119 = .ok (.iload_n 1, 1) := by decide +kernel
theorem dX2_seek_120 : decode cX2_seek 120 = .ok (.iaload, 1) := by decide +kernel
theorem dX2_seek_121 : decode cX2_seek 121 = .ok (.invokevirtual 71, 3) := by decide +kernel
theorem dX2_seek_124 : decode cX2_seek 124 = .ok (.aload_n 0, 1) := by decide +kernel
theorem dX2_seek_125 : decode cX2_seek 125 = .ok (.getfield 21, 3) := by decide +kernel
theorem dX2_seek_128 : decode cX2_seek 128 = .ok (.getfield 32, 3) := by decide +kernel
theorem dX2_seek_131 : decode cX2_seek 131 = .ok (.ifCond .eq 28, 3) := by decide +kernel
theorem dX2_seek_134 : decode cX2_seek 134 = .ok (.aload_n 0, 1) := by decide +kernel
theorem dX2_seek_135 : decode cX2_seek 135 = .ok (.getfield 25, 3) := by decide +kernel
theorem dX2_seek_138 : decode cX2_seek 138 = .ok (.getfield 32, 3) := by decide +kernel
theorem dX2_seek_141 : decode cX2_seek 141 = .ok (.ifCond .eq 18, 3) := by decide +kernel
theorem dX2_seek_144 : decode cX2_seek 144 = .ok (.aload_n 0, 1) := by decide +kernel
theorem dX2_seek_145 : decode cX2_seek 145 = .ok (.iload_n 1, 1) := by decide +kernel
theorem dX2_seek_146 : decode cX2_seek 146 = .ok (.iconst 1, 1) := by decide +kernel
theorem dX2_seek_147 : decode cX2_seek 147 = .ok (.isub, 1) := by decide +kernel
theorem dX2_seek_148 : decode cX2_seek 148 = .ok (.iload_n 2, 1) := by decide +kernel
theorem dX2_seek_149 : decode cX2_seek 149 = .ok (.iconst 1, 1) := by decide +kernel
theorem dX2_seek_150 : decode cX2_seek 150 = .ok (.iload_n 1, 1) := by decide +kernel
theorem dX2_seek_151 : decode cX2_seek 151 = .ok (.ishl, 1) := by decide +kernel
theorem dX2_seek_152 : decode cX2_seek 152 = .ok (.ior, 1) := by decide +kernel
theorem dX2_seek_153 : decode cX2_seek 153 = .ok (.iload_n 3, 1) := by decide +kernel
theorem dX2_seek_154 : decode cX2_seek 154 = .ok (.iconst 1, 1) := by decide +kernel
theorem dX2_seek_155 : decode cX2_seek 155 = .ok (.iadd, 1) := by decide +kernel
theorem dX2_seek_156 : decode cX2_seek 156 = .ok (.invokevirtual 58, 3) := by decide +kernel
theorem dX2_seek_159 : decode cX2_seek 159 = .ok (.aload_n 0, 1) := by decide +kernel
theorem dX2_seek_160 : decode cX2_seek 160 = .ok (.getfield 21, 3) := by decide +kernel
theorem dX2_seek_163 : decode cX2_seek 163 = .ok (.iload 5, 2) := by decide +kernel
theorem dX2_seek_165 : decode cX2_seek 165 = .ok (.invokevirtual 75, 3) := by decide +kernel
theorem dX2_seek_168 : decode cX2_seek 168 = .ok (.aload_n 0, 1) := by decide +kernel
theorem dX2_seek_169 : decode cX2_seek 169 = .ok (.getfield 25, 3) := by decide +kernel
theorem dX2_seek_172 : decode cX2_seek 172 = .ok (.iload 6, 2) := by decide +kernel
theorem dX2_seek_174 : decode cX2_seek 174 = .ok (.invokevirtual 75, 3) := by decide +kernel
theorem dX2_seek_177 : decode cX2_seek 177 = .ok (.return_, 1) := by decide +kernel
set_option maxHeartbeats 4000000 in
set_option maxRecDepth 100000 in
theorem s_X2_seek_L1 {P : PP} {a0 : Nat} {a1 : Int32} {a2 : Int32} {a3 : Int32} (I : IV P) (ha0 : At P a0 2) (ha1 : 0 ≤ a1.toInt ∧ a1.toInt ≤ 0) (ha3 : 0 ≤ a3.toInt ∧ a3.toInt ≤ 10) : CtrV yX2_seek cX2_seek 7 none ({ frames := 3, cells := 0, slots := 0, locals := 192 } : Room) 0 0 P [.ref a0, .int a1, .int a2, .int a3] (fun P2 => IV P2 ∧ EK [0, 2, 13] P P2) := by
  refine enV (lv := [(0, .ref a0), (1, .int a1), (2, .int a2), (3, .int a3)]) (by decide) (Nat.le_of_ble_eq_true rfl) rfl (fun E D cy C Ci0 ret => ?_)
  have J159 : ∀ (P159 : PP) (v159_5 : Int32) (v159_6 : Int32), (IV P159) → (EK [0, 2, 13] P P159) → (0 ≤ v159_5.toInt ∧ v159_5.toInt ≤ 20) → (0 ≤ v159_6.toInt ∧ v159_6.toInt ≤ 20) → (∀ b, pR P159 a0 2 = some b → 0 ≤ (pI P159 b 3).toInt ∧ (pI P159 b 3).toInt ≤ 1) → G E ({ frames := 3, cells := 0, slots := 0, locals := 192 } : Room) D cy 7 P159 0 0 159 [(0, .ref a0), (5, .int v159_5), (6, .int v159_6)] [] := by
    intro P159 v159_5 v159_6 I159 X159 hv159_5 hv159_6 hq159_0
    have h34393 := X159.at ha0
    obtain ⟨b34394, e34395, h34396⟩ := I159.fld (h34393) 2 0 0 rfl
    have hq159_0 := hq159_0 b34394 e34395
    refine g_aload_n C dX2_seek_159 rfl 0 rfl ?_
    refine g_getR C fi_X2_21 rfl e34395 (h34393).1 (h34393).2 dX2_seek_160 ?_
    refine g_iload C dX2_seek_163 1 rfl ?_
    refine g_callVV (rest := []) C mv_X2_75 [.int v159_5] (s_X0_cut I159 h34396.at) (h34396.at).1 (h34396.at).2 rfl rfl (by decide) (Nat.le_of_ble_eq_true rfl) (by decide) dX2_seek_165 (fun Y34398 h34399 => ?_)
    obtain ⟨Iy34400, Xy34401⟩ := h34399
    have Xz34402 : EK [0, 2, 13] P Y34398 := X159.tr (Xy34401.mono (by decide))
    have h34403 := Xy34401.at h34393
    refine g_aload_n C dX2_seek_168 rfl 0 rfl ?_
    obtain ⟨b34404, e34405, h34406⟩ := Iy34400.fld (h34403) 3 0 0 rfl
    refine g_getR C fi_X2_25 rfl e34405 (h34403).1 (h34403).2 dX2_seek_169 ?_
    refine g_iload C dX2_seek_172 2 rfl ?_
    refine g_callVV (rest := []) C mv_X2_75 [.int v159_6] (s_X0_cut Iy34400 h34406.at) (h34406.at).1 (h34406.at).2 rfl rfl (by decide) (Nat.le_of_ble_eq_true rfl) (by decide) dX2_seek_174 (fun Y34408 h34409 => ?_)
    obtain ⟨Iy34410, Xy34411⟩ := h34409
    have Xz34412 : EK [0, 2, 13] P Y34408 := Xz34402.tr (Xy34411.mono (by decide))
    have h34413 := Xy34411.at h34403
    exact ret _ _ _ _ _ dX2_seek_177 (by decide) (by decide) ⟨Iy34410, Xz34412⟩
  refine g_aload_n C dX2_seek_0 rfl 0 rfl ?_
  refine g_getI C fi_X2_42 (by decide) (ha0).1 (ha0).2 dX2_seek_1 ?_
  have h34414 := I.rg (ha0) 4 rfl
  refine g_aload_n C dX2_seek_4 rfl 0 rfl ?_
  obtain ⟨b34415, e34416, h34417⟩ := I.fld (ha0) 2 0 0 rfl
  refine g_getR C fi_X2_21 rfl e34416 (ha0).1 (ha0).2 dX2_seek_5 ?_
  refine g_getI C fi_X2_62 (by decide) (h34417.at).1 (h34417.at).2 dX2_seek_8 ?_
  have h34418 := I.rg (h34417.at) 2 rfl
  refine g_aload_n C dX2_seek_11 rfl 0 rfl ?_
  obtain ⟨b34419, e34420, h34421⟩ := I.fld (ha0) 3 0 0 rfl
  refine g_getR C fi_X2_25 rfl e34420 (ha0).1 (ha0).2 dX2_seek_12 ?_
  refine g_getI C fi_X2_62 (by decide) (h34421.at).1 (h34421.at).2 dX2_seek_15 ?_
  have h34422 := I.rg (h34421.at) 2 rfl
  refine g_mmin C ms_X2_65 (by decide) (by decide) (Nat.le_of_ble_eq_true rfl) (by decide) dX2_seek_18 (fun z34423 h34424 => ?_)
  have h34424 : z34423.toInt ≤ (pI P b34415 2).toInt ∧ z34423.toInt ≤ (pI P b34419 2).toInt ∧ (z34423.toInt = (pI P b34415 2).toInt ∨ z34423.toInt = (pI P b34419 2).toInt) := h34424
  refine s_isub C dX2_seek_21 (by show -2147483648 ≤ (pI P a0 4).toInt - z34423.toInt ∧ (pI P a0 4).toInt - z34423.toInt ≤ 2147483647; omega) (fun z34425 h34426 => ?_)
  have h34426 : z34425.toInt = (pI P a0 4).toInt - z34423.toInt := h34426
  refine g_istore (lv' := [(4, .int z34425), (0, .ref a0), (1, .int a1), (2, .int a2), (3, .int a3)]) C dX2_seek_22 (by decide) rfl ?_
  refine g_iload_n C dX2_seek_24 rfl 4 rfl ?_
  refine g_iload C dX2_seek_25 0 rfl ?_
  refine s_iadd C dX2_seek_27 (by show -2147483648 ≤ a3.toInt + z34425.toInt ∧ a3.toInt + z34425.toInt ≤ 2147483647; omega) (fun z34427 h34428 => ?_)
  have h34428 : z34427.toInt = a3.toInt + z34425.toInt := h34428
  refine g_aload_n C dX2_seek_28 rfl 1 rfl ?_
  refine g_getI C fi_X2_45 (by decide) (ha0).1 (ha0).2 dX2_seek_29 ?_
  have h34429 := I.rg (ha0) 5 rfl
  refine b_icmp_lt C 36 dX2_seek_32 (by decide) (fun h34430 => ?_) (fun h34430 => ?_)
  · have h34430 : z34427.toInt < (pI P a0 5).toInt := h34430
    refine g_iload C dX2_seek_36 0 rfl ?_
    refine b_if_ne C 52 dX2_seek_38 (by decide) (fun h34431 => ?_) (fun h34431 => ?_)
    · have h34431 : z34425.toInt ≠ 0 := ti_ne h34431
      refine g_iload_n C dX2_seek_52 rfl 2 rfl ?_
      refine b_if_lt C 70 dX2_seek_53 (by decide) (fun h34432 => ?_) (fun h34432 => ?_)
      · have h34432 : a1.toInt < 0 := h34432
        omega
      · have h34432 : 0 ≤ a1.toInt := h34432
        refine g_iload_n C dX2_seek_56 rfl 2 rfl ?_
        refine g_bipush (v := 11) C dX2_seek_57 (by decide) ?_
        refine b_icmp_ge C 70 dX2_seek_59 (by decide) (fun h34433 => ?_) (fun h34433 => ?_)
        · have h34433 : 11 ≤ a1.toInt := h34433
          omega
        · have h34433 : a1.toInt < 11 := h34433
          refine g_iload C dX2_seek_62 0 rfl ?_
          refine g_iload_n C dX2_seek_64 rfl 2 rfl ?_
          refine g_iconst (v := 1) C dX2_seek_65 (by decide) ?_
          refine s_iadd C dX2_seek_66 (by show -2147483648 ≤ a1.toInt + 1 ∧ a1.toInt + 1 ≤ 2147483647; omega) (fun z34434 h34435 => ?_)
          have h34435 : z34434.toInt = a1.toInt + 1 := h34435
          refine b_icmp_le C 71 dX2_seek_67 (by decide) (fun h34436 => ?_) (fun h34436 => ?_)
          · have h34436 : z34425.toInt ≤ z34434.toInt := h34436
            refine g_aload_n C dX2_seek_71 rfl 1 rfl ?_
            refine g_iload_n C dX2_seek_72 rfl 2 rfl ?_
            refine g_iconst (v := 1) C dX2_seek_73 (by decide) ?_
            refine s_isub C dX2_seek_74 (by show -2147483648 ≤ a1.toInt - 1 ∧ a1.toInt - 1 ≤ 2147483647; omega) (fun z34437 h34438 => ?_)
            have h34438 : z34437.toInt = a1.toInt - 1 := h34438
            refine g_iload_n C dX2_seek_75 rfl 3 rfl ?_
            refine g_iload_n C dX2_seek_76 rfl 4 rfl ?_
            refine g_callVV (rest := []) C mv_X2_58 [.int z34437, .int a2, .int a3] (s_X2_seek_L0 I ha0 (by omega) (by omega)) (ha0).1 (ha0).2 rfl rfl (by decide) (Nat.le_of_ble_eq_true rfl) (by decide) dX2_seek_77 (fun Y34440 h34441 => ?_)
            obtain ⟨Iy34442, Xy34443⟩ := h34441
            have q34444 := Xy34443.keep (h34417.at) (by decide) 2
            have q34445 := Xy34443.keep (h34421.at) (by decide) 2
            have Xz34446 : EK [0, 2, 13] P Y34440 := Xy34443.mono (by decide)
            have h34447 := Xy34443.at ha0
            refine g_aload_n C dX2_seek_80 rfl 1 rfl ?_
            obtain ⟨b34448, e34449, h34450⟩ := Iy34442.fld (h34447) 2 0 0 rfl
            refine g_getR C fi_X2_21 rfl e34449 (h34447).1 (h34447).2 dX2_seek_81 ?_
            refine g_getI C fi_X2_62 (by decide) (h34450.at).1 (h34450.at).2 dX2_seek_84 ?_
            have h34451 := Iy34442.rg (h34450.at) 2 rfl
            refine g_topi (fun z34452 h34453 => ?_)
            have h34453 : z34452.toInt = (pI Y34440 b34448 2).toInt := congrArg Int32.toInt h34453
            refine g_istore (lv' := [(5, .int z34452), (4, .int z34425), (0, .ref a0), (1, .int a1), (2, .int a2), (3, .int a3)]) C dX2_seek_87 (by decide) rfl ?_
            refine g_aload_n C dX2_seek_89 rfl 2 rfl ?_
            obtain ⟨b34454, e34455, h34456⟩ := Iy34442.fld (h34447) 3 0 0 rfl
            refine g_getR C fi_X2_25 rfl e34455 (h34447).1 (h34447).2 dX2_seek_90 ?_
            refine g_getI C fi_X2_62 (by decide) (h34456.at).1 (h34456.at).2 dX2_seek_93 ?_
            have h34457 := Iy34442.rg (h34456.at) 2 rfl
            refine g_topi (fun z34458 h34459 => ?_)
            have h34459 : z34458.toInt = (pI Y34440 b34454 2).toInt := congrArg Int32.toInt h34459
            refine g_istore (lv' := [(6, .int z34458), (5, .int z34452), (4, .int z34425), (0, .ref a0), (1, .int a1), (2, .int a2), (3, .int a3)]) C dX2_seek_96 (by decide) rfl ?_
            refine g_aload_n C dX2_seek_98 rfl 3 rfl ?_
            refine g_getR C fi_X2_21 rfl e34449 (h34447).1 (h34447).2 dX2_seek_99 ?_
            refine g_aload_n C dX2_seek_102 rfl 3 rfl ?_
            obtain ⟨b34460, e34461, h34462⟩ := Iy34442.fld (h34447) 0 13 11 rfl
            refine g_getR C fi_X2_9 rfl e34461 (h34447).1 (h34447).2 dX2_seek_103 ?_
            refine g_iload_n C dX2_seek_106 rfl 4 rfl ?_
            refine g_iald (j := (a1.toInt.toNat)) C h34462.1 h34462.2.1 (ix_in h34462.2.2 (by omega)) dX2_seek_107 ?_
            refine g_topi (fun z34463 _ => ?_)
            refine g_callVV (rest := []) C mv_X2_71 [.int z34463] (s_X0_add Iy34442 h34450.at) (h34450.at).1 (h34450.at).2 rfl rfl (by decide) (Nat.le_of_ble_eq_true rfl) (by decide) dX2_seek_108 (fun Y34465 h34466 => ?_)
            obtain ⟨Iy34467, Xy34468⟩ := h34466
            have Xz34469 : EK [0, 2, 13] P Y34465 := Xz34446.tr (Xy34468.mono (by decide))
            have h34470 := Xy34468.at h34447
            refine g_aload_n C dX2_seek_111 rfl 3 rfl ?_
            obtain ⟨b34471, e34472, h34473⟩ := Iy34467.fld (h34470) 3 0 0 rfl
            refine g_getR C fi_X2_25 rfl e34472 (h34470).1 (h34470).2 dX2_seek_112 ?_
            refine g_aload_n C dX2_seek_115 rfl 3 rfl ?_
            obtain ⟨b34474, e34475, h34476⟩ := Iy34467.fld (h34470) 1 13 11 rfl
            refine g_getR C fi_X2_15 rfl e34475 (h34470).1 (h34470).2 dX2_seek_116 ?_
            refine g_iload_n C dX2_seek_119 rfl 4 rfl ?_
            refine g_iald (j := (a1.toInt.toNat)) C h34476.1 h34476.2.1 (ix_in h34476.2.2 (by omega)) dX2_seek_120 ?_
            refine g_topi (fun z34477 _ => ?_)
            refine g_callVV (rest := []) C mv_X2_71 [.int z34477] (s_X0_add Iy34467 h34473.at) (h34473.at).1 (h34473.at).2 rfl rfl (by decide) (Nat.le_of_ble_eq_true rfl) (by decide) dX2_seek_121 (fun Y34479 h34480 => ?_)
            obtain ⟨Iy34481, Xy34482⟩ := h34480
            have Xz34483 : EK [0, 2, 13] P Y34479 := Xz34469.tr (Xy34482.mono (by decide))
            have h34484 := Xy34482.at h34470
            refine g_aload_n C dX2_seek_124 rfl 3 rfl ?_
            obtain ⟨b34485, e34486, h34487⟩ := Iy34481.fld (h34484) 2 0 0 rfl
            refine g_getR C fi_X2_21 rfl e34486 (h34484).1 (h34484).2 dX2_seek_125 ?_
            refine g_getI C fi_X2_32 (by decide) (h34487.at).1 (h34487.at).2 dX2_seek_128 ?_
            have h34488 := Iy34481.rg (h34487.at) 3 rfl
            refine b_if_eq C 159 dX2_seek_131 (by decide) (fun h34489 => ?_) (fun h34489 => ?_)
            · have h34489 : (pI Y34479 b34485 3).toInt = 0 := congrArg Int32.toInt h34489
              refine g_lv (lv' := [(0, .ref a0), (5, .int z34452), (6, .int z34458)]) [3, 1, 0] rfl ?_
              exact J159 Y34479 z34452 z34458 Iy34481 Xz34483 (by omega) (by omega) (fun b9 e9 => by rw [e34486] at e9; cases e9; omega)
            · have h34489 : (pI Y34479 b34485 3).toInt ≠ 0 := ti_ne h34489
              refine g_aload_n C dX2_seek_134 rfl 3 rfl ?_
              obtain ⟨b34490, e34491, h34492⟩ := Iy34481.fld (h34484) 3 0 0 rfl
              refine g_getR C fi_X2_25 rfl e34491 (h34484).1 (h34484).2 dX2_seek_135 ?_
              refine g_getI C fi_X2_32 (by decide) (h34492.at).1 (h34492.at).2 dX2_seek_138 ?_
              have h34493 := Iy34481.rg (h34492.at) 3 rfl
              refine b_if_eq C 159 dX2_seek_141 (by decide) (fun h34494 => ?_) (fun h34494 => ?_)
              · have h34494 : (pI Y34479 b34490 3).toInt = 0 := congrArg Int32.toInt h34494
                refine g_lv (lv' := [(0, .ref a0), (5, .int z34452), (6, .int z34458)]) [3, 1, 0] rfl ?_
                exact J159 Y34479 z34452 z34458 Iy34481 Xz34483 (by omega) (by omega) (fun b9 e9 => by rw [e34486] at e9; cases e9; omega)
              · have h34494 : (pI Y34479 b34490 3).toInt ≠ 0 := ti_ne h34494
                refine g_aload_n C dX2_seek_144 rfl 3 rfl ?_
                refine g_iload_n C dX2_seek_145 rfl 4 rfl ?_
                refine g_iconst (v := 1) C dX2_seek_146 (by decide) ?_
                refine s_isub C dX2_seek_147 (by show -2147483648 ≤ a1.toInt - 1 ∧ a1.toInt - 1 ≤ 2147483647; omega) (fun z34495 h34496 => ?_)
                have h34496 : z34495.toInt = a1.toInt - 1 := h34496
                refine g_iload_n C dX2_seek_148 rfl 5 rfl ?_
                refine g_iconst (v := 1) C dX2_seek_149 (by decide) ?_
                refine g_iload_n C dX2_seek_150 rfl 4 rfl ?_
                refine a_ishl C dX2_seek_151 (fun z34497 => ?_)
                refine a_ior C dX2_seek_152 (fun z34499 => ?_)
                refine g_iload_n C dX2_seek_153 rfl 6 rfl ?_
                refine g_iconst (v := 1) C dX2_seek_154 (by decide) ?_
                refine s_iadd C dX2_seek_155 (by show -2147483648 ≤ a3.toInt + 1 ∧ a3.toInt + 1 ≤ 2147483647; omega) (fun z34501 h34502 => ?_)
                have h34502 : z34501.toInt = a3.toInt + 1 := h34502
                refine g_callVV (rest := []) C mv_X2_58 [.int z34495, .int z34499, .int z34501] (s_X2_seek_L0 Iy34481 h34484 (by omega) (by omega)) (h34484).1 (h34484).2 rfl rfl (by decide) (Nat.le_of_ble_eq_true rfl) (by decide) dX2_seek_156 (fun Y34504 h34505 => ?_)
                obtain ⟨Iy34506, Xy34507⟩ := h34505
                have q34508 := Xy34507.keep (h34487.at) (by decide) 3
                have q34509 := Xy34507.keep (h34492.at) (by decide) 3
                have Xz34510 : EK [0, 2, 13] P Y34504 := Xz34483.tr (Xy34507.mono (by decide))
                have e34511 := Xy34507.ref h34484 (by decide) e34486
                have e34512 := Xy34507.ref h34484 (by decide) e34491
                have h34513 := Xy34507.at h34484
                have h34514 := Xy34507.ar h34487
                have h34515 := Xy34507.ar h34492
                refine g_lv (lv' := [(0, .ref a0), (5, .int z34452), (6, .int z34458)]) [3, 1, 0] rfl ?_
                exact J159 Y34504 z34452 z34458 Iy34506 Xz34510 (by omega) (by omega) (fun b9 e9 => by rw [e34511] at e9; cases e9; omega)
          · have h34436 : z34434.toInt < z34425.toInt := h34436
            exact ret _ _ _ _ _ dX2_seek_70 (by decide) (by decide) ⟨I, EK.rf⟩
    · have h34431 : z34425.toInt = 0 := congrArg Int32.toInt h34431
      refine g_aload_n C dX2_seek_41 rfl 1 rfl ?_
      refine g_iload_n C dX2_seek_42 rfl 4 rfl ?_
      refine g_putI C fi_X2_45 rfl (ha0).1 (ha0).2 dX2_seek_43 ?_
      refine gpW (ks := [2]) (I.setI (ha0) (rgOk.of rfl (by omega))) (EK.setI (ha0).2 (by decide)) (fun Y34516 Iy34517 Xy34518 w34519 w34520 => ?_)
      have q34521 := w34519 4 (by decide)
      have q34522 := Xy34518.keep (h34417.at) (by decide) 2
      have q34523 := Xy34518.keep (h34421.at) (by decide) 2
      have Xz34524 : EK [0, 2, 13] P Y34516 := Xy34518.mono (by decide)
      have h34525 := Xy34518.at ha0
      refine g_aload_n C dX2_seek_46 rfl 1 rfl ?_
      refine g_iload_n C dX2_seek_47 rfl 3 rfl ?_
      refine g_putI C fi_X2_48 rfl (h34525).1 (h34525).2 dX2_seek_48 ?_
      refine gpW (ks := [2]) (Iy34517.setI (h34525) (rgOk.none rfl)) (EK.setI (h34525).2 (by decide)) (fun Y34526 Iy34527 Xy34528 w34529 w34530 => ?_)
      have q34531 := w34529 4 (by decide)
      have q34532 := w34529 5 (by decide)
      have Xz34533 : EK [0, 2, 13] P Y34526 := Xz34524.tr (Xy34528.mono (by decide))
      have h34534 := Xy34528.at h34525
      exact ret _ _ _ _ _ dX2_seek_51 (by decide) (by decide) ⟨Iy34527, Xz34533⟩
  · have h34430 : (pI P a0 5).toInt ≤ z34427.toInt := h34430
    exact ret _ _ _ _ _ dX2_seek_35 (by decide) (by decide) ⟨I, EK.rf⟩
set_option maxHeartbeats 4000000 in
set_option maxRecDepth 100000 in
theorem s_X2_seek_L2 {P : PP} {a0 : Nat} {a1 : Int32} {a2 : Int32} {a3 : Int32} (I : IV P) (ha0 : At P a0 2) (ha1 : 1 ≤ a1.toInt ∧ a1.toInt ≤ 1) (ha3 : 0 ≤ a3.toInt ∧ a3.toInt ≤ 9) : CtrV yX2_seek cX2_seek 7 none ({ frames := 4, cells := 0, slots := 0, locals := 256 } : Room) 0 0 P [.ref a0, .int a1, .int a2, .int a3] (fun P2 => IV P2 ∧ EK [0, 2, 13] P P2) := by
  refine enV (lv := [(0, .ref a0), (1, .int a1), (2, .int a2), (3, .int a3)]) (by decide) (Nat.le_of_ble_eq_true rfl) rfl (fun E D cy C Ci0 ret => ?_)
  have J159 : ∀ (P159 : PP) (v159_5 : Int32) (v159_6 : Int32), (IV P159) → (EK [0, 2, 13] P P159) → (0 ≤ v159_5.toInt ∧ v159_5.toInt ≤ 20) → (0 ≤ v159_6.toInt ∧ v159_6.toInt ≤ 20) → G E ({ frames := 4, cells := 0, slots := 0, locals := 256 } : Room) D cy 7 P159 0 0 159 [(0, .ref a0), (5, .int v159_5), (6, .int v159_6)] [] := by
    intro P159 v159_5 v159_6 I159 X159 hv159_5 hv159_6
    have h34669 := X159.at ha0
    refine g_aload_n C dX2_seek_159 rfl 0 rfl ?_
    obtain ⟨b34670, e34671, h34672⟩ := I159.fld (h34669) 2 0 0 rfl
    refine g_getR C fi_X2_21 rfl e34671 (h34669).1 (h34669).2 dX2_seek_160 ?_
    refine g_iload C dX2_seek_163 1 rfl ?_
    refine g_callVV (rest := []) C mv_X2_75 [.int v159_5] (s_X0_cut I159 h34672.at) (h34672.at).1 (h34672.at).2 rfl rfl (by decide) (Nat.le_of_ble_eq_true rfl) (by decide) dX2_seek_165 (fun Y34674 h34675 => ?_)
    obtain ⟨Iy34676, Xy34677⟩ := h34675
    have Xz34678 : EK [0, 2, 13] P Y34674 := X159.tr (Xy34677.mono (by decide))
    have h34679 := Xy34677.at h34669
    refine g_aload_n C dX2_seek_168 rfl 0 rfl ?_
    obtain ⟨b34680, e34681, h34682⟩ := Iy34676.fld (h34679) 3 0 0 rfl
    refine g_getR C fi_X2_25 rfl e34681 (h34679).1 (h34679).2 dX2_seek_169 ?_
    refine g_iload C dX2_seek_172 2 rfl ?_
    refine g_callVV (rest := []) C mv_X2_75 [.int v159_6] (s_X0_cut Iy34676 h34682.at) (h34682.at).1 (h34682.at).2 rfl rfl (by decide) (Nat.le_of_ble_eq_true rfl) (by decide) dX2_seek_174 (fun Y34684 h34685 => ?_)
    obtain ⟨Iy34686, Xy34687⟩ := h34685
    have Xz34688 : EK [0, 2, 13] P Y34684 := Xz34678.tr (Xy34687.mono (by decide))
    have h34689 := Xy34687.at h34679
    exact ret _ _ _ _ _ dX2_seek_177 (by decide) (by decide) ⟨Iy34686, Xz34688⟩
  refine g_aload_n C dX2_seek_0 rfl 0 rfl ?_
  refine g_getI C fi_X2_42 (by decide) (ha0).1 (ha0).2 dX2_seek_1 ?_
  have h34690 := I.rg (ha0) 4 rfl
  refine g_aload_n C dX2_seek_4 rfl 0 rfl ?_
  obtain ⟨b34691, e34692, h34693⟩ := I.fld (ha0) 2 0 0 rfl
  refine g_getR C fi_X2_21 rfl e34692 (ha0).1 (ha0).2 dX2_seek_5 ?_
  refine g_getI C fi_X2_62 (by decide) (h34693.at).1 (h34693.at).2 dX2_seek_8 ?_
  have h34694 := I.rg (h34693.at) 2 rfl
  refine g_aload_n C dX2_seek_11 rfl 0 rfl ?_
  obtain ⟨b34695, e34696, h34697⟩ := I.fld (ha0) 3 0 0 rfl
  refine g_getR C fi_X2_25 rfl e34696 (ha0).1 (ha0).2 dX2_seek_12 ?_
  refine g_getI C fi_X2_62 (by decide) (h34697.at).1 (h34697.at).2 dX2_seek_15 ?_
  have h34698 := I.rg (h34697.at) 2 rfl
  refine g_mmin C ms_X2_65 (by decide) (by decide) (Nat.le_of_ble_eq_true rfl) (by decide) dX2_seek_18 (fun z34699 h34700 => ?_)
  have h34700 : z34699.toInt ≤ (pI P b34691 2).toInt ∧ z34699.toInt ≤ (pI P b34695 2).toInt ∧ (z34699.toInt = (pI P b34691 2).toInt ∨ z34699.toInt = (pI P b34695 2).toInt) := h34700
  refine s_isub C dX2_seek_21 (by show -2147483648 ≤ (pI P a0 4).toInt - z34699.toInt ∧ (pI P a0 4).toInt - z34699.toInt ≤ 2147483647; omega) (fun z34701 h34702 => ?_)
  have h34702 : z34701.toInt = (pI P a0 4).toInt - z34699.toInt := h34702
  refine g_istore (lv' := [(4, .int z34701), (0, .ref a0), (1, .int a1), (2, .int a2), (3, .int a3)]) C dX2_seek_22 (by decide) rfl ?_
  refine g_iload_n C dX2_seek_24 rfl 4 rfl ?_
  refine g_iload C dX2_seek_25 0 rfl ?_
  refine s_iadd C dX2_seek_27 (by show -2147483648 ≤ a3.toInt + z34701.toInt ∧ a3.toInt + z34701.toInt ≤ 2147483647; omega) (fun z34703 h34704 => ?_)
  have h34704 : z34703.toInt = a3.toInt + z34701.toInt := h34704
  refine g_aload_n C dX2_seek_28 rfl 1 rfl ?_
  refine g_getI C fi_X2_45 (by decide) (ha0).1 (ha0).2 dX2_seek_29 ?_
  have h34705 := I.rg (ha0) 5 rfl
  refine b_icmp_lt C 36 dX2_seek_32 (by decide) (fun h34706 => ?_) (fun h34706 => ?_)
  · have h34706 : z34703.toInt < (pI P a0 5).toInt := h34706
    refine g_iload C dX2_seek_36 0 rfl ?_
    refine b_if_ne C 52 dX2_seek_38 (by decide) (fun h34707 => ?_) (fun h34707 => ?_)
    · have h34707 : z34701.toInt ≠ 0 := ti_ne h34707
      refine g_iload_n C dX2_seek_52 rfl 2 rfl ?_
      refine b_if_lt C 70 dX2_seek_53 (by decide) (fun h34708 => ?_) (fun h34708 => ?_)
      · have h34708 : a1.toInt < 0 := h34708
        omega
      · have h34708 : 0 ≤ a1.toInt := h34708
        refine g_iload_n C dX2_seek_56 rfl 2 rfl ?_
        refine g_bipush (v := 11) C dX2_seek_57 (by decide) ?_
        refine b_icmp_ge C 70 dX2_seek_59 (by decide) (fun h34709 => ?_) (fun h34709 => ?_)
        · have h34709 : 11 ≤ a1.toInt := h34709
          omega
        · have h34709 : a1.toInt < 11 := h34709
          refine g_iload C dX2_seek_62 0 rfl ?_
          refine g_iload_n C dX2_seek_64 rfl 2 rfl ?_
          refine g_iconst (v := 1) C dX2_seek_65 (by decide) ?_
          refine s_iadd C dX2_seek_66 (by show -2147483648 ≤ a1.toInt + 1 ∧ a1.toInt + 1 ≤ 2147483647; omega) (fun z34710 h34711 => ?_)
          have h34711 : z34710.toInt = a1.toInt + 1 := h34711
          refine b_icmp_le C 71 dX2_seek_67 (by decide) (fun h34712 => ?_) (fun h34712 => ?_)
          · have h34712 : z34701.toInt ≤ z34710.toInt := h34712
            refine g_aload_n C dX2_seek_71 rfl 1 rfl ?_
            refine g_iload_n C dX2_seek_72 rfl 2 rfl ?_
            refine g_iconst (v := 1) C dX2_seek_73 (by decide) ?_
            refine s_isub C dX2_seek_74 (by show -2147483648 ≤ a1.toInt - 1 ∧ a1.toInt - 1 ≤ 2147483647; omega) (fun z34713 h34714 => ?_)
            have h34714 : z34713.toInt = a1.toInt - 1 := h34714
            refine g_iload_n C dX2_seek_75 rfl 3 rfl ?_
            refine g_iload_n C dX2_seek_76 rfl 4 rfl ?_
            refine g_callVV (rest := []) C mv_X2_58 [.int z34713, .int a2, .int a3] (s_X2_seek_L1 I ha0 (by omega) (by omega)) (ha0).1 (ha0).2 rfl rfl (by decide) (Nat.le_of_ble_eq_true rfl) (by decide) dX2_seek_77 (fun Y34716 h34717 => ?_)
            obtain ⟨Iy34718, Xy34719⟩ := h34717
            have Xz34720 : EK [0, 2, 13] P Y34716 := Xy34719.mono (by decide)
            have h34721 := Xy34719.at ha0
            refine g_aload_n C dX2_seek_80 rfl 1 rfl ?_
            obtain ⟨b34722, e34723, h34724⟩ := Iy34718.fld (h34721) 2 0 0 rfl
            refine g_getR C fi_X2_21 rfl e34723 (h34721).1 (h34721).2 dX2_seek_81 ?_
            refine g_getI C fi_X2_62 (by decide) (h34724.at).1 (h34724.at).2 dX2_seek_84 ?_
            have h34725 := Iy34718.rg (h34724.at) 2 rfl
            refine g_topi (fun z34726 h34727 => ?_)
            have h34727 : z34726.toInt = (pI Y34716 b34722 2).toInt := congrArg Int32.toInt h34727
            refine g_istore (lv' := [(5, .int z34726), (4, .int z34701), (0, .ref a0), (1, .int a1), (2, .int a2), (3, .int a3)]) C dX2_seek_87 (by decide) rfl ?_
            refine g_aload_n C dX2_seek_89 rfl 2 rfl ?_
            obtain ⟨b34728, e34729, h34730⟩ := Iy34718.fld (h34721) 3 0 0 rfl
            refine g_getR C fi_X2_25 rfl e34729 (h34721).1 (h34721).2 dX2_seek_90 ?_
            refine g_getI C fi_X2_62 (by decide) (h34730.at).1 (h34730.at).2 dX2_seek_93 ?_
            have h34731 := Iy34718.rg (h34730.at) 2 rfl
            refine g_topi (fun z34732 h34733 => ?_)
            have h34733 : z34732.toInt = (pI Y34716 b34728 2).toInt := congrArg Int32.toInt h34733
            refine g_istore (lv' := [(6, .int z34732), (5, .int z34726), (4, .int z34701), (0, .ref a0), (1, .int a1), (2, .int a2), (3, .int a3)]) C dX2_seek_96 (by decide) rfl ?_
            refine g_aload_n C dX2_seek_98 rfl 3 rfl ?_
            refine g_getR C fi_X2_21 rfl e34723 (h34721).1 (h34721).2 dX2_seek_99 ?_
            refine g_aload_n C dX2_seek_102 rfl 3 rfl ?_
            obtain ⟨b34734, e34735, h34736⟩ := Iy34718.fld (h34721) 0 13 11 rfl
            refine g_getR C fi_X2_9 rfl e34735 (h34721).1 (h34721).2 dX2_seek_103 ?_
            refine g_iload_n C dX2_seek_106 rfl 4 rfl ?_
            refine g_iald (j := (a1.toInt.toNat)) C h34736.1 h34736.2.1 (ix_in h34736.2.2 (by omega)) dX2_seek_107 ?_
            refine g_topi (fun z34737 _ => ?_)
            refine g_callVV (rest := []) C mv_X2_71 [.int z34737] (s_X0_add Iy34718 h34724.at) (h34724.at).1 (h34724.at).2 rfl rfl (by decide) (Nat.le_of_ble_eq_true rfl) (by decide) dX2_seek_108 (fun Y34739 h34740 => ?_)
            obtain ⟨Iy34741, Xy34742⟩ := h34740
            have Xz34743 : EK [0, 2, 13] P Y34739 := Xz34720.tr (Xy34742.mono (by decide))
            have h34744 := Xy34742.at h34721
            refine g_aload_n C dX2_seek_111 rfl 3 rfl ?_
            obtain ⟨b34745, e34746, h34747⟩ := Iy34741.fld (h34744) 3 0 0 rfl
            refine g_getR C fi_X2_25 rfl e34746 (h34744).1 (h34744).2 dX2_seek_112 ?_
            refine g_aload_n C dX2_seek_115 rfl 3 rfl ?_
            obtain ⟨b34748, e34749, h34750⟩ := Iy34741.fld (h34744) 1 13 11 rfl
            refine g_getR C fi_X2_15 rfl e34749 (h34744).1 (h34744).2 dX2_seek_116 ?_
            refine g_iload_n C dX2_seek_119 rfl 4 rfl ?_
            refine g_iald (j := (a1.toInt.toNat)) C h34750.1 h34750.2.1 (ix_in h34750.2.2 (by omega)) dX2_seek_120 ?_
            refine g_topi (fun z34751 _ => ?_)
            refine g_callVV (rest := []) C mv_X2_71 [.int z34751] (s_X0_add Iy34741 h34747.at) (h34747.at).1 (h34747.at).2 rfl rfl (by decide) (Nat.le_of_ble_eq_true rfl) (by decide) dX2_seek_121 (fun Y34753 h34754 => ?_)
            obtain ⟨Iy34755, Xy34756⟩ := h34754
            have Xz34757 : EK [0, 2, 13] P Y34753 := Xz34743.tr (Xy34756.mono (by decide))
            have h34758 := Xy34756.at h34744
            refine g_aload_n C dX2_seek_124 rfl 3 rfl ?_
            obtain ⟨b34759, e34760, h34761⟩ := Iy34755.fld (h34758) 2 0 0 rfl
            refine g_getR C fi_X2_21 rfl e34760 (h34758).1 (h34758).2 dX2_seek_125 ?_
            refine g_getI C fi_X2_32 (by decide) (h34761.at).1 (h34761.at).2 dX2_seek_128 ?_
            have h34762 := Iy34755.rg (h34761.at) 3 rfl
            refine b_if_eq C 159 dX2_seek_131 (by decide) (fun h34763 => ?_) (fun h34763 => ?_)
            · have h34763 : (pI Y34753 b34759 3).toInt = 0 := congrArg Int32.toInt h34763
              refine g_lv (lv' := [(0, .ref a0), (5, .int z34726), (6, .int z34732)]) [3, 1, 0] rfl ?_
              exact J159 Y34753 z34726 z34732 Iy34755 Xz34757 (by omega) (by omega)
            · have h34763 : (pI Y34753 b34759 3).toInt ≠ 0 := ti_ne h34763
              refine g_aload_n C dX2_seek_134 rfl 3 rfl ?_
              obtain ⟨b34764, e34765, h34766⟩ := Iy34755.fld (h34758) 3 0 0 rfl
              refine g_getR C fi_X2_25 rfl e34765 (h34758).1 (h34758).2 dX2_seek_135 ?_
              refine g_getI C fi_X2_32 (by decide) (h34766.at).1 (h34766.at).2 dX2_seek_138 ?_
              have h34767 := Iy34755.rg (h34766.at) 3 rfl
              refine b_if_eq C 159 dX2_seek_141 (by decide) (fun h34768 => ?_) (fun h34768 => ?_)
              · have h34768 : (pI Y34753 b34764 3).toInt = 0 := congrArg Int32.toInt h34768
                refine g_lv (lv' := [(0, .ref a0), (5, .int z34726), (6, .int z34732)]) [3, 1, 0] rfl ?_
                exact J159 Y34753 z34726 z34732 Iy34755 Xz34757 (by omega) (by omega)
              · have h34768 : (pI Y34753 b34764 3).toInt ≠ 0 := ti_ne h34768
                refine g_aload_n C dX2_seek_144 rfl 3 rfl ?_
                refine g_iload_n C dX2_seek_145 rfl 4 rfl ?_
                refine g_iconst (v := 1) C dX2_seek_146 (by decide) ?_
                refine s_isub C dX2_seek_147 (by show -2147483648 ≤ a1.toInt - 1 ∧ a1.toInt - 1 ≤ 2147483647; omega) (fun z34769 h34770 => ?_)
                have h34770 : z34769.toInt = a1.toInt - 1 := h34770
                refine g_iload_n C dX2_seek_148 rfl 5 rfl ?_
                refine g_iconst (v := 1) C dX2_seek_149 (by decide) ?_
                refine g_iload_n C dX2_seek_150 rfl 4 rfl ?_
                refine a_ishl C dX2_seek_151 (fun z34771 => ?_)
                refine a_ior C dX2_seek_152 (fun z34773 => ?_)
                refine g_iload_n C dX2_seek_153 rfl 6 rfl ?_
                refine g_iconst (v := 1) C dX2_seek_154 (by decide) ?_
                refine s_iadd C dX2_seek_155 (by show -2147483648 ≤ a3.toInt + 1 ∧ a3.toInt + 1 ≤ 2147483647; omega) (fun z34775 h34776 => ?_)
                have h34776 : z34775.toInt = a3.toInt + 1 := h34776
                refine g_callVV (rest := []) C mv_X2_58 [.int z34769, .int z34773, .int z34775] (s_X2_seek_L1 Iy34755 h34758 (by omega) (by omega)) (h34758).1 (h34758).2 rfl rfl (by decide) (Nat.le_of_ble_eq_true rfl) (by decide) dX2_seek_156 (fun Y34778 h34779 => ?_)
                obtain ⟨Iy34780, Xy34781⟩ := h34779
                have Xz34782 : EK [0, 2, 13] P Y34778 := Xz34757.tr (Xy34781.mono (by decide))
                have h34783 := Xy34781.at h34758
                refine g_lv (lv' := [(0, .ref a0), (5, .int z34726), (6, .int z34732)]) [3, 1, 0] rfl ?_
                exact J159 Y34778 z34726 z34732 Iy34780 Xz34782 (by omega) (by omega)
          · have h34712 : z34710.toInt < z34701.toInt := h34712
            exact ret _ _ _ _ _ dX2_seek_70 (by decide) (by decide) ⟨I, EK.rf⟩
    · have h34707 : z34701.toInt = 0 := congrArg Int32.toInt h34707
      refine g_aload_n C dX2_seek_41 rfl 1 rfl ?_
      refine g_iload_n C dX2_seek_42 rfl 4 rfl ?_
      refine g_putI C fi_X2_45 rfl (ha0).1 (ha0).2 dX2_seek_43 ?_
      refine gpW (ks := [2]) (I.setI (ha0) (rgOk.of rfl (by omega))) (EK.setI (ha0).2 (by decide)) (fun Y34784 Iy34785 Xy34786 w34787 w34788 => ?_)
      have q34789 := w34787 4 (by decide)
      have q34790 := Xy34786.keep (h34693.at) (by decide) 2
      have q34791 := Xy34786.keep (h34697.at) (by decide) 2
      have Xz34792 : EK [0, 2, 13] P Y34784 := Xy34786.mono (by decide)
      have h34793 := Xy34786.at ha0
      refine g_aload_n C dX2_seek_46 rfl 1 rfl ?_
      refine g_iload_n C dX2_seek_47 rfl 3 rfl ?_
      refine g_putI C fi_X2_48 rfl (h34793).1 (h34793).2 dX2_seek_48 ?_
      refine gpW (ks := [2]) (Iy34785.setI (h34793) (rgOk.none rfl)) (EK.setI (h34793).2 (by decide)) (fun Y34794 Iy34795 Xy34796 w34797 w34798 => ?_)
      have q34799 := w34797 4 (by decide)
      have q34800 := w34797 5 (by decide)
      have Xz34801 : EK [0, 2, 13] P Y34794 := Xz34792.tr (Xy34796.mono (by decide))
      have h34802 := Xy34796.at h34793
      exact ret _ _ _ _ _ dX2_seek_51 (by decide) (by decide) ⟨Iy34795, Xz34801⟩
  · have h34706 : (pI P a0 5).toInt ≤ z34703.toInt := h34706
    exact ret _ _ _ _ _ dX2_seek_35 (by decide) (by decide) ⟨I, EK.rf⟩
set_option maxHeartbeats 4000000 in
set_option maxRecDepth 100000 in
theorem s_X2_seek_L3 {P : PP} {a0 : Nat} {a1 : Int32} {a2 : Int32} {a3 : Int32} (I : IV P) (ha0 : At P a0 2) (ha1 : 2 ≤ a1.toInt ∧ a1.toInt ≤ 2) (ha3 : 0 ≤ a3.toInt ∧ a3.toInt ≤ 8) : CtrV yX2_seek cX2_seek 7 none ({ frames := 5, cells := 0, slots := 0, locals := 320 } : Room) 0 0 P [.ref a0, .int a1, .int a2, .int a3] (fun P2 => IV P2 ∧ EK [0, 2, 13] P P2) := by
  refine enV (lv := [(0, .ref a0), (1, .int a1), (2, .int a2), (3, .int a3)]) (by decide) (Nat.le_of_ble_eq_true rfl) rfl (fun E D cy C Ci0 ret => ?_)
  have J159 : ∀ (P159 : PP) (v159_5 : Int32) (v159_6 : Int32), (IV P159) → (EK [0, 2, 13] P P159) → (0 ≤ v159_5.toInt ∧ v159_5.toInt ≤ 20) → (0 ≤ v159_6.toInt ∧ v159_6.toInt ≤ 20) → G E ({ frames := 5, cells := 0, slots := 0, locals := 320 } : Room) D cy 7 P159 0 0 159 [(0, .ref a0), (5, .int v159_5), (6, .int v159_6)] [] := by
    intro P159 v159_5 v159_6 I159 X159 hv159_5 hv159_6
    have h34937 := X159.at ha0
    refine g_aload_n C dX2_seek_159 rfl 0 rfl ?_
    obtain ⟨b34938, e34939, h34940⟩ := I159.fld (h34937) 2 0 0 rfl
    refine g_getR C fi_X2_21 rfl e34939 (h34937).1 (h34937).2 dX2_seek_160 ?_
    refine g_iload C dX2_seek_163 1 rfl ?_
    refine g_callVV (rest := []) C mv_X2_75 [.int v159_5] (s_X0_cut I159 h34940.at) (h34940.at).1 (h34940.at).2 rfl rfl (by decide) (Nat.le_of_ble_eq_true rfl) (by decide) dX2_seek_165 (fun Y34942 h34943 => ?_)
    obtain ⟨Iy34944, Xy34945⟩ := h34943
    have Xz34946 : EK [0, 2, 13] P Y34942 := X159.tr (Xy34945.mono (by decide))
    have h34947 := Xy34945.at h34937
    refine g_aload_n C dX2_seek_168 rfl 0 rfl ?_
    obtain ⟨b34948, e34949, h34950⟩ := Iy34944.fld (h34947) 3 0 0 rfl
    refine g_getR C fi_X2_25 rfl e34949 (h34947).1 (h34947).2 dX2_seek_169 ?_
    refine g_iload C dX2_seek_172 2 rfl ?_
    refine g_callVV (rest := []) C mv_X2_75 [.int v159_6] (s_X0_cut Iy34944 h34950.at) (h34950.at).1 (h34950.at).2 rfl rfl (by decide) (Nat.le_of_ble_eq_true rfl) (by decide) dX2_seek_174 (fun Y34952 h34953 => ?_)
    obtain ⟨Iy34954, Xy34955⟩ := h34953
    have Xz34956 : EK [0, 2, 13] P Y34952 := Xz34946.tr (Xy34955.mono (by decide))
    have h34957 := Xy34955.at h34947
    exact ret _ _ _ _ _ dX2_seek_177 (by decide) (by decide) ⟨Iy34954, Xz34956⟩
  refine g_aload_n C dX2_seek_0 rfl 0 rfl ?_
  refine g_getI C fi_X2_42 (by decide) (ha0).1 (ha0).2 dX2_seek_1 ?_
  have h34958 := I.rg (ha0) 4 rfl
  refine g_aload_n C dX2_seek_4 rfl 0 rfl ?_
  obtain ⟨b34959, e34960, h34961⟩ := I.fld (ha0) 2 0 0 rfl
  refine g_getR C fi_X2_21 rfl e34960 (ha0).1 (ha0).2 dX2_seek_5 ?_
  refine g_getI C fi_X2_62 (by decide) (h34961.at).1 (h34961.at).2 dX2_seek_8 ?_
  have h34962 := I.rg (h34961.at) 2 rfl
  refine g_aload_n C dX2_seek_11 rfl 0 rfl ?_
  obtain ⟨b34963, e34964, h34965⟩ := I.fld (ha0) 3 0 0 rfl
  refine g_getR C fi_X2_25 rfl e34964 (ha0).1 (ha0).2 dX2_seek_12 ?_
  refine g_getI C fi_X2_62 (by decide) (h34965.at).1 (h34965.at).2 dX2_seek_15 ?_
  have h34966 := I.rg (h34965.at) 2 rfl
  refine g_mmin C ms_X2_65 (by decide) (by decide) (Nat.le_of_ble_eq_true rfl) (by decide) dX2_seek_18 (fun z34967 h34968 => ?_)
  have h34968 : z34967.toInt ≤ (pI P b34959 2).toInt ∧ z34967.toInt ≤ (pI P b34963 2).toInt ∧ (z34967.toInt = (pI P b34959 2).toInt ∨ z34967.toInt = (pI P b34963 2).toInt) := h34968
  refine s_isub C dX2_seek_21 (by show -2147483648 ≤ (pI P a0 4).toInt - z34967.toInt ∧ (pI P a0 4).toInt - z34967.toInt ≤ 2147483647; omega) (fun z34969 h34970 => ?_)
  have h34970 : z34969.toInt = (pI P a0 4).toInt - z34967.toInt := h34970
  refine g_istore (lv' := [(4, .int z34969), (0, .ref a0), (1, .int a1), (2, .int a2), (3, .int a3)]) C dX2_seek_22 (by decide) rfl ?_
  refine g_iload_n C dX2_seek_24 rfl 4 rfl ?_
  refine g_iload C dX2_seek_25 0 rfl ?_
  refine s_iadd C dX2_seek_27 (by show -2147483648 ≤ a3.toInt + z34969.toInt ∧ a3.toInt + z34969.toInt ≤ 2147483647; omega) (fun z34971 h34972 => ?_)
  have h34972 : z34971.toInt = a3.toInt + z34969.toInt := h34972
  refine g_aload_n C dX2_seek_28 rfl 1 rfl ?_
  refine g_getI C fi_X2_45 (by decide) (ha0).1 (ha0).2 dX2_seek_29 ?_
  have h34973 := I.rg (ha0) 5 rfl
  refine b_icmp_lt C 36 dX2_seek_32 (by decide) (fun h34974 => ?_) (fun h34974 => ?_)
  · have h34974 : z34971.toInt < (pI P a0 5).toInt := h34974
    refine g_iload C dX2_seek_36 0 rfl ?_
    refine b_if_ne C 52 dX2_seek_38 (by decide) (fun h34975 => ?_) (fun h34975 => ?_)
    · have h34975 : z34969.toInt ≠ 0 := ti_ne h34975
      refine g_iload_n C dX2_seek_52 rfl 2 rfl ?_
      refine b_if_lt C 70 dX2_seek_53 (by decide) (fun h34976 => ?_) (fun h34976 => ?_)
      · have h34976 : a1.toInt < 0 := h34976
        omega
      · have h34976 : 0 ≤ a1.toInt := h34976
        refine g_iload_n C dX2_seek_56 rfl 2 rfl ?_
        refine g_bipush (v := 11) C dX2_seek_57 (by decide) ?_
        refine b_icmp_ge C 70 dX2_seek_59 (by decide) (fun h34977 => ?_) (fun h34977 => ?_)
        · have h34977 : 11 ≤ a1.toInt := h34977
          omega
        · have h34977 : a1.toInt < 11 := h34977
          refine g_iload C dX2_seek_62 0 rfl ?_
          refine g_iload_n C dX2_seek_64 rfl 2 rfl ?_
          refine g_iconst (v := 1) C dX2_seek_65 (by decide) ?_
          refine s_iadd C dX2_seek_66 (by show -2147483648 ≤ a1.toInt + 1 ∧ a1.toInt + 1 ≤ 2147483647; omega) (fun z34978 h34979 => ?_)
          have h34979 : z34978.toInt = a1.toInt + 1 := h34979
          refine b_icmp_le C 71 dX2_seek_67 (by decide) (fun h34980 => ?_) (fun h34980 => ?_)
          · have h34980 : z34969.toInt ≤ z34978.toInt := h34980
            refine g_aload_n C dX2_seek_71 rfl 1 rfl ?_
            refine g_iload_n C dX2_seek_72 rfl 2 rfl ?_
            refine g_iconst (v := 1) C dX2_seek_73 (by decide) ?_
            refine s_isub C dX2_seek_74 (by show -2147483648 ≤ a1.toInt - 1 ∧ a1.toInt - 1 ≤ 2147483647; omega) (fun z34981 h34982 => ?_)
            have h34982 : z34981.toInt = a1.toInt - 1 := h34982
            refine g_iload_n C dX2_seek_75 rfl 3 rfl ?_
            refine g_iload_n C dX2_seek_76 rfl 4 rfl ?_
            refine g_callVV (rest := []) C mv_X2_58 [.int z34981, .int a2, .int a3] (s_X2_seek_L2 I ha0 (by omega) (by omega)) (ha0).1 (ha0).2 rfl rfl (by decide) (Nat.le_of_ble_eq_true rfl) (by decide) dX2_seek_77 (fun Y34984 h34985 => ?_)
            obtain ⟨Iy34986, Xy34987⟩ := h34985
            have Xz34988 : EK [0, 2, 13] P Y34984 := Xy34987.mono (by decide)
            have h34989 := Xy34987.at ha0
            refine g_aload_n C dX2_seek_80 rfl 1 rfl ?_
            obtain ⟨b34990, e34991, h34992⟩ := Iy34986.fld (h34989) 2 0 0 rfl
            refine g_getR C fi_X2_21 rfl e34991 (h34989).1 (h34989).2 dX2_seek_81 ?_
            refine g_getI C fi_X2_62 (by decide) (h34992.at).1 (h34992.at).2 dX2_seek_84 ?_
            have h34993 := Iy34986.rg (h34992.at) 2 rfl
            refine g_topi (fun z34994 h34995 => ?_)
            have h34995 : z34994.toInt = (pI Y34984 b34990 2).toInt := congrArg Int32.toInt h34995
            refine g_istore (lv' := [(5, .int z34994), (4, .int z34969), (0, .ref a0), (1, .int a1), (2, .int a2), (3, .int a3)]) C dX2_seek_87 (by decide) rfl ?_
            refine g_aload_n C dX2_seek_89 rfl 2 rfl ?_
            obtain ⟨b34996, e34997, h34998⟩ := Iy34986.fld (h34989) 3 0 0 rfl
            refine g_getR C fi_X2_25 rfl e34997 (h34989).1 (h34989).2 dX2_seek_90 ?_
            refine g_getI C fi_X2_62 (by decide) (h34998.at).1 (h34998.at).2 dX2_seek_93 ?_
            have h34999 := Iy34986.rg (h34998.at) 2 rfl
            refine g_topi (fun z35000 h35001 => ?_)
            have h35001 : z35000.toInt = (pI Y34984 b34996 2).toInt := congrArg Int32.toInt h35001
            refine g_istore (lv' := [(6, .int z35000), (5, .int z34994), (4, .int z34969), (0, .ref a0), (1, .int a1), (2, .int a2), (3, .int a3)]) C dX2_seek_96 (by decide) rfl ?_
            refine g_aload_n C dX2_seek_98 rfl 3 rfl ?_
            refine g_getR C fi_X2_21 rfl e34991 (h34989).1 (h34989).2 dX2_seek_99 ?_
            refine g_aload_n C dX2_seek_102 rfl 3 rfl ?_
            obtain ⟨b35002, e35003, h35004⟩ := Iy34986.fld (h34989) 0 13 11 rfl
            refine g_getR C fi_X2_9 rfl e35003 (h34989).1 (h34989).2 dX2_seek_103 ?_
            refine g_iload_n C dX2_seek_106 rfl 4 rfl ?_
            refine g_iald (j := (a1.toInt.toNat)) C h35004.1 h35004.2.1 (ix_in h35004.2.2 (by omega)) dX2_seek_107 ?_
            refine g_topi (fun z35005 _ => ?_)
            refine g_callVV (rest := []) C mv_X2_71 [.int z35005] (s_X0_add Iy34986 h34992.at) (h34992.at).1 (h34992.at).2 rfl rfl (by decide) (Nat.le_of_ble_eq_true rfl) (by decide) dX2_seek_108 (fun Y35007 h35008 => ?_)
            obtain ⟨Iy35009, Xy35010⟩ := h35008
            have Xz35011 : EK [0, 2, 13] P Y35007 := Xz34988.tr (Xy35010.mono (by decide))
            have h35012 := Xy35010.at h34989
            refine g_aload_n C dX2_seek_111 rfl 3 rfl ?_
            obtain ⟨b35013, e35014, h35015⟩ := Iy35009.fld (h35012) 3 0 0 rfl
            refine g_getR C fi_X2_25 rfl e35014 (h35012).1 (h35012).2 dX2_seek_112 ?_
            refine g_aload_n C dX2_seek_115 rfl 3 rfl ?_
            obtain ⟨b35016, e35017, h35018⟩ := Iy35009.fld (h35012) 1 13 11 rfl
            refine g_getR C fi_X2_15 rfl e35017 (h35012).1 (h35012).2 dX2_seek_116 ?_
            refine g_iload_n C dX2_seek_119 rfl 4 rfl ?_
            refine g_iald (j := (a1.toInt.toNat)) C h35018.1 h35018.2.1 (ix_in h35018.2.2 (by omega)) dX2_seek_120 ?_
            refine g_topi (fun z35019 _ => ?_)
            refine g_callVV (rest := []) C mv_X2_71 [.int z35019] (s_X0_add Iy35009 h35015.at) (h35015.at).1 (h35015.at).2 rfl rfl (by decide) (Nat.le_of_ble_eq_true rfl) (by decide) dX2_seek_121 (fun Y35021 h35022 => ?_)
            obtain ⟨Iy35023, Xy35024⟩ := h35022
            have Xz35025 : EK [0, 2, 13] P Y35021 := Xz35011.tr (Xy35024.mono (by decide))
            have h35026 := Xy35024.at h35012
            refine g_aload_n C dX2_seek_124 rfl 3 rfl ?_
            obtain ⟨b35027, e35028, h35029⟩ := Iy35023.fld (h35026) 2 0 0 rfl
            refine g_getR C fi_X2_21 rfl e35028 (h35026).1 (h35026).2 dX2_seek_125 ?_
            refine g_getI C fi_X2_32 (by decide) (h35029.at).1 (h35029.at).2 dX2_seek_128 ?_
            have h35030 := Iy35023.rg (h35029.at) 3 rfl
            refine b_if_eq C 159 dX2_seek_131 (by decide) (fun h35031 => ?_) (fun h35031 => ?_)
            · have h35031 : (pI Y35021 b35027 3).toInt = 0 := congrArg Int32.toInt h35031
              refine g_lv (lv' := [(0, .ref a0), (5, .int z34994), (6, .int z35000)]) [3, 1, 0] rfl ?_
              exact J159 Y35021 z34994 z35000 Iy35023 Xz35025 (by omega) (by omega)
            · have h35031 : (pI Y35021 b35027 3).toInt ≠ 0 := ti_ne h35031
              refine g_aload_n C dX2_seek_134 rfl 3 rfl ?_
              obtain ⟨b35032, e35033, h35034⟩ := Iy35023.fld (h35026) 3 0 0 rfl
              refine g_getR C fi_X2_25 rfl e35033 (h35026).1 (h35026).2 dX2_seek_135 ?_
              refine g_getI C fi_X2_32 (by decide) (h35034.at).1 (h35034.at).2 dX2_seek_138 ?_
              have h35035 := Iy35023.rg (h35034.at) 3 rfl
              refine b_if_eq C 159 dX2_seek_141 (by decide) (fun h35036 => ?_) (fun h35036 => ?_)
              · have h35036 : (pI Y35021 b35032 3).toInt = 0 := congrArg Int32.toInt h35036
                refine g_lv (lv' := [(0, .ref a0), (5, .int z34994), (6, .int z35000)]) [3, 1, 0] rfl ?_
                exact J159 Y35021 z34994 z35000 Iy35023 Xz35025 (by omega) (by omega)
              · have h35036 : (pI Y35021 b35032 3).toInt ≠ 0 := ti_ne h35036
                refine g_aload_n C dX2_seek_144 rfl 3 rfl ?_
                refine g_iload_n C dX2_seek_145 rfl 4 rfl ?_
                refine g_iconst (v := 1) C dX2_seek_146 (by decide) ?_
                refine s_isub C dX2_seek_147 (by show -2147483648 ≤ a1.toInt - 1 ∧ a1.toInt - 1 ≤ 2147483647; omega) (fun z35037 h35038 => ?_)
                have h35038 : z35037.toInt = a1.toInt - 1 := h35038
                refine g_iload_n C dX2_seek_148 rfl 5 rfl ?_
                refine g_iconst (v := 1) C dX2_seek_149 (by decide) ?_
                refine g_iload_n C dX2_seek_150 rfl 4 rfl ?_
                refine a_ishl C dX2_seek_151 (fun z35039 => ?_)
                refine a_ior C dX2_seek_152 (fun z35041 => ?_)
                refine g_iload_n C dX2_seek_153 rfl 6 rfl ?_
                refine g_iconst (v := 1) C dX2_seek_154 (by decide) ?_
                refine s_iadd C dX2_seek_155 (by show -2147483648 ≤ a3.toInt + 1 ∧ a3.toInt + 1 ≤ 2147483647; omega) (fun z35043 h35044 => ?_)
                have h35044 : z35043.toInt = a3.toInt + 1 := h35044
                refine g_callVV (rest := []) C mv_X2_58 [.int z35037, .int z35041, .int z35043] (s_X2_seek_L2 Iy35023 h35026 (by omega) (by omega)) (h35026).1 (h35026).2 rfl rfl (by decide) (Nat.le_of_ble_eq_true rfl) (by decide) dX2_seek_156 (fun Y35046 h35047 => ?_)
                obtain ⟨Iy35048, Xy35049⟩ := h35047
                have Xz35050 : EK [0, 2, 13] P Y35046 := Xz35025.tr (Xy35049.mono (by decide))
                have h35051 := Xy35049.at h35026
                refine g_lv (lv' := [(0, .ref a0), (5, .int z34994), (6, .int z35000)]) [3, 1, 0] rfl ?_
                exact J159 Y35046 z34994 z35000 Iy35048 Xz35050 (by omega) (by omega)
          · have h34980 : z34978.toInt < z34969.toInt := h34980
            exact ret _ _ _ _ _ dX2_seek_70 (by decide) (by decide) ⟨I, EK.rf⟩
    · have h34975 : z34969.toInt = 0 := congrArg Int32.toInt h34975
      refine g_aload_n C dX2_seek_41 rfl 1 rfl ?_
      refine g_iload_n C dX2_seek_42 rfl 4 rfl ?_
      refine g_putI C fi_X2_45 rfl (ha0).1 (ha0).2 dX2_seek_43 ?_
      refine gpW (ks := [2]) (I.setI (ha0) (rgOk.of rfl (by omega))) (EK.setI (ha0).2 (by decide)) (fun Y35052 Iy35053 Xy35054 w35055 w35056 => ?_)
      have q35057 := w35055 4 (by decide)
      have q35058 := Xy35054.keep (h34961.at) (by decide) 2
      have q35059 := Xy35054.keep (h34965.at) (by decide) 2
      have Xz35060 : EK [0, 2, 13] P Y35052 := Xy35054.mono (by decide)
      have h35061 := Xy35054.at ha0
      refine g_aload_n C dX2_seek_46 rfl 1 rfl ?_
      refine g_iload_n C dX2_seek_47 rfl 3 rfl ?_
      refine g_putI C fi_X2_48 rfl (h35061).1 (h35061).2 dX2_seek_48 ?_
      refine gpW (ks := [2]) (Iy35053.setI (h35061) (rgOk.none rfl)) (EK.setI (h35061).2 (by decide)) (fun Y35062 Iy35063 Xy35064 w35065 w35066 => ?_)
      have q35067 := w35065 4 (by decide)
      have q35068 := w35065 5 (by decide)
      have Xz35069 : EK [0, 2, 13] P Y35062 := Xz35060.tr (Xy35064.mono (by decide))
      have h35070 := Xy35064.at h35061
      exact ret _ _ _ _ _ dX2_seek_51 (by decide) (by decide) ⟨Iy35063, Xz35069⟩
  · have h34974 : (pI P a0 5).toInt ≤ z34971.toInt := h34974
    exact ret _ _ _ _ _ dX2_seek_35 (by decide) (by decide) ⟨I, EK.rf⟩
set_option maxHeartbeats 4000000 in
set_option maxRecDepth 100000 in
theorem s_X2_seek_L4 {P : PP} {a0 : Nat} {a1 : Int32} {a2 : Int32} {a3 : Int32} (I : IV P) (ha0 : At P a0 2) (ha1 : 3 ≤ a1.toInt ∧ a1.toInt ≤ 3) (ha3 : 0 ≤ a3.toInt ∧ a3.toInt ≤ 7) : CtrV yX2_seek cX2_seek 7 none ({ frames := 6, cells := 0, slots := 0, locals := 384 } : Room) 0 0 P [.ref a0, .int a1, .int a2, .int a3] (fun P2 => IV P2 ∧ EK [0, 2, 13] P P2) := by
  refine enV (lv := [(0, .ref a0), (1, .int a1), (2, .int a2), (3, .int a3)]) (by decide) (Nat.le_of_ble_eq_true rfl) rfl (fun E D cy C Ci0 ret => ?_)
  have J159 : ∀ (P159 : PP) (v159_5 : Int32) (v159_6 : Int32), (IV P159) → (EK [0, 2, 13] P P159) → (0 ≤ v159_5.toInt ∧ v159_5.toInt ≤ 20) → (0 ≤ v159_6.toInt ∧ v159_6.toInt ≤ 20) → G E ({ frames := 6, cells := 0, slots := 0, locals := 384 } : Room) D cy 7 P159 0 0 159 [(0, .ref a0), (5, .int v159_5), (6, .int v159_6)] [] := by
    intro P159 v159_5 v159_6 I159 X159 hv159_5 hv159_6
    have h35205 := X159.at ha0
    refine g_aload_n C dX2_seek_159 rfl 0 rfl ?_
    obtain ⟨b35206, e35207, h35208⟩ := I159.fld (h35205) 2 0 0 rfl
    refine g_getR C fi_X2_21 rfl e35207 (h35205).1 (h35205).2 dX2_seek_160 ?_
    refine g_iload C dX2_seek_163 1 rfl ?_
    refine g_callVV (rest := []) C mv_X2_75 [.int v159_5] (s_X0_cut I159 h35208.at) (h35208.at).1 (h35208.at).2 rfl rfl (by decide) (Nat.le_of_ble_eq_true rfl) (by decide) dX2_seek_165 (fun Y35210 h35211 => ?_)
    obtain ⟨Iy35212, Xy35213⟩ := h35211
    have Xz35214 : EK [0, 2, 13] P Y35210 := X159.tr (Xy35213.mono (by decide))
    have h35215 := Xy35213.at h35205
    refine g_aload_n C dX2_seek_168 rfl 0 rfl ?_
    obtain ⟨b35216, e35217, h35218⟩ := Iy35212.fld (h35215) 3 0 0 rfl
    refine g_getR C fi_X2_25 rfl e35217 (h35215).1 (h35215).2 dX2_seek_169 ?_
    refine g_iload C dX2_seek_172 2 rfl ?_
    refine g_callVV (rest := []) C mv_X2_75 [.int v159_6] (s_X0_cut Iy35212 h35218.at) (h35218.at).1 (h35218.at).2 rfl rfl (by decide) (Nat.le_of_ble_eq_true rfl) (by decide) dX2_seek_174 (fun Y35220 h35221 => ?_)
    obtain ⟨Iy35222, Xy35223⟩ := h35221
    have Xz35224 : EK [0, 2, 13] P Y35220 := Xz35214.tr (Xy35223.mono (by decide))
    have h35225 := Xy35223.at h35215
    exact ret _ _ _ _ _ dX2_seek_177 (by decide) (by decide) ⟨Iy35222, Xz35224⟩
  refine g_aload_n C dX2_seek_0 rfl 0 rfl ?_
  refine g_getI C fi_X2_42 (by decide) (ha0).1 (ha0).2 dX2_seek_1 ?_
  have h35226 := I.rg (ha0) 4 rfl
  refine g_aload_n C dX2_seek_4 rfl 0 rfl ?_
  obtain ⟨b35227, e35228, h35229⟩ := I.fld (ha0) 2 0 0 rfl
  refine g_getR C fi_X2_21 rfl e35228 (ha0).1 (ha0).2 dX2_seek_5 ?_
  refine g_getI C fi_X2_62 (by decide) (h35229.at).1 (h35229.at).2 dX2_seek_8 ?_
  have h35230 := I.rg (h35229.at) 2 rfl
  refine g_aload_n C dX2_seek_11 rfl 0 rfl ?_
  obtain ⟨b35231, e35232, h35233⟩ := I.fld (ha0) 3 0 0 rfl
  refine g_getR C fi_X2_25 rfl e35232 (ha0).1 (ha0).2 dX2_seek_12 ?_
  refine g_getI C fi_X2_62 (by decide) (h35233.at).1 (h35233.at).2 dX2_seek_15 ?_
  have h35234 := I.rg (h35233.at) 2 rfl
  refine g_mmin C ms_X2_65 (by decide) (by decide) (Nat.le_of_ble_eq_true rfl) (by decide) dX2_seek_18 (fun z35235 h35236 => ?_)
  have h35236 : z35235.toInt ≤ (pI P b35227 2).toInt ∧ z35235.toInt ≤ (pI P b35231 2).toInt ∧ (z35235.toInt = (pI P b35227 2).toInt ∨ z35235.toInt = (pI P b35231 2).toInt) := h35236
  refine s_isub C dX2_seek_21 (by show -2147483648 ≤ (pI P a0 4).toInt - z35235.toInt ∧ (pI P a0 4).toInt - z35235.toInt ≤ 2147483647; omega) (fun z35237 h35238 => ?_)
  have h35238 : z35237.toInt = (pI P a0 4).toInt - z35235.toInt := h35238
  refine g_istore (lv' := [(4, .int z35237), (0, .ref a0), (1, .int a1), (2, .int a2), (3, .int a3)]) C dX2_seek_22 (by decide) rfl ?_
  refine g_iload_n C dX2_seek_24 rfl 4 rfl ?_
  refine g_iload C dX2_seek_25 0 rfl ?_
  refine s_iadd C dX2_seek_27 (by show -2147483648 ≤ a3.toInt + z35237.toInt ∧ a3.toInt + z35237.toInt ≤ 2147483647; omega) (fun z35239 h35240 => ?_)
  have h35240 : z35239.toInt = a3.toInt + z35237.toInt := h35240
  refine g_aload_n C dX2_seek_28 rfl 1 rfl ?_
  refine g_getI C fi_X2_45 (by decide) (ha0).1 (ha0).2 dX2_seek_29 ?_
  have h35241 := I.rg (ha0) 5 rfl
  refine b_icmp_lt C 36 dX2_seek_32 (by decide) (fun h35242 => ?_) (fun h35242 => ?_)
  · have h35242 : z35239.toInt < (pI P a0 5).toInt := h35242
    refine g_iload C dX2_seek_36 0 rfl ?_
    refine b_if_ne C 52 dX2_seek_38 (by decide) (fun h35243 => ?_) (fun h35243 => ?_)
    · have h35243 : z35237.toInt ≠ 0 := ti_ne h35243
      refine g_iload_n C dX2_seek_52 rfl 2 rfl ?_
      refine b_if_lt C 70 dX2_seek_53 (by decide) (fun h35244 => ?_) (fun h35244 => ?_)
      · have h35244 : a1.toInt < 0 := h35244
        omega
      · have h35244 : 0 ≤ a1.toInt := h35244
        refine g_iload_n C dX2_seek_56 rfl 2 rfl ?_
        refine g_bipush (v := 11) C dX2_seek_57 (by decide) ?_
        refine b_icmp_ge C 70 dX2_seek_59 (by decide) (fun h35245 => ?_) (fun h35245 => ?_)
        · have h35245 : 11 ≤ a1.toInt := h35245
          omega
        · have h35245 : a1.toInt < 11 := h35245
          refine g_iload C dX2_seek_62 0 rfl ?_
          refine g_iload_n C dX2_seek_64 rfl 2 rfl ?_
          refine g_iconst (v := 1) C dX2_seek_65 (by decide) ?_
          refine s_iadd C dX2_seek_66 (by show -2147483648 ≤ a1.toInt + 1 ∧ a1.toInt + 1 ≤ 2147483647; omega) (fun z35246 h35247 => ?_)
          have h35247 : z35246.toInt = a1.toInt + 1 := h35247
          refine b_icmp_le C 71 dX2_seek_67 (by decide) (fun h35248 => ?_) (fun h35248 => ?_)
          · have h35248 : z35237.toInt ≤ z35246.toInt := h35248
            refine g_aload_n C dX2_seek_71 rfl 1 rfl ?_
            refine g_iload_n C dX2_seek_72 rfl 2 rfl ?_
            refine g_iconst (v := 1) C dX2_seek_73 (by decide) ?_
            refine s_isub C dX2_seek_74 (by show -2147483648 ≤ a1.toInt - 1 ∧ a1.toInt - 1 ≤ 2147483647; omega) (fun z35249 h35250 => ?_)
            have h35250 : z35249.toInt = a1.toInt - 1 := h35250
            refine g_iload_n C dX2_seek_75 rfl 3 rfl ?_
            refine g_iload_n C dX2_seek_76 rfl 4 rfl ?_
            refine g_callVV (rest := []) C mv_X2_58 [.int z35249, .int a2, .int a3] (s_X2_seek_L3 I ha0 (by omega) (by omega)) (ha0).1 (ha0).2 rfl rfl (by decide) (Nat.le_of_ble_eq_true rfl) (by decide) dX2_seek_77 (fun Y35252 h35253 => ?_)
            obtain ⟨Iy35254, Xy35255⟩ := h35253
            have Xz35256 : EK [0, 2, 13] P Y35252 := Xy35255.mono (by decide)
            have h35257 := Xy35255.at ha0
            refine g_aload_n C dX2_seek_80 rfl 1 rfl ?_
            obtain ⟨b35258, e35259, h35260⟩ := Iy35254.fld (h35257) 2 0 0 rfl
            refine g_getR C fi_X2_21 rfl e35259 (h35257).1 (h35257).2 dX2_seek_81 ?_
            refine g_getI C fi_X2_62 (by decide) (h35260.at).1 (h35260.at).2 dX2_seek_84 ?_
            have h35261 := Iy35254.rg (h35260.at) 2 rfl
            refine g_topi (fun z35262 h35263 => ?_)
            have h35263 : z35262.toInt = (pI Y35252 b35258 2).toInt := congrArg Int32.toInt h35263
            refine g_istore (lv' := [(5, .int z35262), (4, .int z35237), (0, .ref a0), (1, .int a1), (2, .int a2), (3, .int a3)]) C dX2_seek_87 (by decide) rfl ?_
            refine g_aload_n C dX2_seek_89 rfl 2 rfl ?_
            obtain ⟨b35264, e35265, h35266⟩ := Iy35254.fld (h35257) 3 0 0 rfl
            refine g_getR C fi_X2_25 rfl e35265 (h35257).1 (h35257).2 dX2_seek_90 ?_
            refine g_getI C fi_X2_62 (by decide) (h35266.at).1 (h35266.at).2 dX2_seek_93 ?_
            have h35267 := Iy35254.rg (h35266.at) 2 rfl
            refine g_topi (fun z35268 h35269 => ?_)
            have h35269 : z35268.toInt = (pI Y35252 b35264 2).toInt := congrArg Int32.toInt h35269
            refine g_istore (lv' := [(6, .int z35268), (5, .int z35262), (4, .int z35237), (0, .ref a0), (1, .int a1), (2, .int a2), (3, .int a3)]) C dX2_seek_96 (by decide) rfl ?_
            refine g_aload_n C dX2_seek_98 rfl 3 rfl ?_
            refine g_getR C fi_X2_21 rfl e35259 (h35257).1 (h35257).2 dX2_seek_99 ?_
            refine g_aload_n C dX2_seek_102 rfl 3 rfl ?_
            obtain ⟨b35270, e35271, h35272⟩ := Iy35254.fld (h35257) 0 13 11 rfl
            refine g_getR C fi_X2_9 rfl e35271 (h35257).1 (h35257).2 dX2_seek_103 ?_
            refine g_iload_n C dX2_seek_106 rfl 4 rfl ?_
            refine g_iald (j := (a1.toInt.toNat)) C h35272.1 h35272.2.1 (ix_in h35272.2.2 (by omega)) dX2_seek_107 ?_
            refine g_topi (fun z35273 _ => ?_)
            refine g_callVV (rest := []) C mv_X2_71 [.int z35273] (s_X0_add Iy35254 h35260.at) (h35260.at).1 (h35260.at).2 rfl rfl (by decide) (Nat.le_of_ble_eq_true rfl) (by decide) dX2_seek_108 (fun Y35275 h35276 => ?_)
            obtain ⟨Iy35277, Xy35278⟩ := h35276
            have Xz35279 : EK [0, 2, 13] P Y35275 := Xz35256.tr (Xy35278.mono (by decide))
            have h35280 := Xy35278.at h35257
            refine g_aload_n C dX2_seek_111 rfl 3 rfl ?_
            obtain ⟨b35281, e35282, h35283⟩ := Iy35277.fld (h35280) 3 0 0 rfl
            refine g_getR C fi_X2_25 rfl e35282 (h35280).1 (h35280).2 dX2_seek_112 ?_
            refine g_aload_n C dX2_seek_115 rfl 3 rfl ?_
            obtain ⟨b35284, e35285, h35286⟩ := Iy35277.fld (h35280) 1 13 11 rfl
            refine g_getR C fi_X2_15 rfl e35285 (h35280).1 (h35280).2 dX2_seek_116 ?_
            refine g_iload_n C dX2_seek_119 rfl 4 rfl ?_
            refine g_iald (j := (a1.toInt.toNat)) C h35286.1 h35286.2.1 (ix_in h35286.2.2 (by omega)) dX2_seek_120 ?_
            refine g_topi (fun z35287 _ => ?_)
            refine g_callVV (rest := []) C mv_X2_71 [.int z35287] (s_X0_add Iy35277 h35283.at) (h35283.at).1 (h35283.at).2 rfl rfl (by decide) (Nat.le_of_ble_eq_true rfl) (by decide) dX2_seek_121 (fun Y35289 h35290 => ?_)
            obtain ⟨Iy35291, Xy35292⟩ := h35290
            have Xz35293 : EK [0, 2, 13] P Y35289 := Xz35279.tr (Xy35292.mono (by decide))
            have h35294 := Xy35292.at h35280
            refine g_aload_n C dX2_seek_124 rfl 3 rfl ?_
            obtain ⟨b35295, e35296, h35297⟩ := Iy35291.fld (h35294) 2 0 0 rfl
            refine g_getR C fi_X2_21 rfl e35296 (h35294).1 (h35294).2 dX2_seek_125 ?_
            refine g_getI C fi_X2_32 (by decide) (h35297.at).1 (h35297.at).2 dX2_seek_128 ?_
            have h35298 := Iy35291.rg (h35297.at) 3 rfl
            refine b_if_eq C 159 dX2_seek_131 (by decide) (fun h35299 => ?_) (fun h35299 => ?_)
            · have h35299 : (pI Y35289 b35295 3).toInt = 0 := congrArg Int32.toInt h35299
              refine g_lv (lv' := [(0, .ref a0), (5, .int z35262), (6, .int z35268)]) [3, 1, 0] rfl ?_
              exact J159 Y35289 z35262 z35268 Iy35291 Xz35293 (by omega) (by omega)
            · have h35299 : (pI Y35289 b35295 3).toInt ≠ 0 := ti_ne h35299
              refine g_aload_n C dX2_seek_134 rfl 3 rfl ?_
              obtain ⟨b35300, e35301, h35302⟩ := Iy35291.fld (h35294) 3 0 0 rfl
              refine g_getR C fi_X2_25 rfl e35301 (h35294).1 (h35294).2 dX2_seek_135 ?_
              refine g_getI C fi_X2_32 (by decide) (h35302.at).1 (h35302.at).2 dX2_seek_138 ?_
              have h35303 := Iy35291.rg (h35302.at) 3 rfl
              refine b_if_eq C 159 dX2_seek_141 (by decide) (fun h35304 => ?_) (fun h35304 => ?_)
              · have h35304 : (pI Y35289 b35300 3).toInt = 0 := congrArg Int32.toInt h35304
                refine g_lv (lv' := [(0, .ref a0), (5, .int z35262), (6, .int z35268)]) [3, 1, 0] rfl ?_
                exact J159 Y35289 z35262 z35268 Iy35291 Xz35293 (by omega) (by omega)
              · have h35304 : (pI Y35289 b35300 3).toInt ≠ 0 := ti_ne h35304
                refine g_aload_n C dX2_seek_144 rfl 3 rfl ?_
                refine g_iload_n C dX2_seek_145 rfl 4 rfl ?_
                refine g_iconst (v := 1) C dX2_seek_146 (by decide) ?_
                refine s_isub C dX2_seek_147 (by show -2147483648 ≤ a1.toInt - 1 ∧ a1.toInt - 1 ≤ 2147483647; omega) (fun z35305 h35306 => ?_)
                have h35306 : z35305.toInt = a1.toInt - 1 := h35306
                refine g_iload_n C dX2_seek_148 rfl 5 rfl ?_
                refine g_iconst (v := 1) C dX2_seek_149 (by decide) ?_
                refine g_iload_n C dX2_seek_150 rfl 4 rfl ?_
                refine a_ishl C dX2_seek_151 (fun z35307 => ?_)
                refine a_ior C dX2_seek_152 (fun z35309 => ?_)
                refine g_iload_n C dX2_seek_153 rfl 6 rfl ?_
                refine g_iconst (v := 1) C dX2_seek_154 (by decide) ?_
                refine s_iadd C dX2_seek_155 (by show -2147483648 ≤ a3.toInt + 1 ∧ a3.toInt + 1 ≤ 2147483647; omega) (fun z35311 h35312 => ?_)
                have h35312 : z35311.toInt = a3.toInt + 1 := h35312
                refine g_callVV (rest := []) C mv_X2_58 [.int z35305, .int z35309, .int z35311] (s_X2_seek_L3 Iy35291 h35294 (by omega) (by omega)) (h35294).1 (h35294).2 rfl rfl (by decide) (Nat.le_of_ble_eq_true rfl) (by decide) dX2_seek_156 (fun Y35314 h35315 => ?_)
                obtain ⟨Iy35316, Xy35317⟩ := h35315
                have Xz35318 : EK [0, 2, 13] P Y35314 := Xz35293.tr (Xy35317.mono (by decide))
                have h35319 := Xy35317.at h35294
                refine g_lv (lv' := [(0, .ref a0), (5, .int z35262), (6, .int z35268)]) [3, 1, 0] rfl ?_
                exact J159 Y35314 z35262 z35268 Iy35316 Xz35318 (by omega) (by omega)
          · have h35248 : z35246.toInt < z35237.toInt := h35248
            exact ret _ _ _ _ _ dX2_seek_70 (by decide) (by decide) ⟨I, EK.rf⟩
    · have h35243 : z35237.toInt = 0 := congrArg Int32.toInt h35243
      refine g_aload_n C dX2_seek_41 rfl 1 rfl ?_
      refine g_iload_n C dX2_seek_42 rfl 4 rfl ?_
      refine g_putI C fi_X2_45 rfl (ha0).1 (ha0).2 dX2_seek_43 ?_
      refine gpW (ks := [2]) (I.setI (ha0) (rgOk.of rfl (by omega))) (EK.setI (ha0).2 (by decide)) (fun Y35320 Iy35321 Xy35322 w35323 w35324 => ?_)
      have q35325 := w35323 4 (by decide)
      have q35326 := Xy35322.keep (h35229.at) (by decide) 2
      have q35327 := Xy35322.keep (h35233.at) (by decide) 2
      have Xz35328 : EK [0, 2, 13] P Y35320 := Xy35322.mono (by decide)
      have h35329 := Xy35322.at ha0
      refine g_aload_n C dX2_seek_46 rfl 1 rfl ?_
      refine g_iload_n C dX2_seek_47 rfl 3 rfl ?_
      refine g_putI C fi_X2_48 rfl (h35329).1 (h35329).2 dX2_seek_48 ?_
      refine gpW (ks := [2]) (Iy35321.setI (h35329) (rgOk.none rfl)) (EK.setI (h35329).2 (by decide)) (fun Y35330 Iy35331 Xy35332 w35333 w35334 => ?_)
      have q35335 := w35333 4 (by decide)
      have q35336 := w35333 5 (by decide)
      have Xz35337 : EK [0, 2, 13] P Y35330 := Xz35328.tr (Xy35332.mono (by decide))
      have h35338 := Xy35332.at h35329
      exact ret _ _ _ _ _ dX2_seek_51 (by decide) (by decide) ⟨Iy35331, Xz35337⟩
  · have h35242 : (pI P a0 5).toInt ≤ z35239.toInt := h35242
    exact ret _ _ _ _ _ dX2_seek_35 (by decide) (by decide) ⟨I, EK.rf⟩
set_option maxHeartbeats 4000000 in
set_option maxRecDepth 100000 in
theorem s_X2_seek_L5 {P : PP} {a0 : Nat} {a1 : Int32} {a2 : Int32} {a3 : Int32} (I : IV P) (ha0 : At P a0 2) (ha1 : 4 ≤ a1.toInt ∧ a1.toInt ≤ 4) (ha3 : 0 ≤ a3.toInt ∧ a3.toInt ≤ 6) : CtrV yX2_seek cX2_seek 7 none ({ frames := 7, cells := 0, slots := 0, locals := 448 } : Room) 0 0 P [.ref a0, .int a1, .int a2, .int a3] (fun P2 => IV P2 ∧ EK [0, 2, 13] P P2) := by
  refine enV (lv := [(0, .ref a0), (1, .int a1), (2, .int a2), (3, .int a3)]) (by decide) (Nat.le_of_ble_eq_true rfl) rfl (fun E D cy C Ci0 ret => ?_)
  have J159 : ∀ (P159 : PP) (v159_5 : Int32) (v159_6 : Int32), (IV P159) → (EK [0, 2, 13] P P159) → (0 ≤ v159_5.toInt ∧ v159_5.toInt ≤ 20) → (0 ≤ v159_6.toInt ∧ v159_6.toInt ≤ 20) → G E ({ frames := 7, cells := 0, slots := 0, locals := 448 } : Room) D cy 7 P159 0 0 159 [(0, .ref a0), (5, .int v159_5), (6, .int v159_6)] [] := by
    intro P159 v159_5 v159_6 I159 X159 hv159_5 hv159_6
    have h35473 := X159.at ha0
    refine g_aload_n C dX2_seek_159 rfl 0 rfl ?_
    obtain ⟨b35474, e35475, h35476⟩ := I159.fld (h35473) 2 0 0 rfl
    refine g_getR C fi_X2_21 rfl e35475 (h35473).1 (h35473).2 dX2_seek_160 ?_
    refine g_iload C dX2_seek_163 1 rfl ?_
    refine g_callVV (rest := []) C mv_X2_75 [.int v159_5] (s_X0_cut I159 h35476.at) (h35476.at).1 (h35476.at).2 rfl rfl (by decide) (Nat.le_of_ble_eq_true rfl) (by decide) dX2_seek_165 (fun Y35478 h35479 => ?_)
    obtain ⟨Iy35480, Xy35481⟩ := h35479
    have Xz35482 : EK [0, 2, 13] P Y35478 := X159.tr (Xy35481.mono (by decide))
    have h35483 := Xy35481.at h35473
    refine g_aload_n C dX2_seek_168 rfl 0 rfl ?_
    obtain ⟨b35484, e35485, h35486⟩ := Iy35480.fld (h35483) 3 0 0 rfl
    refine g_getR C fi_X2_25 rfl e35485 (h35483).1 (h35483).2 dX2_seek_169 ?_
    refine g_iload C dX2_seek_172 2 rfl ?_
    refine g_callVV (rest := []) C mv_X2_75 [.int v159_6] (s_X0_cut Iy35480 h35486.at) (h35486.at).1 (h35486.at).2 rfl rfl (by decide) (Nat.le_of_ble_eq_true rfl) (by decide) dX2_seek_174 (fun Y35488 h35489 => ?_)
    obtain ⟨Iy35490, Xy35491⟩ := h35489
    have Xz35492 : EK [0, 2, 13] P Y35488 := Xz35482.tr (Xy35491.mono (by decide))
    have h35493 := Xy35491.at h35483
    exact ret _ _ _ _ _ dX2_seek_177 (by decide) (by decide) ⟨Iy35490, Xz35492⟩
  refine g_aload_n C dX2_seek_0 rfl 0 rfl ?_
  refine g_getI C fi_X2_42 (by decide) (ha0).1 (ha0).2 dX2_seek_1 ?_
  have h35494 := I.rg (ha0) 4 rfl
  refine g_aload_n C dX2_seek_4 rfl 0 rfl ?_
  obtain ⟨b35495, e35496, h35497⟩ := I.fld (ha0) 2 0 0 rfl
  refine g_getR C fi_X2_21 rfl e35496 (ha0).1 (ha0).2 dX2_seek_5 ?_
  refine g_getI C fi_X2_62 (by decide) (h35497.at).1 (h35497.at).2 dX2_seek_8 ?_
  have h35498 := I.rg (h35497.at) 2 rfl
  refine g_aload_n C dX2_seek_11 rfl 0 rfl ?_
  obtain ⟨b35499, e35500, h35501⟩ := I.fld (ha0) 3 0 0 rfl
  refine g_getR C fi_X2_25 rfl e35500 (ha0).1 (ha0).2 dX2_seek_12 ?_
  refine g_getI C fi_X2_62 (by decide) (h35501.at).1 (h35501.at).2 dX2_seek_15 ?_
  have h35502 := I.rg (h35501.at) 2 rfl
  refine g_mmin C ms_X2_65 (by decide) (by decide) (Nat.le_of_ble_eq_true rfl) (by decide) dX2_seek_18 (fun z35503 h35504 => ?_)
  have h35504 : z35503.toInt ≤ (pI P b35495 2).toInt ∧ z35503.toInt ≤ (pI P b35499 2).toInt ∧ (z35503.toInt = (pI P b35495 2).toInt ∨ z35503.toInt = (pI P b35499 2).toInt) := h35504
  refine s_isub C dX2_seek_21 (by show -2147483648 ≤ (pI P a0 4).toInt - z35503.toInt ∧ (pI P a0 4).toInt - z35503.toInt ≤ 2147483647; omega) (fun z35505 h35506 => ?_)
  have h35506 : z35505.toInt = (pI P a0 4).toInt - z35503.toInt := h35506
  refine g_istore (lv' := [(4, .int z35505), (0, .ref a0), (1, .int a1), (2, .int a2), (3, .int a3)]) C dX2_seek_22 (by decide) rfl ?_
  refine g_iload_n C dX2_seek_24 rfl 4 rfl ?_
  refine g_iload C dX2_seek_25 0 rfl ?_
  refine s_iadd C dX2_seek_27 (by show -2147483648 ≤ a3.toInt + z35505.toInt ∧ a3.toInt + z35505.toInt ≤ 2147483647; omega) (fun z35507 h35508 => ?_)
  have h35508 : z35507.toInt = a3.toInt + z35505.toInt := h35508
  refine g_aload_n C dX2_seek_28 rfl 1 rfl ?_
  refine g_getI C fi_X2_45 (by decide) (ha0).1 (ha0).2 dX2_seek_29 ?_
  have h35509 := I.rg (ha0) 5 rfl
  refine b_icmp_lt C 36 dX2_seek_32 (by decide) (fun h35510 => ?_) (fun h35510 => ?_)
  · have h35510 : z35507.toInt < (pI P a0 5).toInt := h35510
    refine g_iload C dX2_seek_36 0 rfl ?_
    refine b_if_ne C 52 dX2_seek_38 (by decide) (fun h35511 => ?_) (fun h35511 => ?_)
    · have h35511 : z35505.toInt ≠ 0 := ti_ne h35511
      refine g_iload_n C dX2_seek_52 rfl 2 rfl ?_
      refine b_if_lt C 70 dX2_seek_53 (by decide) (fun h35512 => ?_) (fun h35512 => ?_)
      · have h35512 : a1.toInt < 0 := h35512
        omega
      · have h35512 : 0 ≤ a1.toInt := h35512
        refine g_iload_n C dX2_seek_56 rfl 2 rfl ?_
        refine g_bipush (v := 11) C dX2_seek_57 (by decide) ?_
        refine b_icmp_ge C 70 dX2_seek_59 (by decide) (fun h35513 => ?_) (fun h35513 => ?_)
        · have h35513 : 11 ≤ a1.toInt := h35513
          omega
        · have h35513 : a1.toInt < 11 := h35513
          refine g_iload C dX2_seek_62 0 rfl ?_
          refine g_iload_n C dX2_seek_64 rfl 2 rfl ?_
          refine g_iconst (v := 1) C dX2_seek_65 (by decide) ?_
          refine s_iadd C dX2_seek_66 (by show -2147483648 ≤ a1.toInt + 1 ∧ a1.toInt + 1 ≤ 2147483647; omega) (fun z35514 h35515 => ?_)
          have h35515 : z35514.toInt = a1.toInt + 1 := h35515
          refine b_icmp_le C 71 dX2_seek_67 (by decide) (fun h35516 => ?_) (fun h35516 => ?_)
          · have h35516 : z35505.toInt ≤ z35514.toInt := h35516
            refine g_aload_n C dX2_seek_71 rfl 1 rfl ?_
            refine g_iload_n C dX2_seek_72 rfl 2 rfl ?_
            refine g_iconst (v := 1) C dX2_seek_73 (by decide) ?_
            refine s_isub C dX2_seek_74 (by show -2147483648 ≤ a1.toInt - 1 ∧ a1.toInt - 1 ≤ 2147483647; omega) (fun z35517 h35518 => ?_)
            have h35518 : z35517.toInt = a1.toInt - 1 := h35518
            refine g_iload_n C dX2_seek_75 rfl 3 rfl ?_
            refine g_iload_n C dX2_seek_76 rfl 4 rfl ?_
            refine g_callVV (rest := []) C mv_X2_58 [.int z35517, .int a2, .int a3] (s_X2_seek_L4 I ha0 (by omega) (by omega)) (ha0).1 (ha0).2 rfl rfl (by decide) (Nat.le_of_ble_eq_true rfl) (by decide) dX2_seek_77 (fun Y35520 h35521 => ?_)
            obtain ⟨Iy35522, Xy35523⟩ := h35521
            have Xz35524 : EK [0, 2, 13] P Y35520 := Xy35523.mono (by decide)
            have h35525 := Xy35523.at ha0
            refine g_aload_n C dX2_seek_80 rfl 1 rfl ?_
            obtain ⟨b35526, e35527, h35528⟩ := Iy35522.fld (h35525) 2 0 0 rfl
            refine g_getR C fi_X2_21 rfl e35527 (h35525).1 (h35525).2 dX2_seek_81 ?_
            refine g_getI C fi_X2_62 (by decide) (h35528.at).1 (h35528.at).2 dX2_seek_84 ?_
            have h35529 := Iy35522.rg (h35528.at) 2 rfl
            refine g_topi (fun z35530 h35531 => ?_)
            have h35531 : z35530.toInt = (pI Y35520 b35526 2).toInt := congrArg Int32.toInt h35531
            refine g_istore (lv' := [(5, .int z35530), (4, .int z35505), (0, .ref a0), (1, .int a1), (2, .int a2), (3, .int a3)]) C dX2_seek_87 (by decide) rfl ?_
            refine g_aload_n C dX2_seek_89 rfl 2 rfl ?_
            obtain ⟨b35532, e35533, h35534⟩ := Iy35522.fld (h35525) 3 0 0 rfl
            refine g_getR C fi_X2_25 rfl e35533 (h35525).1 (h35525).2 dX2_seek_90 ?_
            refine g_getI C fi_X2_62 (by decide) (h35534.at).1 (h35534.at).2 dX2_seek_93 ?_
            have h35535 := Iy35522.rg (h35534.at) 2 rfl
            refine g_topi (fun z35536 h35537 => ?_)
            have h35537 : z35536.toInt = (pI Y35520 b35532 2).toInt := congrArg Int32.toInt h35537
            refine g_istore (lv' := [(6, .int z35536), (5, .int z35530), (4, .int z35505), (0, .ref a0), (1, .int a1), (2, .int a2), (3, .int a3)]) C dX2_seek_96 (by decide) rfl ?_
            refine g_aload_n C dX2_seek_98 rfl 3 rfl ?_
            refine g_getR C fi_X2_21 rfl e35527 (h35525).1 (h35525).2 dX2_seek_99 ?_
            refine g_aload_n C dX2_seek_102 rfl 3 rfl ?_
            obtain ⟨b35538, e35539, h35540⟩ := Iy35522.fld (h35525) 0 13 11 rfl
            refine g_getR C fi_X2_9 rfl e35539 (h35525).1 (h35525).2 dX2_seek_103 ?_
            refine g_iload_n C dX2_seek_106 rfl 4 rfl ?_
            refine g_iald (j := (a1.toInt.toNat)) C h35540.1 h35540.2.1 (ix_in h35540.2.2 (by omega)) dX2_seek_107 ?_
            refine g_topi (fun z35541 _ => ?_)
            refine g_callVV (rest := []) C mv_X2_71 [.int z35541] (s_X0_add Iy35522 h35528.at) (h35528.at).1 (h35528.at).2 rfl rfl (by decide) (Nat.le_of_ble_eq_true rfl) (by decide) dX2_seek_108 (fun Y35543 h35544 => ?_)
            obtain ⟨Iy35545, Xy35546⟩ := h35544
            have Xz35547 : EK [0, 2, 13] P Y35543 := Xz35524.tr (Xy35546.mono (by decide))
            have h35548 := Xy35546.at h35525
            refine g_aload_n C dX2_seek_111 rfl 3 rfl ?_
            obtain ⟨b35549, e35550, h35551⟩ := Iy35545.fld (h35548) 3 0 0 rfl
            refine g_getR C fi_X2_25 rfl e35550 (h35548).1 (h35548).2 dX2_seek_112 ?_
            refine g_aload_n C dX2_seek_115 rfl 3 rfl ?_
            obtain ⟨b35552, e35553, h35554⟩ := Iy35545.fld (h35548) 1 13 11 rfl
            refine g_getR C fi_X2_15 rfl e35553 (h35548).1 (h35548).2 dX2_seek_116 ?_
            refine g_iload_n C dX2_seek_119 rfl 4 rfl ?_
            refine g_iald (j := (a1.toInt.toNat)) C h35554.1 h35554.2.1 (ix_in h35554.2.2 (by omega)) dX2_seek_120 ?_
            refine g_topi (fun z35555 _ => ?_)
            refine g_callVV (rest := []) C mv_X2_71 [.int z35555] (s_X0_add Iy35545 h35551.at) (h35551.at).1 (h35551.at).2 rfl rfl (by decide) (Nat.le_of_ble_eq_true rfl) (by decide) dX2_seek_121 (fun Y35557 h35558 => ?_)
            obtain ⟨Iy35559, Xy35560⟩ := h35558
            have Xz35561 : EK [0, 2, 13] P Y35557 := Xz35547.tr (Xy35560.mono (by decide))
            have h35562 := Xy35560.at h35548
            refine g_aload_n C dX2_seek_124 rfl 3 rfl ?_
            obtain ⟨b35563, e35564, h35565⟩ := Iy35559.fld (h35562) 2 0 0 rfl
            refine g_getR C fi_X2_21 rfl e35564 (h35562).1 (h35562).2 dX2_seek_125 ?_
            refine g_getI C fi_X2_32 (by decide) (h35565.at).1 (h35565.at).2 dX2_seek_128 ?_
            have h35566 := Iy35559.rg (h35565.at) 3 rfl
            refine b_if_eq C 159 dX2_seek_131 (by decide) (fun h35567 => ?_) (fun h35567 => ?_)
            · have h35567 : (pI Y35557 b35563 3).toInt = 0 := congrArg Int32.toInt h35567
              refine g_lv (lv' := [(0, .ref a0), (5, .int z35530), (6, .int z35536)]) [3, 1, 0] rfl ?_
              exact J159 Y35557 z35530 z35536 Iy35559 Xz35561 (by omega) (by omega)
            · have h35567 : (pI Y35557 b35563 3).toInt ≠ 0 := ti_ne h35567
              refine g_aload_n C dX2_seek_134 rfl 3 rfl ?_
              obtain ⟨b35568, e35569, h35570⟩ := Iy35559.fld (h35562) 3 0 0 rfl
              refine g_getR C fi_X2_25 rfl e35569 (h35562).1 (h35562).2 dX2_seek_135 ?_
              refine g_getI C fi_X2_32 (by decide) (h35570.at).1 (h35570.at).2 dX2_seek_138 ?_
              have h35571 := Iy35559.rg (h35570.at) 3 rfl
              refine b_if_eq C 159 dX2_seek_141 (by decide) (fun h35572 => ?_) (fun h35572 => ?_)
              · have h35572 : (pI Y35557 b35568 3).toInt = 0 := congrArg Int32.toInt h35572
                refine g_lv (lv' := [(0, .ref a0), (5, .int z35530), (6, .int z35536)]) [3, 1, 0] rfl ?_
                exact J159 Y35557 z35530 z35536 Iy35559 Xz35561 (by omega) (by omega)
              · have h35572 : (pI Y35557 b35568 3).toInt ≠ 0 := ti_ne h35572
                refine g_aload_n C dX2_seek_144 rfl 3 rfl ?_
                refine g_iload_n C dX2_seek_145 rfl 4 rfl ?_
                refine g_iconst (v := 1) C dX2_seek_146 (by decide) ?_
                refine s_isub C dX2_seek_147 (by show -2147483648 ≤ a1.toInt - 1 ∧ a1.toInt - 1 ≤ 2147483647; omega) (fun z35573 h35574 => ?_)
                have h35574 : z35573.toInt = a1.toInt - 1 := h35574
                refine g_iload_n C dX2_seek_148 rfl 5 rfl ?_
                refine g_iconst (v := 1) C dX2_seek_149 (by decide) ?_
                refine g_iload_n C dX2_seek_150 rfl 4 rfl ?_
                refine a_ishl C dX2_seek_151 (fun z35575 => ?_)
                refine a_ior C dX2_seek_152 (fun z35577 => ?_)
                refine g_iload_n C dX2_seek_153 rfl 6 rfl ?_
                refine g_iconst (v := 1) C dX2_seek_154 (by decide) ?_
                refine s_iadd C dX2_seek_155 (by show -2147483648 ≤ a3.toInt + 1 ∧ a3.toInt + 1 ≤ 2147483647; omega) (fun z35579 h35580 => ?_)
                have h35580 : z35579.toInt = a3.toInt + 1 := h35580
                refine g_callVV (rest := []) C mv_X2_58 [.int z35573, .int z35577, .int z35579] (s_X2_seek_L4 Iy35559 h35562 (by omega) (by omega)) (h35562).1 (h35562).2 rfl rfl (by decide) (Nat.le_of_ble_eq_true rfl) (by decide) dX2_seek_156 (fun Y35582 h35583 => ?_)
                obtain ⟨Iy35584, Xy35585⟩ := h35583
                have Xz35586 : EK [0, 2, 13] P Y35582 := Xz35561.tr (Xy35585.mono (by decide))
                have h35587 := Xy35585.at h35562
                refine g_lv (lv' := [(0, .ref a0), (5, .int z35530), (6, .int z35536)]) [3, 1, 0] rfl ?_
                exact J159 Y35582 z35530 z35536 Iy35584 Xz35586 (by omega) (by omega)
          · have h35516 : z35514.toInt < z35505.toInt := h35516
            exact ret _ _ _ _ _ dX2_seek_70 (by decide) (by decide) ⟨I, EK.rf⟩
    · have h35511 : z35505.toInt = 0 := congrArg Int32.toInt h35511
      refine g_aload_n C dX2_seek_41 rfl 1 rfl ?_
      refine g_iload_n C dX2_seek_42 rfl 4 rfl ?_
      refine g_putI C fi_X2_45 rfl (ha0).1 (ha0).2 dX2_seek_43 ?_
      refine gpW (ks := [2]) (I.setI (ha0) (rgOk.of rfl (by omega))) (EK.setI (ha0).2 (by decide)) (fun Y35588 Iy35589 Xy35590 w35591 w35592 => ?_)
      have q35593 := w35591 4 (by decide)
      have q35594 := Xy35590.keep (h35497.at) (by decide) 2
      have q35595 := Xy35590.keep (h35501.at) (by decide) 2
      have Xz35596 : EK [0, 2, 13] P Y35588 := Xy35590.mono (by decide)
      have h35597 := Xy35590.at ha0
      refine g_aload_n C dX2_seek_46 rfl 1 rfl ?_
      refine g_iload_n C dX2_seek_47 rfl 3 rfl ?_
      refine g_putI C fi_X2_48 rfl (h35597).1 (h35597).2 dX2_seek_48 ?_
      refine gpW (ks := [2]) (Iy35589.setI (h35597) (rgOk.none rfl)) (EK.setI (h35597).2 (by decide)) (fun Y35598 Iy35599 Xy35600 w35601 w35602 => ?_)
      have q35603 := w35601 4 (by decide)
      have q35604 := w35601 5 (by decide)
      have Xz35605 : EK [0, 2, 13] P Y35598 := Xz35596.tr (Xy35600.mono (by decide))
      have h35606 := Xy35600.at h35597
      exact ret _ _ _ _ _ dX2_seek_51 (by decide) (by decide) ⟨Iy35599, Xz35605⟩
  · have h35510 : (pI P a0 5).toInt ≤ z35507.toInt := h35510
    exact ret _ _ _ _ _ dX2_seek_35 (by decide) (by decide) ⟨I, EK.rf⟩
set_option maxHeartbeats 4000000 in
set_option maxRecDepth 100000 in
theorem s_X2_seek_L6 {P : PP} {a0 : Nat} {a1 : Int32} {a2 : Int32} {a3 : Int32} (I : IV P) (ha0 : At P a0 2) (ha1 : 5 ≤ a1.toInt ∧ a1.toInt ≤ 5) (ha3 : 0 ≤ a3.toInt ∧ a3.toInt ≤ 5) : CtrV yX2_seek cX2_seek 7 none ({ frames := 8, cells := 0, slots := 0, locals := 512 } : Room) 0 0 P [.ref a0, .int a1, .int a2, .int a3] (fun P2 => IV P2 ∧ EK [0, 2, 13] P P2) := by
  refine enV (lv := [(0, .ref a0), (1, .int a1), (2, .int a2), (3, .int a3)]) (by decide) (Nat.le_of_ble_eq_true rfl) rfl (fun E D cy C Ci0 ret => ?_)
  have J159 : ∀ (P159 : PP) (v159_5 : Int32) (v159_6 : Int32), (IV P159) → (EK [0, 2, 13] P P159) → (0 ≤ v159_5.toInt ∧ v159_5.toInt ≤ 20) → (0 ≤ v159_6.toInt ∧ v159_6.toInt ≤ 20) → G E ({ frames := 8, cells := 0, slots := 0, locals := 512 } : Room) D cy 7 P159 0 0 159 [(0, .ref a0), (5, .int v159_5), (6, .int v159_6)] [] := by
    intro P159 v159_5 v159_6 I159 X159 hv159_5 hv159_6
    have h35741 := X159.at ha0
    refine g_aload_n C dX2_seek_159 rfl 0 rfl ?_
    obtain ⟨b35742, e35743, h35744⟩ := I159.fld (h35741) 2 0 0 rfl
    refine g_getR C fi_X2_21 rfl e35743 (h35741).1 (h35741).2 dX2_seek_160 ?_
    refine g_iload C dX2_seek_163 1 rfl ?_
    refine g_callVV (rest := []) C mv_X2_75 [.int v159_5] (s_X0_cut I159 h35744.at) (h35744.at).1 (h35744.at).2 rfl rfl (by decide) (Nat.le_of_ble_eq_true rfl) (by decide) dX2_seek_165 (fun Y35746 h35747 => ?_)
    obtain ⟨Iy35748, Xy35749⟩ := h35747
    have Xz35750 : EK [0, 2, 13] P Y35746 := X159.tr (Xy35749.mono (by decide))
    have h35751 := Xy35749.at h35741
    refine g_aload_n C dX2_seek_168 rfl 0 rfl ?_
    obtain ⟨b35752, e35753, h35754⟩ := Iy35748.fld (h35751) 3 0 0 rfl
    refine g_getR C fi_X2_25 rfl e35753 (h35751).1 (h35751).2 dX2_seek_169 ?_
    refine g_iload C dX2_seek_172 2 rfl ?_
    refine g_callVV (rest := []) C mv_X2_75 [.int v159_6] (s_X0_cut Iy35748 h35754.at) (h35754.at).1 (h35754.at).2 rfl rfl (by decide) (Nat.le_of_ble_eq_true rfl) (by decide) dX2_seek_174 (fun Y35756 h35757 => ?_)
    obtain ⟨Iy35758, Xy35759⟩ := h35757
    have Xz35760 : EK [0, 2, 13] P Y35756 := Xz35750.tr (Xy35759.mono (by decide))
    have h35761 := Xy35759.at h35751
    exact ret _ _ _ _ _ dX2_seek_177 (by decide) (by decide) ⟨Iy35758, Xz35760⟩
  refine g_aload_n C dX2_seek_0 rfl 0 rfl ?_
  refine g_getI C fi_X2_42 (by decide) (ha0).1 (ha0).2 dX2_seek_1 ?_
  have h35762 := I.rg (ha0) 4 rfl
  refine g_aload_n C dX2_seek_4 rfl 0 rfl ?_
  obtain ⟨b35763, e35764, h35765⟩ := I.fld (ha0) 2 0 0 rfl
  refine g_getR C fi_X2_21 rfl e35764 (ha0).1 (ha0).2 dX2_seek_5 ?_
  refine g_getI C fi_X2_62 (by decide) (h35765.at).1 (h35765.at).2 dX2_seek_8 ?_
  have h35766 := I.rg (h35765.at) 2 rfl
  refine g_aload_n C dX2_seek_11 rfl 0 rfl ?_
  obtain ⟨b35767, e35768, h35769⟩ := I.fld (ha0) 3 0 0 rfl
  refine g_getR C fi_X2_25 rfl e35768 (ha0).1 (ha0).2 dX2_seek_12 ?_
  refine g_getI C fi_X2_62 (by decide) (h35769.at).1 (h35769.at).2 dX2_seek_15 ?_
  have h35770 := I.rg (h35769.at) 2 rfl
  refine g_mmin C ms_X2_65 (by decide) (by decide) (Nat.le_of_ble_eq_true rfl) (by decide) dX2_seek_18 (fun z35771 h35772 => ?_)
  have h35772 : z35771.toInt ≤ (pI P b35763 2).toInt ∧ z35771.toInt ≤ (pI P b35767 2).toInt ∧ (z35771.toInt = (pI P b35763 2).toInt ∨ z35771.toInt = (pI P b35767 2).toInt) := h35772
  refine s_isub C dX2_seek_21 (by show -2147483648 ≤ (pI P a0 4).toInt - z35771.toInt ∧ (pI P a0 4).toInt - z35771.toInt ≤ 2147483647; omega) (fun z35773 h35774 => ?_)
  have h35774 : z35773.toInt = (pI P a0 4).toInt - z35771.toInt := h35774
  refine g_istore (lv' := [(4, .int z35773), (0, .ref a0), (1, .int a1), (2, .int a2), (3, .int a3)]) C dX2_seek_22 (by decide) rfl ?_
  refine g_iload_n C dX2_seek_24 rfl 4 rfl ?_
  refine g_iload C dX2_seek_25 0 rfl ?_
  refine s_iadd C dX2_seek_27 (by show -2147483648 ≤ a3.toInt + z35773.toInt ∧ a3.toInt + z35773.toInt ≤ 2147483647; omega) (fun z35775 h35776 => ?_)
  have h35776 : z35775.toInt = a3.toInt + z35773.toInt := h35776
  refine g_aload_n C dX2_seek_28 rfl 1 rfl ?_
  refine g_getI C fi_X2_45 (by decide) (ha0).1 (ha0).2 dX2_seek_29 ?_
  have h35777 := I.rg (ha0) 5 rfl
  refine b_icmp_lt C 36 dX2_seek_32 (by decide) (fun h35778 => ?_) (fun h35778 => ?_)
  · have h35778 : z35775.toInt < (pI P a0 5).toInt := h35778
    refine g_iload C dX2_seek_36 0 rfl ?_
    refine b_if_ne C 52 dX2_seek_38 (by decide) (fun h35779 => ?_) (fun h35779 => ?_)
    · have h35779 : z35773.toInt ≠ 0 := ti_ne h35779
      refine g_iload_n C dX2_seek_52 rfl 2 rfl ?_
      refine b_if_lt C 70 dX2_seek_53 (by decide) (fun h35780 => ?_) (fun h35780 => ?_)
      · have h35780 : a1.toInt < 0 := h35780
        omega
      · have h35780 : 0 ≤ a1.toInt := h35780
        refine g_iload_n C dX2_seek_56 rfl 2 rfl ?_
        refine g_bipush (v := 11) C dX2_seek_57 (by decide) ?_
        refine b_icmp_ge C 70 dX2_seek_59 (by decide) (fun h35781 => ?_) (fun h35781 => ?_)
        · have h35781 : 11 ≤ a1.toInt := h35781
          omega
        · have h35781 : a1.toInt < 11 := h35781
          refine g_iload C dX2_seek_62 0 rfl ?_
          refine g_iload_n C dX2_seek_64 rfl 2 rfl ?_
          refine g_iconst (v := 1) C dX2_seek_65 (by decide) ?_
          refine s_iadd C dX2_seek_66 (by show -2147483648 ≤ a1.toInt + 1 ∧ a1.toInt + 1 ≤ 2147483647; omega) (fun z35782 h35783 => ?_)
          have h35783 : z35782.toInt = a1.toInt + 1 := h35783
          refine b_icmp_le C 71 dX2_seek_67 (by decide) (fun h35784 => ?_) (fun h35784 => ?_)
          · have h35784 : z35773.toInt ≤ z35782.toInt := h35784
            refine g_aload_n C dX2_seek_71 rfl 1 rfl ?_
            refine g_iload_n C dX2_seek_72 rfl 2 rfl ?_
            refine g_iconst (v := 1) C dX2_seek_73 (by decide) ?_
            refine s_isub C dX2_seek_74 (by show -2147483648 ≤ a1.toInt - 1 ∧ a1.toInt - 1 ≤ 2147483647; omega) (fun z35785 h35786 => ?_)
            have h35786 : z35785.toInt = a1.toInt - 1 := h35786
            refine g_iload_n C dX2_seek_75 rfl 3 rfl ?_
            refine g_iload_n C dX2_seek_76 rfl 4 rfl ?_
            refine g_callVV (rest := []) C mv_X2_58 [.int z35785, .int a2, .int a3] (s_X2_seek_L5 I ha0 (by omega) (by omega)) (ha0).1 (ha0).2 rfl rfl (by decide) (Nat.le_of_ble_eq_true rfl) (by decide) dX2_seek_77 (fun Y35788 h35789 => ?_)
            obtain ⟨Iy35790, Xy35791⟩ := h35789
            have Xz35792 : EK [0, 2, 13] P Y35788 := Xy35791.mono (by decide)
            have h35793 := Xy35791.at ha0
            refine g_aload_n C dX2_seek_80 rfl 1 rfl ?_
            obtain ⟨b35794, e35795, h35796⟩ := Iy35790.fld (h35793) 2 0 0 rfl
            refine g_getR C fi_X2_21 rfl e35795 (h35793).1 (h35793).2 dX2_seek_81 ?_
            refine g_getI C fi_X2_62 (by decide) (h35796.at).1 (h35796.at).2 dX2_seek_84 ?_
            have h35797 := Iy35790.rg (h35796.at) 2 rfl
            refine g_topi (fun z35798 h35799 => ?_)
            have h35799 : z35798.toInt = (pI Y35788 b35794 2).toInt := congrArg Int32.toInt h35799
            refine g_istore (lv' := [(5, .int z35798), (4, .int z35773), (0, .ref a0), (1, .int a1), (2, .int a2), (3, .int a3)]) C dX2_seek_87 (by decide) rfl ?_
            refine g_aload_n C dX2_seek_89 rfl 2 rfl ?_
            obtain ⟨b35800, e35801, h35802⟩ := Iy35790.fld (h35793) 3 0 0 rfl
            refine g_getR C fi_X2_25 rfl e35801 (h35793).1 (h35793).2 dX2_seek_90 ?_
            refine g_getI C fi_X2_62 (by decide) (h35802.at).1 (h35802.at).2 dX2_seek_93 ?_
            have h35803 := Iy35790.rg (h35802.at) 2 rfl
            refine g_topi (fun z35804 h35805 => ?_)
            have h35805 : z35804.toInt = (pI Y35788 b35800 2).toInt := congrArg Int32.toInt h35805
            refine g_istore (lv' := [(6, .int z35804), (5, .int z35798), (4, .int z35773), (0, .ref a0), (1, .int a1), (2, .int a2), (3, .int a3)]) C dX2_seek_96 (by decide) rfl ?_
            refine g_aload_n C dX2_seek_98 rfl 3 rfl ?_
            refine g_getR C fi_X2_21 rfl e35795 (h35793).1 (h35793).2 dX2_seek_99 ?_
            refine g_aload_n C dX2_seek_102 rfl 3 rfl ?_
            obtain ⟨b35806, e35807, h35808⟩ := Iy35790.fld (h35793) 0 13 11 rfl
            refine g_getR C fi_X2_9 rfl e35807 (h35793).1 (h35793).2 dX2_seek_103 ?_
            refine g_iload_n C dX2_seek_106 rfl 4 rfl ?_
            refine g_iald (j := (a1.toInt.toNat)) C h35808.1 h35808.2.1 (ix_in h35808.2.2 (by omega)) dX2_seek_107 ?_
            refine g_topi (fun z35809 _ => ?_)
            refine g_callVV (rest := []) C mv_X2_71 [.int z35809] (s_X0_add Iy35790 h35796.at) (h35796.at).1 (h35796.at).2 rfl rfl (by decide) (Nat.le_of_ble_eq_true rfl) (by decide) dX2_seek_108 (fun Y35811 h35812 => ?_)
            obtain ⟨Iy35813, Xy35814⟩ := h35812
            have Xz35815 : EK [0, 2, 13] P Y35811 := Xz35792.tr (Xy35814.mono (by decide))
            have h35816 := Xy35814.at h35793
            refine g_aload_n C dX2_seek_111 rfl 3 rfl ?_
            obtain ⟨b35817, e35818, h35819⟩ := Iy35813.fld (h35816) 3 0 0 rfl
            refine g_getR C fi_X2_25 rfl e35818 (h35816).1 (h35816).2 dX2_seek_112 ?_
            refine g_aload_n C dX2_seek_115 rfl 3 rfl ?_
            obtain ⟨b35820, e35821, h35822⟩ := Iy35813.fld (h35816) 1 13 11 rfl
            refine g_getR C fi_X2_15 rfl e35821 (h35816).1 (h35816).2 dX2_seek_116 ?_
            refine g_iload_n C dX2_seek_119 rfl 4 rfl ?_
            refine g_iald (j := (a1.toInt.toNat)) C h35822.1 h35822.2.1 (ix_in h35822.2.2 (by omega)) dX2_seek_120 ?_
            refine g_topi (fun z35823 _ => ?_)
            refine g_callVV (rest := []) C mv_X2_71 [.int z35823] (s_X0_add Iy35813 h35819.at) (h35819.at).1 (h35819.at).2 rfl rfl (by decide) (Nat.le_of_ble_eq_true rfl) (by decide) dX2_seek_121 (fun Y35825 h35826 => ?_)
            obtain ⟨Iy35827, Xy35828⟩ := h35826
            have Xz35829 : EK [0, 2, 13] P Y35825 := Xz35815.tr (Xy35828.mono (by decide))
            have h35830 := Xy35828.at h35816
            refine g_aload_n C dX2_seek_124 rfl 3 rfl ?_
            obtain ⟨b35831, e35832, h35833⟩ := Iy35827.fld (h35830) 2 0 0 rfl
            refine g_getR C fi_X2_21 rfl e35832 (h35830).1 (h35830).2 dX2_seek_125 ?_
            refine g_getI C fi_X2_32 (by decide) (h35833.at).1 (h35833.at).2 dX2_seek_128 ?_
            have h35834 := Iy35827.rg (h35833.at) 3 rfl
            refine b_if_eq C 159 dX2_seek_131 (by decide) (fun h35835 => ?_) (fun h35835 => ?_)
            · have h35835 : (pI Y35825 b35831 3).toInt = 0 := congrArg Int32.toInt h35835
              refine g_lv (lv' := [(0, .ref a0), (5, .int z35798), (6, .int z35804)]) [3, 1, 0] rfl ?_
              exact J159 Y35825 z35798 z35804 Iy35827 Xz35829 (by omega) (by omega)
            · have h35835 : (pI Y35825 b35831 3).toInt ≠ 0 := ti_ne h35835
              refine g_aload_n C dX2_seek_134 rfl 3 rfl ?_
              obtain ⟨b35836, e35837, h35838⟩ := Iy35827.fld (h35830) 3 0 0 rfl
              refine g_getR C fi_X2_25 rfl e35837 (h35830).1 (h35830).2 dX2_seek_135 ?_
              refine g_getI C fi_X2_32 (by decide) (h35838.at).1 (h35838.at).2 dX2_seek_138 ?_
              have h35839 := Iy35827.rg (h35838.at) 3 rfl
              refine b_if_eq C 159 dX2_seek_141 (by decide) (fun h35840 => ?_) (fun h35840 => ?_)
              · have h35840 : (pI Y35825 b35836 3).toInt = 0 := congrArg Int32.toInt h35840
                refine g_lv (lv' := [(0, .ref a0), (5, .int z35798), (6, .int z35804)]) [3, 1, 0] rfl ?_
                exact J159 Y35825 z35798 z35804 Iy35827 Xz35829 (by omega) (by omega)
              · have h35840 : (pI Y35825 b35836 3).toInt ≠ 0 := ti_ne h35840
                refine g_aload_n C dX2_seek_144 rfl 3 rfl ?_
                refine g_iload_n C dX2_seek_145 rfl 4 rfl ?_
                refine g_iconst (v := 1) C dX2_seek_146 (by decide) ?_
                refine s_isub C dX2_seek_147 (by show -2147483648 ≤ a1.toInt - 1 ∧ a1.toInt - 1 ≤ 2147483647; omega) (fun z35841 h35842 => ?_)
                have h35842 : z35841.toInt = a1.toInt - 1 := h35842
                refine g_iload_n C dX2_seek_148 rfl 5 rfl ?_
                refine g_iconst (v := 1) C dX2_seek_149 (by decide) ?_
                refine g_iload_n C dX2_seek_150 rfl 4 rfl ?_
                refine a_ishl C dX2_seek_151 (fun z35843 => ?_)
                refine a_ior C dX2_seek_152 (fun z35845 => ?_)
                refine g_iload_n C dX2_seek_153 rfl 6 rfl ?_
                refine g_iconst (v := 1) C dX2_seek_154 (by decide) ?_
                refine s_iadd C dX2_seek_155 (by show -2147483648 ≤ a3.toInt + 1 ∧ a3.toInt + 1 ≤ 2147483647; omega) (fun z35847 h35848 => ?_)
                have h35848 : z35847.toInt = a3.toInt + 1 := h35848
                refine g_callVV (rest := []) C mv_X2_58 [.int z35841, .int z35845, .int z35847] (s_X2_seek_L5 Iy35827 h35830 (by omega) (by omega)) (h35830).1 (h35830).2 rfl rfl (by decide) (Nat.le_of_ble_eq_true rfl) (by decide) dX2_seek_156 (fun Y35850 h35851 => ?_)
                obtain ⟨Iy35852, Xy35853⟩ := h35851
                have Xz35854 : EK [0, 2, 13] P Y35850 := Xz35829.tr (Xy35853.mono (by decide))
                have h35855 := Xy35853.at h35830
                refine g_lv (lv' := [(0, .ref a0), (5, .int z35798), (6, .int z35804)]) [3, 1, 0] rfl ?_
                exact J159 Y35850 z35798 z35804 Iy35852 Xz35854 (by omega) (by omega)
          · have h35784 : z35782.toInt < z35773.toInt := h35784
            exact ret _ _ _ _ _ dX2_seek_70 (by decide) (by decide) ⟨I, EK.rf⟩
    · have h35779 : z35773.toInt = 0 := congrArg Int32.toInt h35779
      refine g_aload_n C dX2_seek_41 rfl 1 rfl ?_
      refine g_iload_n C dX2_seek_42 rfl 4 rfl ?_
      refine g_putI C fi_X2_45 rfl (ha0).1 (ha0).2 dX2_seek_43 ?_
      refine gpW (ks := [2]) (I.setI (ha0) (rgOk.of rfl (by omega))) (EK.setI (ha0).2 (by decide)) (fun Y35856 Iy35857 Xy35858 w35859 w35860 => ?_)
      have q35861 := w35859 4 (by decide)
      have q35862 := Xy35858.keep (h35765.at) (by decide) 2
      have q35863 := Xy35858.keep (h35769.at) (by decide) 2
      have Xz35864 : EK [0, 2, 13] P Y35856 := Xy35858.mono (by decide)
      have h35865 := Xy35858.at ha0
      refine g_aload_n C dX2_seek_46 rfl 1 rfl ?_
      refine g_iload_n C dX2_seek_47 rfl 3 rfl ?_
      refine g_putI C fi_X2_48 rfl (h35865).1 (h35865).2 dX2_seek_48 ?_
      refine gpW (ks := [2]) (Iy35857.setI (h35865) (rgOk.none rfl)) (EK.setI (h35865).2 (by decide)) (fun Y35866 Iy35867 Xy35868 w35869 w35870 => ?_)
      have q35871 := w35869 4 (by decide)
      have q35872 := w35869 5 (by decide)
      have Xz35873 : EK [0, 2, 13] P Y35866 := Xz35864.tr (Xy35868.mono (by decide))
      have h35874 := Xy35868.at h35865
      exact ret _ _ _ _ _ dX2_seek_51 (by decide) (by decide) ⟨Iy35867, Xz35873⟩
  · have h35778 : (pI P a0 5).toInt ≤ z35775.toInt := h35778
    exact ret _ _ _ _ _ dX2_seek_35 (by decide) (by decide) ⟨I, EK.rf⟩
set_option maxHeartbeats 4000000 in
set_option maxRecDepth 100000 in
theorem s_X2_seek_L7 {P : PP} {a0 : Nat} {a1 : Int32} {a2 : Int32} {a3 : Int32} (I : IV P) (ha0 : At P a0 2) (ha1 : 6 ≤ a1.toInt ∧ a1.toInt ≤ 6) (ha3 : 0 ≤ a3.toInt ∧ a3.toInt ≤ 4) : CtrV yX2_seek cX2_seek 7 none ({ frames := 9, cells := 0, slots := 0, locals := 576 } : Room) 0 0 P [.ref a0, .int a1, .int a2, .int a3] (fun P2 => IV P2 ∧ EK [0, 2, 13] P P2) := by
  refine enV (lv := [(0, .ref a0), (1, .int a1), (2, .int a2), (3, .int a3)]) (by decide) (Nat.le_of_ble_eq_true rfl) rfl (fun E D cy C Ci0 ret => ?_)
  have J159 : ∀ (P159 : PP) (v159_5 : Int32) (v159_6 : Int32), (IV P159) → (EK [0, 2, 13] P P159) → (0 ≤ v159_5.toInt ∧ v159_5.toInt ≤ 20) → (0 ≤ v159_6.toInt ∧ v159_6.toInt ≤ 20) → G E ({ frames := 9, cells := 0, slots := 0, locals := 576 } : Room) D cy 7 P159 0 0 159 [(0, .ref a0), (5, .int v159_5), (6, .int v159_6)] [] := by
    intro P159 v159_5 v159_6 I159 X159 hv159_5 hv159_6
    have h36009 := X159.at ha0
    refine g_aload_n C dX2_seek_159 rfl 0 rfl ?_
    obtain ⟨b36010, e36011, h36012⟩ := I159.fld (h36009) 2 0 0 rfl
    refine g_getR C fi_X2_21 rfl e36011 (h36009).1 (h36009).2 dX2_seek_160 ?_
    refine g_iload C dX2_seek_163 1 rfl ?_
    refine g_callVV (rest := []) C mv_X2_75 [.int v159_5] (s_X0_cut I159 h36012.at) (h36012.at).1 (h36012.at).2 rfl rfl (by decide) (Nat.le_of_ble_eq_true rfl) (by decide) dX2_seek_165 (fun Y36014 h36015 => ?_)
    obtain ⟨Iy36016, Xy36017⟩ := h36015
    have Xz36018 : EK [0, 2, 13] P Y36014 := X159.tr (Xy36017.mono (by decide))
    have h36019 := Xy36017.at h36009
    refine g_aload_n C dX2_seek_168 rfl 0 rfl ?_
    obtain ⟨b36020, e36021, h36022⟩ := Iy36016.fld (h36019) 3 0 0 rfl
    refine g_getR C fi_X2_25 rfl e36021 (h36019).1 (h36019).2 dX2_seek_169 ?_
    refine g_iload C dX2_seek_172 2 rfl ?_
    refine g_callVV (rest := []) C mv_X2_75 [.int v159_6] (s_X0_cut Iy36016 h36022.at) (h36022.at).1 (h36022.at).2 rfl rfl (by decide) (Nat.le_of_ble_eq_true rfl) (by decide) dX2_seek_174 (fun Y36024 h36025 => ?_)
    obtain ⟨Iy36026, Xy36027⟩ := h36025
    have Xz36028 : EK [0, 2, 13] P Y36024 := Xz36018.tr (Xy36027.mono (by decide))
    have h36029 := Xy36027.at h36019
    exact ret _ _ _ _ _ dX2_seek_177 (by decide) (by decide) ⟨Iy36026, Xz36028⟩
  refine g_aload_n C dX2_seek_0 rfl 0 rfl ?_
  refine g_getI C fi_X2_42 (by decide) (ha0).1 (ha0).2 dX2_seek_1 ?_
  have h36030 := I.rg (ha0) 4 rfl
  refine g_aload_n C dX2_seek_4 rfl 0 rfl ?_
  obtain ⟨b36031, e36032, h36033⟩ := I.fld (ha0) 2 0 0 rfl
  refine g_getR C fi_X2_21 rfl e36032 (ha0).1 (ha0).2 dX2_seek_5 ?_
  refine g_getI C fi_X2_62 (by decide) (h36033.at).1 (h36033.at).2 dX2_seek_8 ?_
  have h36034 := I.rg (h36033.at) 2 rfl
  refine g_aload_n C dX2_seek_11 rfl 0 rfl ?_
  obtain ⟨b36035, e36036, h36037⟩ := I.fld (ha0) 3 0 0 rfl
  refine g_getR C fi_X2_25 rfl e36036 (ha0).1 (ha0).2 dX2_seek_12 ?_
  refine g_getI C fi_X2_62 (by decide) (h36037.at).1 (h36037.at).2 dX2_seek_15 ?_
  have h36038 := I.rg (h36037.at) 2 rfl
  refine g_mmin C ms_X2_65 (by decide) (by decide) (Nat.le_of_ble_eq_true rfl) (by decide) dX2_seek_18 (fun z36039 h36040 => ?_)
  have h36040 : z36039.toInt ≤ (pI P b36031 2).toInt ∧ z36039.toInt ≤ (pI P b36035 2).toInt ∧ (z36039.toInt = (pI P b36031 2).toInt ∨ z36039.toInt = (pI P b36035 2).toInt) := h36040
  refine s_isub C dX2_seek_21 (by show -2147483648 ≤ (pI P a0 4).toInt - z36039.toInt ∧ (pI P a0 4).toInt - z36039.toInt ≤ 2147483647; omega) (fun z36041 h36042 => ?_)
  have h36042 : z36041.toInt = (pI P a0 4).toInt - z36039.toInt := h36042
  refine g_istore (lv' := [(4, .int z36041), (0, .ref a0), (1, .int a1), (2, .int a2), (3, .int a3)]) C dX2_seek_22 (by decide) rfl ?_
  refine g_iload_n C dX2_seek_24 rfl 4 rfl ?_
  refine g_iload C dX2_seek_25 0 rfl ?_
  refine s_iadd C dX2_seek_27 (by show -2147483648 ≤ a3.toInt + z36041.toInt ∧ a3.toInt + z36041.toInt ≤ 2147483647; omega) (fun z36043 h36044 => ?_)
  have h36044 : z36043.toInt = a3.toInt + z36041.toInt := h36044
  refine g_aload_n C dX2_seek_28 rfl 1 rfl ?_
  refine g_getI C fi_X2_45 (by decide) (ha0).1 (ha0).2 dX2_seek_29 ?_
  have h36045 := I.rg (ha0) 5 rfl
  refine b_icmp_lt C 36 dX2_seek_32 (by decide) (fun h36046 => ?_) (fun h36046 => ?_)
  · have h36046 : z36043.toInt < (pI P a0 5).toInt := h36046
    refine g_iload C dX2_seek_36 0 rfl ?_
    refine b_if_ne C 52 dX2_seek_38 (by decide) (fun h36047 => ?_) (fun h36047 => ?_)
    · have h36047 : z36041.toInt ≠ 0 := ti_ne h36047
      refine g_iload_n C dX2_seek_52 rfl 2 rfl ?_
      refine b_if_lt C 70 dX2_seek_53 (by decide) (fun h36048 => ?_) (fun h36048 => ?_)
      · have h36048 : a1.toInt < 0 := h36048
        omega
      · have h36048 : 0 ≤ a1.toInt := h36048
        refine g_iload_n C dX2_seek_56 rfl 2 rfl ?_
        refine g_bipush (v := 11) C dX2_seek_57 (by decide) ?_
        refine b_icmp_ge C 70 dX2_seek_59 (by decide) (fun h36049 => ?_) (fun h36049 => ?_)
        · have h36049 : 11 ≤ a1.toInt := h36049
          omega
        · have h36049 : a1.toInt < 11 := h36049
          refine g_iload C dX2_seek_62 0 rfl ?_
          refine g_iload_n C dX2_seek_64 rfl 2 rfl ?_
          refine g_iconst (v := 1) C dX2_seek_65 (by decide) ?_
          refine s_iadd C dX2_seek_66 (by show -2147483648 ≤ a1.toInt + 1 ∧ a1.toInt + 1 ≤ 2147483647; omega) (fun z36050 h36051 => ?_)
          have h36051 : z36050.toInt = a1.toInt + 1 := h36051
          refine b_icmp_le C 71 dX2_seek_67 (by decide) (fun h36052 => ?_) (fun h36052 => ?_)
          · have h36052 : z36041.toInt ≤ z36050.toInt := h36052
            refine g_aload_n C dX2_seek_71 rfl 1 rfl ?_
            refine g_iload_n C dX2_seek_72 rfl 2 rfl ?_
            refine g_iconst (v := 1) C dX2_seek_73 (by decide) ?_
            refine s_isub C dX2_seek_74 (by show -2147483648 ≤ a1.toInt - 1 ∧ a1.toInt - 1 ≤ 2147483647; omega) (fun z36053 h36054 => ?_)
            have h36054 : z36053.toInt = a1.toInt - 1 := h36054
            refine g_iload_n C dX2_seek_75 rfl 3 rfl ?_
            refine g_iload_n C dX2_seek_76 rfl 4 rfl ?_
            refine g_callVV (rest := []) C mv_X2_58 [.int z36053, .int a2, .int a3] (s_X2_seek_L6 I ha0 (by omega) (by omega)) (ha0).1 (ha0).2 rfl rfl (by decide) (Nat.le_of_ble_eq_true rfl) (by decide) dX2_seek_77 (fun Y36056 h36057 => ?_)
            obtain ⟨Iy36058, Xy36059⟩ := h36057
            have Xz36060 : EK [0, 2, 13] P Y36056 := Xy36059.mono (by decide)
            have h36061 := Xy36059.at ha0
            refine g_aload_n C dX2_seek_80 rfl 1 rfl ?_
            obtain ⟨b36062, e36063, h36064⟩ := Iy36058.fld (h36061) 2 0 0 rfl
            refine g_getR C fi_X2_21 rfl e36063 (h36061).1 (h36061).2 dX2_seek_81 ?_
            refine g_getI C fi_X2_62 (by decide) (h36064.at).1 (h36064.at).2 dX2_seek_84 ?_
            have h36065 := Iy36058.rg (h36064.at) 2 rfl
            refine g_topi (fun z36066 h36067 => ?_)
            have h36067 : z36066.toInt = (pI Y36056 b36062 2).toInt := congrArg Int32.toInt h36067
            refine g_istore (lv' := [(5, .int z36066), (4, .int z36041), (0, .ref a0), (1, .int a1), (2, .int a2), (3, .int a3)]) C dX2_seek_87 (by decide) rfl ?_
            refine g_aload_n C dX2_seek_89 rfl 2 rfl ?_
            obtain ⟨b36068, e36069, h36070⟩ := Iy36058.fld (h36061) 3 0 0 rfl
            refine g_getR C fi_X2_25 rfl e36069 (h36061).1 (h36061).2 dX2_seek_90 ?_
            refine g_getI C fi_X2_62 (by decide) (h36070.at).1 (h36070.at).2 dX2_seek_93 ?_
            have h36071 := Iy36058.rg (h36070.at) 2 rfl
            refine g_topi (fun z36072 h36073 => ?_)
            have h36073 : z36072.toInt = (pI Y36056 b36068 2).toInt := congrArg Int32.toInt h36073
            refine g_istore (lv' := [(6, .int z36072), (5, .int z36066), (4, .int z36041), (0, .ref a0), (1, .int a1), (2, .int a2), (3, .int a3)]) C dX2_seek_96 (by decide) rfl ?_
            refine g_aload_n C dX2_seek_98 rfl 3 rfl ?_
            refine g_getR C fi_X2_21 rfl e36063 (h36061).1 (h36061).2 dX2_seek_99 ?_
            refine g_aload_n C dX2_seek_102 rfl 3 rfl ?_
            obtain ⟨b36074, e36075, h36076⟩ := Iy36058.fld (h36061) 0 13 11 rfl
            refine g_getR C fi_X2_9 rfl e36075 (h36061).1 (h36061).2 dX2_seek_103 ?_
            refine g_iload_n C dX2_seek_106 rfl 4 rfl ?_
            refine g_iald (j := (a1.toInt.toNat)) C h36076.1 h36076.2.1 (ix_in h36076.2.2 (by omega)) dX2_seek_107 ?_
            refine g_topi (fun z36077 _ => ?_)
            refine g_callVV (rest := []) C mv_X2_71 [.int z36077] (s_X0_add Iy36058 h36064.at) (h36064.at).1 (h36064.at).2 rfl rfl (by decide) (Nat.le_of_ble_eq_true rfl) (by decide) dX2_seek_108 (fun Y36079 h36080 => ?_)
            obtain ⟨Iy36081, Xy36082⟩ := h36080
            have Xz36083 : EK [0, 2, 13] P Y36079 := Xz36060.tr (Xy36082.mono (by decide))
            have h36084 := Xy36082.at h36061
            refine g_aload_n C dX2_seek_111 rfl 3 rfl ?_
            obtain ⟨b36085, e36086, h36087⟩ := Iy36081.fld (h36084) 3 0 0 rfl
            refine g_getR C fi_X2_25 rfl e36086 (h36084).1 (h36084).2 dX2_seek_112 ?_
            refine g_aload_n C dX2_seek_115 rfl 3 rfl ?_
            obtain ⟨b36088, e36089, h36090⟩ := Iy36081.fld (h36084) 1 13 11 rfl
            refine g_getR C fi_X2_15 rfl e36089 (h36084).1 (h36084).2 dX2_seek_116 ?_
            refine g_iload_n C dX2_seek_119 rfl 4 rfl ?_
            refine g_iald (j := (a1.toInt.toNat)) C h36090.1 h36090.2.1 (ix_in h36090.2.2 (by omega)) dX2_seek_120 ?_
            refine g_topi (fun z36091 _ => ?_)
            refine g_callVV (rest := []) C mv_X2_71 [.int z36091] (s_X0_add Iy36081 h36087.at) (h36087.at).1 (h36087.at).2 rfl rfl (by decide) (Nat.le_of_ble_eq_true rfl) (by decide) dX2_seek_121 (fun Y36093 h36094 => ?_)
            obtain ⟨Iy36095, Xy36096⟩ := h36094
            have Xz36097 : EK [0, 2, 13] P Y36093 := Xz36083.tr (Xy36096.mono (by decide))
            have h36098 := Xy36096.at h36084
            refine g_aload_n C dX2_seek_124 rfl 3 rfl ?_
            obtain ⟨b36099, e36100, h36101⟩ := Iy36095.fld (h36098) 2 0 0 rfl
            refine g_getR C fi_X2_21 rfl e36100 (h36098).1 (h36098).2 dX2_seek_125 ?_
            refine g_getI C fi_X2_32 (by decide) (h36101.at).1 (h36101.at).2 dX2_seek_128 ?_
            have h36102 := Iy36095.rg (h36101.at) 3 rfl
            refine b_if_eq C 159 dX2_seek_131 (by decide) (fun h36103 => ?_) (fun h36103 => ?_)
            · have h36103 : (pI Y36093 b36099 3).toInt = 0 := congrArg Int32.toInt h36103
              refine g_lv (lv' := [(0, .ref a0), (5, .int z36066), (6, .int z36072)]) [3, 1, 0] rfl ?_
              exact J159 Y36093 z36066 z36072 Iy36095 Xz36097 (by omega) (by omega)
            · have h36103 : (pI Y36093 b36099 3).toInt ≠ 0 := ti_ne h36103
              refine g_aload_n C dX2_seek_134 rfl 3 rfl ?_
              obtain ⟨b36104, e36105, h36106⟩ := Iy36095.fld (h36098) 3 0 0 rfl
              refine g_getR C fi_X2_25 rfl e36105 (h36098).1 (h36098).2 dX2_seek_135 ?_
              refine g_getI C fi_X2_32 (by decide) (h36106.at).1 (h36106.at).2 dX2_seek_138 ?_
              have h36107 := Iy36095.rg (h36106.at) 3 rfl
              refine b_if_eq C 159 dX2_seek_141 (by decide) (fun h36108 => ?_) (fun h36108 => ?_)
              · have h36108 : (pI Y36093 b36104 3).toInt = 0 := congrArg Int32.toInt h36108
                refine g_lv (lv' := [(0, .ref a0), (5, .int z36066), (6, .int z36072)]) [3, 1, 0] rfl ?_
                exact J159 Y36093 z36066 z36072 Iy36095 Xz36097 (by omega) (by omega)
              · have h36108 : (pI Y36093 b36104 3).toInt ≠ 0 := ti_ne h36108
                refine g_aload_n C dX2_seek_144 rfl 3 rfl ?_
                refine g_iload_n C dX2_seek_145 rfl 4 rfl ?_
                refine g_iconst (v := 1) C dX2_seek_146 (by decide) ?_
                refine s_isub C dX2_seek_147 (by show -2147483648 ≤ a1.toInt - 1 ∧ a1.toInt - 1 ≤ 2147483647; omega) (fun z36109 h36110 => ?_)
                have h36110 : z36109.toInt = a1.toInt - 1 := h36110
                refine g_iload_n C dX2_seek_148 rfl 5 rfl ?_
                refine g_iconst (v := 1) C dX2_seek_149 (by decide) ?_
                refine g_iload_n C dX2_seek_150 rfl 4 rfl ?_
                refine a_ishl C dX2_seek_151 (fun z36111 => ?_)
                refine a_ior C dX2_seek_152 (fun z36113 => ?_)
                refine g_iload_n C dX2_seek_153 rfl 6 rfl ?_
                refine g_iconst (v := 1) C dX2_seek_154 (by decide) ?_
                refine s_iadd C dX2_seek_155 (by show -2147483648 ≤ a3.toInt + 1 ∧ a3.toInt + 1 ≤ 2147483647; omega) (fun z36115 h36116 => ?_)
                have h36116 : z36115.toInt = a3.toInt + 1 := h36116
                refine g_callVV (rest := []) C mv_X2_58 [.int z36109, .int z36113, .int z36115] (s_X2_seek_L6 Iy36095 h36098 (by omega) (by omega)) (h36098).1 (h36098).2 rfl rfl (by decide) (Nat.le_of_ble_eq_true rfl) (by decide) dX2_seek_156 (fun Y36118 h36119 => ?_)
                obtain ⟨Iy36120, Xy36121⟩ := h36119
                have Xz36122 : EK [0, 2, 13] P Y36118 := Xz36097.tr (Xy36121.mono (by decide))
                have h36123 := Xy36121.at h36098
                refine g_lv (lv' := [(0, .ref a0), (5, .int z36066), (6, .int z36072)]) [3, 1, 0] rfl ?_
                exact J159 Y36118 z36066 z36072 Iy36120 Xz36122 (by omega) (by omega)
          · have h36052 : z36050.toInt < z36041.toInt := h36052
            exact ret _ _ _ _ _ dX2_seek_70 (by decide) (by decide) ⟨I, EK.rf⟩
    · have h36047 : z36041.toInt = 0 := congrArg Int32.toInt h36047
      refine g_aload_n C dX2_seek_41 rfl 1 rfl ?_
      refine g_iload_n C dX2_seek_42 rfl 4 rfl ?_
      refine g_putI C fi_X2_45 rfl (ha0).1 (ha0).2 dX2_seek_43 ?_
      refine gpW (ks := [2]) (I.setI (ha0) (rgOk.of rfl (by omega))) (EK.setI (ha0).2 (by decide)) (fun Y36124 Iy36125 Xy36126 w36127 w36128 => ?_)
      have q36129 := w36127 4 (by decide)
      have q36130 := Xy36126.keep (h36033.at) (by decide) 2
      have q36131 := Xy36126.keep (h36037.at) (by decide) 2
      have Xz36132 : EK [0, 2, 13] P Y36124 := Xy36126.mono (by decide)
      have h36133 := Xy36126.at ha0
      refine g_aload_n C dX2_seek_46 rfl 1 rfl ?_
      refine g_iload_n C dX2_seek_47 rfl 3 rfl ?_
      refine g_putI C fi_X2_48 rfl (h36133).1 (h36133).2 dX2_seek_48 ?_
      refine gpW (ks := [2]) (Iy36125.setI (h36133) (rgOk.none rfl)) (EK.setI (h36133).2 (by decide)) (fun Y36134 Iy36135 Xy36136 w36137 w36138 => ?_)
      have q36139 := w36137 4 (by decide)
      have q36140 := w36137 5 (by decide)
      have Xz36141 : EK [0, 2, 13] P Y36134 := Xz36132.tr (Xy36136.mono (by decide))
      have h36142 := Xy36136.at h36133
      exact ret _ _ _ _ _ dX2_seek_51 (by decide) (by decide) ⟨Iy36135, Xz36141⟩
  · have h36046 : (pI P a0 5).toInt ≤ z36043.toInt := h36046
    exact ret _ _ _ _ _ dX2_seek_35 (by decide) (by decide) ⟨I, EK.rf⟩
set_option maxHeartbeats 4000000 in
set_option maxRecDepth 100000 in
theorem s_X2_seek_L8 {P : PP} {a0 : Nat} {a1 : Int32} {a2 : Int32} {a3 : Int32} (I : IV P) (ha0 : At P a0 2) (ha1 : 7 ≤ a1.toInt ∧ a1.toInt ≤ 7) (ha3 : 0 ≤ a3.toInt ∧ a3.toInt ≤ 3) : CtrV yX2_seek cX2_seek 7 none ({ frames := 10, cells := 0, slots := 0, locals := 640 } : Room) 0 0 P [.ref a0, .int a1, .int a2, .int a3] (fun P2 => IV P2 ∧ EK [0, 2, 13] P P2) := by
  refine enV (lv := [(0, .ref a0), (1, .int a1), (2, .int a2), (3, .int a3)]) (by decide) (Nat.le_of_ble_eq_true rfl) rfl (fun E D cy C Ci0 ret => ?_)
  have J159 : ∀ (P159 : PP) (v159_5 : Int32) (v159_6 : Int32), (IV P159) → (EK [0, 2, 13] P P159) → (0 ≤ v159_5.toInt ∧ v159_5.toInt ≤ 20) → (0 ≤ v159_6.toInt ∧ v159_6.toInt ≤ 20) → G E ({ frames := 10, cells := 0, slots := 0, locals := 640 } : Room) D cy 7 P159 0 0 159 [(0, .ref a0), (5, .int v159_5), (6, .int v159_6)] [] := by
    intro P159 v159_5 v159_6 I159 X159 hv159_5 hv159_6
    have h36277 := X159.at ha0
    refine g_aload_n C dX2_seek_159 rfl 0 rfl ?_
    obtain ⟨b36278, e36279, h36280⟩ := I159.fld (h36277) 2 0 0 rfl
    refine g_getR C fi_X2_21 rfl e36279 (h36277).1 (h36277).2 dX2_seek_160 ?_
    refine g_iload C dX2_seek_163 1 rfl ?_
    refine g_callVV (rest := []) C mv_X2_75 [.int v159_5] (s_X0_cut I159 h36280.at) (h36280.at).1 (h36280.at).2 rfl rfl (by decide) (Nat.le_of_ble_eq_true rfl) (by decide) dX2_seek_165 (fun Y36282 h36283 => ?_)
    obtain ⟨Iy36284, Xy36285⟩ := h36283
    have Xz36286 : EK [0, 2, 13] P Y36282 := X159.tr (Xy36285.mono (by decide))
    have h36287 := Xy36285.at h36277
    refine g_aload_n C dX2_seek_168 rfl 0 rfl ?_
    obtain ⟨b36288, e36289, h36290⟩ := Iy36284.fld (h36287) 3 0 0 rfl
    refine g_getR C fi_X2_25 rfl e36289 (h36287).1 (h36287).2 dX2_seek_169 ?_
    refine g_iload C dX2_seek_172 2 rfl ?_
    refine g_callVV (rest := []) C mv_X2_75 [.int v159_6] (s_X0_cut Iy36284 h36290.at) (h36290.at).1 (h36290.at).2 rfl rfl (by decide) (Nat.le_of_ble_eq_true rfl) (by decide) dX2_seek_174 (fun Y36292 h36293 => ?_)
    obtain ⟨Iy36294, Xy36295⟩ := h36293
    have Xz36296 : EK [0, 2, 13] P Y36292 := Xz36286.tr (Xy36295.mono (by decide))
    have h36297 := Xy36295.at h36287
    exact ret _ _ _ _ _ dX2_seek_177 (by decide) (by decide) ⟨Iy36294, Xz36296⟩
  refine g_aload_n C dX2_seek_0 rfl 0 rfl ?_
  refine g_getI C fi_X2_42 (by decide) (ha0).1 (ha0).2 dX2_seek_1 ?_
  have h36298 := I.rg (ha0) 4 rfl
  refine g_aload_n C dX2_seek_4 rfl 0 rfl ?_
  obtain ⟨b36299, e36300, h36301⟩ := I.fld (ha0) 2 0 0 rfl
  refine g_getR C fi_X2_21 rfl e36300 (ha0).1 (ha0).2 dX2_seek_5 ?_
  refine g_getI C fi_X2_62 (by decide) (h36301.at).1 (h36301.at).2 dX2_seek_8 ?_
  have h36302 := I.rg (h36301.at) 2 rfl
  refine g_aload_n C dX2_seek_11 rfl 0 rfl ?_
  obtain ⟨b36303, e36304, h36305⟩ := I.fld (ha0) 3 0 0 rfl
  refine g_getR C fi_X2_25 rfl e36304 (ha0).1 (ha0).2 dX2_seek_12 ?_
  refine g_getI C fi_X2_62 (by decide) (h36305.at).1 (h36305.at).2 dX2_seek_15 ?_
  have h36306 := I.rg (h36305.at) 2 rfl
  refine g_mmin C ms_X2_65 (by decide) (by decide) (Nat.le_of_ble_eq_true rfl) (by decide) dX2_seek_18 (fun z36307 h36308 => ?_)
  have h36308 : z36307.toInt ≤ (pI P b36299 2).toInt ∧ z36307.toInt ≤ (pI P b36303 2).toInt ∧ (z36307.toInt = (pI P b36299 2).toInt ∨ z36307.toInt = (pI P b36303 2).toInt) := h36308
  refine s_isub C dX2_seek_21 (by show -2147483648 ≤ (pI P a0 4).toInt - z36307.toInt ∧ (pI P a0 4).toInt - z36307.toInt ≤ 2147483647; omega) (fun z36309 h36310 => ?_)
  have h36310 : z36309.toInt = (pI P a0 4).toInt - z36307.toInt := h36310
  refine g_istore (lv' := [(4, .int z36309), (0, .ref a0), (1, .int a1), (2, .int a2), (3, .int a3)]) C dX2_seek_22 (by decide) rfl ?_
  refine g_iload_n C dX2_seek_24 rfl 4 rfl ?_
  refine g_iload C dX2_seek_25 0 rfl ?_
  refine s_iadd C dX2_seek_27 (by show -2147483648 ≤ a3.toInt + z36309.toInt ∧ a3.toInt + z36309.toInt ≤ 2147483647; omega) (fun z36311 h36312 => ?_)
  have h36312 : z36311.toInt = a3.toInt + z36309.toInt := h36312
  refine g_aload_n C dX2_seek_28 rfl 1 rfl ?_
  refine g_getI C fi_X2_45 (by decide) (ha0).1 (ha0).2 dX2_seek_29 ?_
  have h36313 := I.rg (ha0) 5 rfl
  refine b_icmp_lt C 36 dX2_seek_32 (by decide) (fun h36314 => ?_) (fun h36314 => ?_)
  · have h36314 : z36311.toInt < (pI P a0 5).toInt := h36314
    refine g_iload C dX2_seek_36 0 rfl ?_
    refine b_if_ne C 52 dX2_seek_38 (by decide) (fun h36315 => ?_) (fun h36315 => ?_)
    · have h36315 : z36309.toInt ≠ 0 := ti_ne h36315
      refine g_iload_n C dX2_seek_52 rfl 2 rfl ?_
      refine b_if_lt C 70 dX2_seek_53 (by decide) (fun h36316 => ?_) (fun h36316 => ?_)
      · have h36316 : a1.toInt < 0 := h36316
        omega
      · have h36316 : 0 ≤ a1.toInt := h36316
        refine g_iload_n C dX2_seek_56 rfl 2 rfl ?_
        refine g_bipush (v := 11) C dX2_seek_57 (by decide) ?_
        refine b_icmp_ge C 70 dX2_seek_59 (by decide) (fun h36317 => ?_) (fun h36317 => ?_)
        · have h36317 : 11 ≤ a1.toInt := h36317
          omega
        · have h36317 : a1.toInt < 11 := h36317
          refine g_iload C dX2_seek_62 0 rfl ?_
          refine g_iload_n C dX2_seek_64 rfl 2 rfl ?_
          refine g_iconst (v := 1) C dX2_seek_65 (by decide) ?_
          refine s_iadd C dX2_seek_66 (by show -2147483648 ≤ a1.toInt + 1 ∧ a1.toInt + 1 ≤ 2147483647; omega) (fun z36318 h36319 => ?_)
          have h36319 : z36318.toInt = a1.toInt + 1 := h36319
          refine b_icmp_le C 71 dX2_seek_67 (by decide) (fun h36320 => ?_) (fun h36320 => ?_)
          · have h36320 : z36309.toInt ≤ z36318.toInt := h36320
            refine g_aload_n C dX2_seek_71 rfl 1 rfl ?_
            refine g_iload_n C dX2_seek_72 rfl 2 rfl ?_
            refine g_iconst (v := 1) C dX2_seek_73 (by decide) ?_
            refine s_isub C dX2_seek_74 (by show -2147483648 ≤ a1.toInt - 1 ∧ a1.toInt - 1 ≤ 2147483647; omega) (fun z36321 h36322 => ?_)
            have h36322 : z36321.toInt = a1.toInt - 1 := h36322
            refine g_iload_n C dX2_seek_75 rfl 3 rfl ?_
            refine g_iload_n C dX2_seek_76 rfl 4 rfl ?_
            refine g_callVV (rest := []) C mv_X2_58 [.int z36321, .int a2, .int a3] (s_X2_seek_L7 I ha0 (by omega) (by omega)) (ha0).1 (ha0).2 rfl rfl (by decide) (Nat.le_of_ble_eq_true rfl) (by decide) dX2_seek_77 (fun Y36324 h36325 => ?_)
            obtain ⟨Iy36326, Xy36327⟩ := h36325
            have Xz36328 : EK [0, 2, 13] P Y36324 := Xy36327.mono (by decide)
            have h36329 := Xy36327.at ha0
            refine g_aload_n C dX2_seek_80 rfl 1 rfl ?_
            obtain ⟨b36330, e36331, h36332⟩ := Iy36326.fld (h36329) 2 0 0 rfl
            refine g_getR C fi_X2_21 rfl e36331 (h36329).1 (h36329).2 dX2_seek_81 ?_
            refine g_getI C fi_X2_62 (by decide) (h36332.at).1 (h36332.at).2 dX2_seek_84 ?_
            have h36333 := Iy36326.rg (h36332.at) 2 rfl
            refine g_topi (fun z36334 h36335 => ?_)
            have h36335 : z36334.toInt = (pI Y36324 b36330 2).toInt := congrArg Int32.toInt h36335
            refine g_istore (lv' := [(5, .int z36334), (4, .int z36309), (0, .ref a0), (1, .int a1), (2, .int a2), (3, .int a3)]) C dX2_seek_87 (by decide) rfl ?_
            refine g_aload_n C dX2_seek_89 rfl 2 rfl ?_
            obtain ⟨b36336, e36337, h36338⟩ := Iy36326.fld (h36329) 3 0 0 rfl
            refine g_getR C fi_X2_25 rfl e36337 (h36329).1 (h36329).2 dX2_seek_90 ?_
            refine g_getI C fi_X2_62 (by decide) (h36338.at).1 (h36338.at).2 dX2_seek_93 ?_
            have h36339 := Iy36326.rg (h36338.at) 2 rfl
            refine g_topi (fun z36340 h36341 => ?_)
            have h36341 : z36340.toInt = (pI Y36324 b36336 2).toInt := congrArg Int32.toInt h36341
            refine g_istore (lv' := [(6, .int z36340), (5, .int z36334), (4, .int z36309), (0, .ref a0), (1, .int a1), (2, .int a2), (3, .int a3)]) C dX2_seek_96 (by decide) rfl ?_
            refine g_aload_n C dX2_seek_98 rfl 3 rfl ?_
            refine g_getR C fi_X2_21 rfl e36331 (h36329).1 (h36329).2 dX2_seek_99 ?_
            refine g_aload_n C dX2_seek_102 rfl 3 rfl ?_
            obtain ⟨b36342, e36343, h36344⟩ := Iy36326.fld (h36329) 0 13 11 rfl
            refine g_getR C fi_X2_9 rfl e36343 (h36329).1 (h36329).2 dX2_seek_103 ?_
            refine g_iload_n C dX2_seek_106 rfl 4 rfl ?_
            refine g_iald (j := (a1.toInt.toNat)) C h36344.1 h36344.2.1 (ix_in h36344.2.2 (by omega)) dX2_seek_107 ?_
            refine g_topi (fun z36345 _ => ?_)
            refine g_callVV (rest := []) C mv_X2_71 [.int z36345] (s_X0_add Iy36326 h36332.at) (h36332.at).1 (h36332.at).2 rfl rfl (by decide) (Nat.le_of_ble_eq_true rfl) (by decide) dX2_seek_108 (fun Y36347 h36348 => ?_)
            obtain ⟨Iy36349, Xy36350⟩ := h36348
            have Xz36351 : EK [0, 2, 13] P Y36347 := Xz36328.tr (Xy36350.mono (by decide))
            have h36352 := Xy36350.at h36329
            refine g_aload_n C dX2_seek_111 rfl 3 rfl ?_
            obtain ⟨b36353, e36354, h36355⟩ := Iy36349.fld (h36352) 3 0 0 rfl
            refine g_getR C fi_X2_25 rfl e36354 (h36352).1 (h36352).2 dX2_seek_112 ?_
            refine g_aload_n C dX2_seek_115 rfl 3 rfl ?_
            obtain ⟨b36356, e36357, h36358⟩ := Iy36349.fld (h36352) 1 13 11 rfl
            refine g_getR C fi_X2_15 rfl e36357 (h36352).1 (h36352).2 dX2_seek_116 ?_
            refine g_iload_n C dX2_seek_119 rfl 4 rfl ?_
            refine g_iald (j := (a1.toInt.toNat)) C h36358.1 h36358.2.1 (ix_in h36358.2.2 (by omega)) dX2_seek_120 ?_
            refine g_topi (fun z36359 _ => ?_)
            refine g_callVV (rest := []) C mv_X2_71 [.int z36359] (s_X0_add Iy36349 h36355.at) (h36355.at).1 (h36355.at).2 rfl rfl (by decide) (Nat.le_of_ble_eq_true rfl) (by decide) dX2_seek_121 (fun Y36361 h36362 => ?_)
            obtain ⟨Iy36363, Xy36364⟩ := h36362
            have Xz36365 : EK [0, 2, 13] P Y36361 := Xz36351.tr (Xy36364.mono (by decide))
            have h36366 := Xy36364.at h36352
            refine g_aload_n C dX2_seek_124 rfl 3 rfl ?_
            obtain ⟨b36367, e36368, h36369⟩ := Iy36363.fld (h36366) 2 0 0 rfl
            refine g_getR C fi_X2_21 rfl e36368 (h36366).1 (h36366).2 dX2_seek_125 ?_
            refine g_getI C fi_X2_32 (by decide) (h36369.at).1 (h36369.at).2 dX2_seek_128 ?_
            have h36370 := Iy36363.rg (h36369.at) 3 rfl
            refine b_if_eq C 159 dX2_seek_131 (by decide) (fun h36371 => ?_) (fun h36371 => ?_)
            · have h36371 : (pI Y36361 b36367 3).toInt = 0 := congrArg Int32.toInt h36371
              refine g_lv (lv' := [(0, .ref a0), (5, .int z36334), (6, .int z36340)]) [3, 1, 0] rfl ?_
              exact J159 Y36361 z36334 z36340 Iy36363 Xz36365 (by omega) (by omega)
            · have h36371 : (pI Y36361 b36367 3).toInt ≠ 0 := ti_ne h36371
              refine g_aload_n C dX2_seek_134 rfl 3 rfl ?_
              obtain ⟨b36372, e36373, h36374⟩ := Iy36363.fld (h36366) 3 0 0 rfl
              refine g_getR C fi_X2_25 rfl e36373 (h36366).1 (h36366).2 dX2_seek_135 ?_
              refine g_getI C fi_X2_32 (by decide) (h36374.at).1 (h36374.at).2 dX2_seek_138 ?_
              have h36375 := Iy36363.rg (h36374.at) 3 rfl
              refine b_if_eq C 159 dX2_seek_141 (by decide) (fun h36376 => ?_) (fun h36376 => ?_)
              · have h36376 : (pI Y36361 b36372 3).toInt = 0 := congrArg Int32.toInt h36376
                refine g_lv (lv' := [(0, .ref a0), (5, .int z36334), (6, .int z36340)]) [3, 1, 0] rfl ?_
                exact J159 Y36361 z36334 z36340 Iy36363 Xz36365 (by omega) (by omega)
              · have h36376 : (pI Y36361 b36372 3).toInt ≠ 0 := ti_ne h36376
                refine g_aload_n C dX2_seek_144 rfl 3 rfl ?_
                refine g_iload_n C dX2_seek_145 rfl 4 rfl ?_
                refine g_iconst (v := 1) C dX2_seek_146 (by decide) ?_
                refine s_isub C dX2_seek_147 (by show -2147483648 ≤ a1.toInt - 1 ∧ a1.toInt - 1 ≤ 2147483647; omega) (fun z36377 h36378 => ?_)
                have h36378 : z36377.toInt = a1.toInt - 1 := h36378
                refine g_iload_n C dX2_seek_148 rfl 5 rfl ?_
                refine g_iconst (v := 1) C dX2_seek_149 (by decide) ?_
                refine g_iload_n C dX2_seek_150 rfl 4 rfl ?_
                refine a_ishl C dX2_seek_151 (fun z36379 => ?_)
                refine a_ior C dX2_seek_152 (fun z36381 => ?_)
                refine g_iload_n C dX2_seek_153 rfl 6 rfl ?_
                refine g_iconst (v := 1) C dX2_seek_154 (by decide) ?_
                refine s_iadd C dX2_seek_155 (by show -2147483648 ≤ a3.toInt + 1 ∧ a3.toInt + 1 ≤ 2147483647; omega) (fun z36383 h36384 => ?_)
                have h36384 : z36383.toInt = a3.toInt + 1 := h36384
                refine g_callVV (rest := []) C mv_X2_58 [.int z36377, .int z36381, .int z36383] (s_X2_seek_L7 Iy36363 h36366 (by omega) (by omega)) (h36366).1 (h36366).2 rfl rfl (by decide) (Nat.le_of_ble_eq_true rfl) (by decide) dX2_seek_156 (fun Y36386 h36387 => ?_)
                obtain ⟨Iy36388, Xy36389⟩ := h36387
                have Xz36390 : EK [0, 2, 13] P Y36386 := Xz36365.tr (Xy36389.mono (by decide))
                have h36391 := Xy36389.at h36366
                refine g_lv (lv' := [(0, .ref a0), (5, .int z36334), (6, .int z36340)]) [3, 1, 0] rfl ?_
                exact J159 Y36386 z36334 z36340 Iy36388 Xz36390 (by omega) (by omega)
          · have h36320 : z36318.toInt < z36309.toInt := h36320
            exact ret _ _ _ _ _ dX2_seek_70 (by decide) (by decide) ⟨I, EK.rf⟩
    · have h36315 : z36309.toInt = 0 := congrArg Int32.toInt h36315
      refine g_aload_n C dX2_seek_41 rfl 1 rfl ?_
      refine g_iload_n C dX2_seek_42 rfl 4 rfl ?_
      refine g_putI C fi_X2_45 rfl (ha0).1 (ha0).2 dX2_seek_43 ?_
      refine gpW (ks := [2]) (I.setI (ha0) (rgOk.of rfl (by omega))) (EK.setI (ha0).2 (by decide)) (fun Y36392 Iy36393 Xy36394 w36395 w36396 => ?_)
      have q36397 := w36395 4 (by decide)
      have q36398 := Xy36394.keep (h36301.at) (by decide) 2
      have q36399 := Xy36394.keep (h36305.at) (by decide) 2
      have Xz36400 : EK [0, 2, 13] P Y36392 := Xy36394.mono (by decide)
      have h36401 := Xy36394.at ha0
      refine g_aload_n C dX2_seek_46 rfl 1 rfl ?_
      refine g_iload_n C dX2_seek_47 rfl 3 rfl ?_
      refine g_putI C fi_X2_48 rfl (h36401).1 (h36401).2 dX2_seek_48 ?_
      refine gpW (ks := [2]) (Iy36393.setI (h36401) (rgOk.none rfl)) (EK.setI (h36401).2 (by decide)) (fun Y36402 Iy36403 Xy36404 w36405 w36406 => ?_)
      have q36407 := w36405 4 (by decide)
      have q36408 := w36405 5 (by decide)
      have Xz36409 : EK [0, 2, 13] P Y36402 := Xz36400.tr (Xy36404.mono (by decide))
      have h36410 := Xy36404.at h36401
      exact ret _ _ _ _ _ dX2_seek_51 (by decide) (by decide) ⟨Iy36403, Xz36409⟩
  · have h36314 : (pI P a0 5).toInt ≤ z36311.toInt := h36314
    exact ret _ _ _ _ _ dX2_seek_35 (by decide) (by decide) ⟨I, EK.rf⟩
set_option maxHeartbeats 4000000 in
set_option maxRecDepth 100000 in
theorem s_X2_seek_L9 {P : PP} {a0 : Nat} {a1 : Int32} {a2 : Int32} {a3 : Int32} (I : IV P) (ha0 : At P a0 2) (ha1 : 8 ≤ a1.toInt ∧ a1.toInt ≤ 8) (ha3 : 0 ≤ a3.toInt ∧ a3.toInt ≤ 2) : CtrV yX2_seek cX2_seek 7 none ({ frames := 11, cells := 0, slots := 0, locals := 704 } : Room) 0 0 P [.ref a0, .int a1, .int a2, .int a3] (fun P2 => IV P2 ∧ EK [0, 2, 13] P P2) := by
  refine enV (lv := [(0, .ref a0), (1, .int a1), (2, .int a2), (3, .int a3)]) (by decide) (Nat.le_of_ble_eq_true rfl) rfl (fun E D cy C Ci0 ret => ?_)
  have J159 : ∀ (P159 : PP) (v159_5 : Int32) (v159_6 : Int32), (IV P159) → (EK [0, 2, 13] P P159) → (0 ≤ v159_5.toInt ∧ v159_5.toInt ≤ 20) → (0 ≤ v159_6.toInt ∧ v159_6.toInt ≤ 20) → G E ({ frames := 11, cells := 0, slots := 0, locals := 704 } : Room) D cy 7 P159 0 0 159 [(0, .ref a0), (5, .int v159_5), (6, .int v159_6)] [] := by
    intro P159 v159_5 v159_6 I159 X159 hv159_5 hv159_6
    have h36545 := X159.at ha0
    refine g_aload_n C dX2_seek_159 rfl 0 rfl ?_
    obtain ⟨b36546, e36547, h36548⟩ := I159.fld (h36545) 2 0 0 rfl
    refine g_getR C fi_X2_21 rfl e36547 (h36545).1 (h36545).2 dX2_seek_160 ?_
    refine g_iload C dX2_seek_163 1 rfl ?_
    refine g_callVV (rest := []) C mv_X2_75 [.int v159_5] (s_X0_cut I159 h36548.at) (h36548.at).1 (h36548.at).2 rfl rfl (by decide) (Nat.le_of_ble_eq_true rfl) (by decide) dX2_seek_165 (fun Y36550 h36551 => ?_)
    obtain ⟨Iy36552, Xy36553⟩ := h36551
    have Xz36554 : EK [0, 2, 13] P Y36550 := X159.tr (Xy36553.mono (by decide))
    have h36555 := Xy36553.at h36545
    refine g_aload_n C dX2_seek_168 rfl 0 rfl ?_
    obtain ⟨b36556, e36557, h36558⟩ := Iy36552.fld (h36555) 3 0 0 rfl
    refine g_getR C fi_X2_25 rfl e36557 (h36555).1 (h36555).2 dX2_seek_169 ?_
    refine g_iload C dX2_seek_172 2 rfl ?_
    refine g_callVV (rest := []) C mv_X2_75 [.int v159_6] (s_X0_cut Iy36552 h36558.at) (h36558.at).1 (h36558.at).2 rfl rfl (by decide) (Nat.le_of_ble_eq_true rfl) (by decide) dX2_seek_174 (fun Y36560 h36561 => ?_)
    obtain ⟨Iy36562, Xy36563⟩ := h36561
    have Xz36564 : EK [0, 2, 13] P Y36560 := Xz36554.tr (Xy36563.mono (by decide))
    have h36565 := Xy36563.at h36555
    exact ret _ _ _ _ _ dX2_seek_177 (by decide) (by decide) ⟨Iy36562, Xz36564⟩
  refine g_aload_n C dX2_seek_0 rfl 0 rfl ?_
  refine g_getI C fi_X2_42 (by decide) (ha0).1 (ha0).2 dX2_seek_1 ?_
  have h36566 := I.rg (ha0) 4 rfl
  refine g_aload_n C dX2_seek_4 rfl 0 rfl ?_
  obtain ⟨b36567, e36568, h36569⟩ := I.fld (ha0) 2 0 0 rfl
  refine g_getR C fi_X2_21 rfl e36568 (ha0).1 (ha0).2 dX2_seek_5 ?_
  refine g_getI C fi_X2_62 (by decide) (h36569.at).1 (h36569.at).2 dX2_seek_8 ?_
  have h36570 := I.rg (h36569.at) 2 rfl
  refine g_aload_n C dX2_seek_11 rfl 0 rfl ?_
  obtain ⟨b36571, e36572, h36573⟩ := I.fld (ha0) 3 0 0 rfl
  refine g_getR C fi_X2_25 rfl e36572 (ha0).1 (ha0).2 dX2_seek_12 ?_
  refine g_getI C fi_X2_62 (by decide) (h36573.at).1 (h36573.at).2 dX2_seek_15 ?_
  have h36574 := I.rg (h36573.at) 2 rfl
  refine g_mmin C ms_X2_65 (by decide) (by decide) (Nat.le_of_ble_eq_true rfl) (by decide) dX2_seek_18 (fun z36575 h36576 => ?_)
  have h36576 : z36575.toInt ≤ (pI P b36567 2).toInt ∧ z36575.toInt ≤ (pI P b36571 2).toInt ∧ (z36575.toInt = (pI P b36567 2).toInt ∨ z36575.toInt = (pI P b36571 2).toInt) := h36576
  refine s_isub C dX2_seek_21 (by show -2147483648 ≤ (pI P a0 4).toInt - z36575.toInt ∧ (pI P a0 4).toInt - z36575.toInt ≤ 2147483647; omega) (fun z36577 h36578 => ?_)
  have h36578 : z36577.toInt = (pI P a0 4).toInt - z36575.toInt := h36578
  refine g_istore (lv' := [(4, .int z36577), (0, .ref a0), (1, .int a1), (2, .int a2), (3, .int a3)]) C dX2_seek_22 (by decide) rfl ?_
  refine g_iload_n C dX2_seek_24 rfl 4 rfl ?_
  refine g_iload C dX2_seek_25 0 rfl ?_
  refine s_iadd C dX2_seek_27 (by show -2147483648 ≤ a3.toInt + z36577.toInt ∧ a3.toInt + z36577.toInt ≤ 2147483647; omega) (fun z36579 h36580 => ?_)
  have h36580 : z36579.toInt = a3.toInt + z36577.toInt := h36580
  refine g_aload_n C dX2_seek_28 rfl 1 rfl ?_
  refine g_getI C fi_X2_45 (by decide) (ha0).1 (ha0).2 dX2_seek_29 ?_
  have h36581 := I.rg (ha0) 5 rfl
  refine b_icmp_lt C 36 dX2_seek_32 (by decide) (fun h36582 => ?_) (fun h36582 => ?_)
  · have h36582 : z36579.toInt < (pI P a0 5).toInt := h36582
    refine g_iload C dX2_seek_36 0 rfl ?_
    refine b_if_ne C 52 dX2_seek_38 (by decide) (fun h36583 => ?_) (fun h36583 => ?_)
    · have h36583 : z36577.toInt ≠ 0 := ti_ne h36583
      refine g_iload_n C dX2_seek_52 rfl 2 rfl ?_
      refine b_if_lt C 70 dX2_seek_53 (by decide) (fun h36584 => ?_) (fun h36584 => ?_)
      · have h36584 : a1.toInt < 0 := h36584
        omega
      · have h36584 : 0 ≤ a1.toInt := h36584
        refine g_iload_n C dX2_seek_56 rfl 2 rfl ?_
        refine g_bipush (v := 11) C dX2_seek_57 (by decide) ?_
        refine b_icmp_ge C 70 dX2_seek_59 (by decide) (fun h36585 => ?_) (fun h36585 => ?_)
        · have h36585 : 11 ≤ a1.toInt := h36585
          omega
        · have h36585 : a1.toInt < 11 := h36585
          refine g_iload C dX2_seek_62 0 rfl ?_
          refine g_iload_n C dX2_seek_64 rfl 2 rfl ?_
          refine g_iconst (v := 1) C dX2_seek_65 (by decide) ?_
          refine s_iadd C dX2_seek_66 (by show -2147483648 ≤ a1.toInt + 1 ∧ a1.toInt + 1 ≤ 2147483647; omega) (fun z36586 h36587 => ?_)
          have h36587 : z36586.toInt = a1.toInt + 1 := h36587
          refine b_icmp_le C 71 dX2_seek_67 (by decide) (fun h36588 => ?_) (fun h36588 => ?_)
          · have h36588 : z36577.toInt ≤ z36586.toInt := h36588
            refine g_aload_n C dX2_seek_71 rfl 1 rfl ?_
            refine g_iload_n C dX2_seek_72 rfl 2 rfl ?_
            refine g_iconst (v := 1) C dX2_seek_73 (by decide) ?_
            refine s_isub C dX2_seek_74 (by show -2147483648 ≤ a1.toInt - 1 ∧ a1.toInt - 1 ≤ 2147483647; omega) (fun z36589 h36590 => ?_)
            have h36590 : z36589.toInt = a1.toInt - 1 := h36590
            refine g_iload_n C dX2_seek_75 rfl 3 rfl ?_
            refine g_iload_n C dX2_seek_76 rfl 4 rfl ?_
            refine g_callVV (rest := []) C mv_X2_58 [.int z36589, .int a2, .int a3] (s_X2_seek_L8 I ha0 (by omega) (by omega)) (ha0).1 (ha0).2 rfl rfl (by decide) (Nat.le_of_ble_eq_true rfl) (by decide) dX2_seek_77 (fun Y36592 h36593 => ?_)
            obtain ⟨Iy36594, Xy36595⟩ := h36593
            have Xz36596 : EK [0, 2, 13] P Y36592 := Xy36595.mono (by decide)
            have h36597 := Xy36595.at ha0
            refine g_aload_n C dX2_seek_80 rfl 1 rfl ?_
            obtain ⟨b36598, e36599, h36600⟩ := Iy36594.fld (h36597) 2 0 0 rfl
            refine g_getR C fi_X2_21 rfl e36599 (h36597).1 (h36597).2 dX2_seek_81 ?_
            refine g_getI C fi_X2_62 (by decide) (h36600.at).1 (h36600.at).2 dX2_seek_84 ?_
            have h36601 := Iy36594.rg (h36600.at) 2 rfl
            refine g_topi (fun z36602 h36603 => ?_)
            have h36603 : z36602.toInt = (pI Y36592 b36598 2).toInt := congrArg Int32.toInt h36603
            refine g_istore (lv' := [(5, .int z36602), (4, .int z36577), (0, .ref a0), (1, .int a1), (2, .int a2), (3, .int a3)]) C dX2_seek_87 (by decide) rfl ?_
            refine g_aload_n C dX2_seek_89 rfl 2 rfl ?_
            obtain ⟨b36604, e36605, h36606⟩ := Iy36594.fld (h36597) 3 0 0 rfl
            refine g_getR C fi_X2_25 rfl e36605 (h36597).1 (h36597).2 dX2_seek_90 ?_
            refine g_getI C fi_X2_62 (by decide) (h36606.at).1 (h36606.at).2 dX2_seek_93 ?_
            have h36607 := Iy36594.rg (h36606.at) 2 rfl
            refine g_topi (fun z36608 h36609 => ?_)
            have h36609 : z36608.toInt = (pI Y36592 b36604 2).toInt := congrArg Int32.toInt h36609
            refine g_istore (lv' := [(6, .int z36608), (5, .int z36602), (4, .int z36577), (0, .ref a0), (1, .int a1), (2, .int a2), (3, .int a3)]) C dX2_seek_96 (by decide) rfl ?_
            refine g_aload_n C dX2_seek_98 rfl 3 rfl ?_
            refine g_getR C fi_X2_21 rfl e36599 (h36597).1 (h36597).2 dX2_seek_99 ?_
            refine g_aload_n C dX2_seek_102 rfl 3 rfl ?_
            obtain ⟨b36610, e36611, h36612⟩ := Iy36594.fld (h36597) 0 13 11 rfl
            refine g_getR C fi_X2_9 rfl e36611 (h36597).1 (h36597).2 dX2_seek_103 ?_
            refine g_iload_n C dX2_seek_106 rfl 4 rfl ?_
            refine g_iald (j := (a1.toInt.toNat)) C h36612.1 h36612.2.1 (ix_in h36612.2.2 (by omega)) dX2_seek_107 ?_
            refine g_topi (fun z36613 _ => ?_)
            refine g_callVV (rest := []) C mv_X2_71 [.int z36613] (s_X0_add Iy36594 h36600.at) (h36600.at).1 (h36600.at).2 rfl rfl (by decide) (Nat.le_of_ble_eq_true rfl) (by decide) dX2_seek_108 (fun Y36615 h36616 => ?_)
            obtain ⟨Iy36617, Xy36618⟩ := h36616
            have Xz36619 : EK [0, 2, 13] P Y36615 := Xz36596.tr (Xy36618.mono (by decide))
            have h36620 := Xy36618.at h36597
            refine g_aload_n C dX2_seek_111 rfl 3 rfl ?_
            obtain ⟨b36621, e36622, h36623⟩ := Iy36617.fld (h36620) 3 0 0 rfl
            refine g_getR C fi_X2_25 rfl e36622 (h36620).1 (h36620).2 dX2_seek_112 ?_
            refine g_aload_n C dX2_seek_115 rfl 3 rfl ?_
            obtain ⟨b36624, e36625, h36626⟩ := Iy36617.fld (h36620) 1 13 11 rfl
            refine g_getR C fi_X2_15 rfl e36625 (h36620).1 (h36620).2 dX2_seek_116 ?_
            refine g_iload_n C dX2_seek_119 rfl 4 rfl ?_
            refine g_iald (j := (a1.toInt.toNat)) C h36626.1 h36626.2.1 (ix_in h36626.2.2 (by omega)) dX2_seek_120 ?_
            refine g_topi (fun z36627 _ => ?_)
            refine g_callVV (rest := []) C mv_X2_71 [.int z36627] (s_X0_add Iy36617 h36623.at) (h36623.at).1 (h36623.at).2 rfl rfl (by decide) (Nat.le_of_ble_eq_true rfl) (by decide) dX2_seek_121 (fun Y36629 h36630 => ?_)
            obtain ⟨Iy36631, Xy36632⟩ := h36630
            have Xz36633 : EK [0, 2, 13] P Y36629 := Xz36619.tr (Xy36632.mono (by decide))
            have h36634 := Xy36632.at h36620
            refine g_aload_n C dX2_seek_124 rfl 3 rfl ?_
            obtain ⟨b36635, e36636, h36637⟩ := Iy36631.fld (h36634) 2 0 0 rfl
            refine g_getR C fi_X2_21 rfl e36636 (h36634).1 (h36634).2 dX2_seek_125 ?_
            refine g_getI C fi_X2_32 (by decide) (h36637.at).1 (h36637.at).2 dX2_seek_128 ?_
            have h36638 := Iy36631.rg (h36637.at) 3 rfl
            refine b_if_eq C 159 dX2_seek_131 (by decide) (fun h36639 => ?_) (fun h36639 => ?_)
            · have h36639 : (pI Y36629 b36635 3).toInt = 0 := congrArg Int32.toInt h36639
              refine g_lv (lv' := [(0, .ref a0), (5, .int z36602), (6, .int z36608)]) [3, 1, 0] rfl ?_
              exact J159 Y36629 z36602 z36608 Iy36631 Xz36633 (by omega) (by omega)
            · have h36639 : (pI Y36629 b36635 3).toInt ≠ 0 := ti_ne h36639
              refine g_aload_n C dX2_seek_134 rfl 3 rfl ?_
              obtain ⟨b36640, e36641, h36642⟩ := Iy36631.fld (h36634) 3 0 0 rfl
              refine g_getR C fi_X2_25 rfl e36641 (h36634).1 (h36634).2 dX2_seek_135 ?_
              refine g_getI C fi_X2_32 (by decide) (h36642.at).1 (h36642.at).2 dX2_seek_138 ?_
              have h36643 := Iy36631.rg (h36642.at) 3 rfl
              refine b_if_eq C 159 dX2_seek_141 (by decide) (fun h36644 => ?_) (fun h36644 => ?_)
              · have h36644 : (pI Y36629 b36640 3).toInt = 0 := congrArg Int32.toInt h36644
                refine g_lv (lv' := [(0, .ref a0), (5, .int z36602), (6, .int z36608)]) [3, 1, 0] rfl ?_
                exact J159 Y36629 z36602 z36608 Iy36631 Xz36633 (by omega) (by omega)
              · have h36644 : (pI Y36629 b36640 3).toInt ≠ 0 := ti_ne h36644
                refine g_aload_n C dX2_seek_144 rfl 3 rfl ?_
                refine g_iload_n C dX2_seek_145 rfl 4 rfl ?_
                refine g_iconst (v := 1) C dX2_seek_146 (by decide) ?_
                refine s_isub C dX2_seek_147 (by show -2147483648 ≤ a1.toInt - 1 ∧ a1.toInt - 1 ≤ 2147483647; omega) (fun z36645 h36646 => ?_)
                have h36646 : z36645.toInt = a1.toInt - 1 := h36646
                refine g_iload_n C dX2_seek_148 rfl 5 rfl ?_
                refine g_iconst (v := 1) C dX2_seek_149 (by decide) ?_
                refine g_iload_n C dX2_seek_150 rfl 4 rfl ?_
                refine a_ishl C dX2_seek_151 (fun z36647 => ?_)
                refine a_ior C dX2_seek_152 (fun z36649 => ?_)
                refine g_iload_n C dX2_seek_153 rfl 6 rfl ?_
                refine g_iconst (v := 1) C dX2_seek_154 (by decide) ?_
                refine s_iadd C dX2_seek_155 (by show -2147483648 ≤ a3.toInt + 1 ∧ a3.toInt + 1 ≤ 2147483647; omega) (fun z36651 h36652 => ?_)
                have h36652 : z36651.toInt = a3.toInt + 1 := h36652
                refine g_callVV (rest := []) C mv_X2_58 [.int z36645, .int z36649, .int z36651] (s_X2_seek_L8 Iy36631 h36634 (by omega) (by omega)) (h36634).1 (h36634).2 rfl rfl (by decide) (Nat.le_of_ble_eq_true rfl) (by decide) dX2_seek_156 (fun Y36654 h36655 => ?_)
                obtain ⟨Iy36656, Xy36657⟩ := h36655
                have Xz36658 : EK [0, 2, 13] P Y36654 := Xz36633.tr (Xy36657.mono (by decide))
                have h36659 := Xy36657.at h36634
                refine g_lv (lv' := [(0, .ref a0), (5, .int z36602), (6, .int z36608)]) [3, 1, 0] rfl ?_
                exact J159 Y36654 z36602 z36608 Iy36656 Xz36658 (by omega) (by omega)
          · have h36588 : z36586.toInt < z36577.toInt := h36588
            exact ret _ _ _ _ _ dX2_seek_70 (by decide) (by decide) ⟨I, EK.rf⟩
    · have h36583 : z36577.toInt = 0 := congrArg Int32.toInt h36583
      refine g_aload_n C dX2_seek_41 rfl 1 rfl ?_
      refine g_iload_n C dX2_seek_42 rfl 4 rfl ?_
      refine g_putI C fi_X2_45 rfl (ha0).1 (ha0).2 dX2_seek_43 ?_
      refine gpW (ks := [2]) (I.setI (ha0) (rgOk.of rfl (by omega))) (EK.setI (ha0).2 (by decide)) (fun Y36660 Iy36661 Xy36662 w36663 w36664 => ?_)
      have q36665 := w36663 4 (by decide)
      have q36666 := Xy36662.keep (h36569.at) (by decide) 2
      have q36667 := Xy36662.keep (h36573.at) (by decide) 2
      have Xz36668 : EK [0, 2, 13] P Y36660 := Xy36662.mono (by decide)
      have h36669 := Xy36662.at ha0
      refine g_aload_n C dX2_seek_46 rfl 1 rfl ?_
      refine g_iload_n C dX2_seek_47 rfl 3 rfl ?_
      refine g_putI C fi_X2_48 rfl (h36669).1 (h36669).2 dX2_seek_48 ?_
      refine gpW (ks := [2]) (Iy36661.setI (h36669) (rgOk.none rfl)) (EK.setI (h36669).2 (by decide)) (fun Y36670 Iy36671 Xy36672 w36673 w36674 => ?_)
      have q36675 := w36673 4 (by decide)
      have q36676 := w36673 5 (by decide)
      have Xz36677 : EK [0, 2, 13] P Y36670 := Xz36668.tr (Xy36672.mono (by decide))
      have h36678 := Xy36672.at h36669
      exact ret _ _ _ _ _ dX2_seek_51 (by decide) (by decide) ⟨Iy36671, Xz36677⟩
  · have h36582 : (pI P a0 5).toInt ≤ z36579.toInt := h36582
    exact ret _ _ _ _ _ dX2_seek_35 (by decide) (by decide) ⟨I, EK.rf⟩
set_option maxHeartbeats 4000000 in
set_option maxRecDepth 100000 in
theorem s_X2_seek_L10 {P : PP} {a0 : Nat} {a1 : Int32} {a2 : Int32} {a3 : Int32} (I : IV P) (ha0 : At P a0 2) (ha1 : 9 ≤ a1.toInt ∧ a1.toInt ≤ 9) (ha3 : 0 ≤ a3.toInt ∧ a3.toInt ≤ 1) : CtrV yX2_seek cX2_seek 7 none ({ frames := 12, cells := 0, slots := 0, locals := 768 } : Room) 0 0 P [.ref a0, .int a1, .int a2, .int a3] (fun P2 => IV P2 ∧ EK [0, 2, 13] P P2) := by
  refine enV (lv := [(0, .ref a0), (1, .int a1), (2, .int a2), (3, .int a3)]) (by decide) (Nat.le_of_ble_eq_true rfl) rfl (fun E D cy C Ci0 ret => ?_)
  have J159 : ∀ (P159 : PP) (v159_5 : Int32) (v159_6 : Int32), (IV P159) → (EK [0, 2, 13] P P159) → (0 ≤ v159_5.toInt ∧ v159_5.toInt ≤ 20) → (0 ≤ v159_6.toInt ∧ v159_6.toInt ≤ 20) → G E ({ frames := 12, cells := 0, slots := 0, locals := 768 } : Room) D cy 7 P159 0 0 159 [(0, .ref a0), (5, .int v159_5), (6, .int v159_6)] [] := by
    intro P159 v159_5 v159_6 I159 X159 hv159_5 hv159_6
    have h36813 := X159.at ha0
    refine g_aload_n C dX2_seek_159 rfl 0 rfl ?_
    obtain ⟨b36814, e36815, h36816⟩ := I159.fld (h36813) 2 0 0 rfl
    refine g_getR C fi_X2_21 rfl e36815 (h36813).1 (h36813).2 dX2_seek_160 ?_
    refine g_iload C dX2_seek_163 1 rfl ?_
    refine g_callVV (rest := []) C mv_X2_75 [.int v159_5] (s_X0_cut I159 h36816.at) (h36816.at).1 (h36816.at).2 rfl rfl (by decide) (Nat.le_of_ble_eq_true rfl) (by decide) dX2_seek_165 (fun Y36818 h36819 => ?_)
    obtain ⟨Iy36820, Xy36821⟩ := h36819
    have Xz36822 : EK [0, 2, 13] P Y36818 := X159.tr (Xy36821.mono (by decide))
    have h36823 := Xy36821.at h36813
    refine g_aload_n C dX2_seek_168 rfl 0 rfl ?_
    obtain ⟨b36824, e36825, h36826⟩ := Iy36820.fld (h36823) 3 0 0 rfl
    refine g_getR C fi_X2_25 rfl e36825 (h36823).1 (h36823).2 dX2_seek_169 ?_
    refine g_iload C dX2_seek_172 2 rfl ?_
    refine g_callVV (rest := []) C mv_X2_75 [.int v159_6] (s_X0_cut Iy36820 h36826.at) (h36826.at).1 (h36826.at).2 rfl rfl (by decide) (Nat.le_of_ble_eq_true rfl) (by decide) dX2_seek_174 (fun Y36828 h36829 => ?_)
    obtain ⟨Iy36830, Xy36831⟩ := h36829
    have Xz36832 : EK [0, 2, 13] P Y36828 := Xz36822.tr (Xy36831.mono (by decide))
    have h36833 := Xy36831.at h36823
    exact ret _ _ _ _ _ dX2_seek_177 (by decide) (by decide) ⟨Iy36830, Xz36832⟩
  refine g_aload_n C dX2_seek_0 rfl 0 rfl ?_
  refine g_getI C fi_X2_42 (by decide) (ha0).1 (ha0).2 dX2_seek_1 ?_
  have h36834 := I.rg (ha0) 4 rfl
  refine g_aload_n C dX2_seek_4 rfl 0 rfl ?_
  obtain ⟨b36835, e36836, h36837⟩ := I.fld (ha0) 2 0 0 rfl
  refine g_getR C fi_X2_21 rfl e36836 (ha0).1 (ha0).2 dX2_seek_5 ?_
  refine g_getI C fi_X2_62 (by decide) (h36837.at).1 (h36837.at).2 dX2_seek_8 ?_
  have h36838 := I.rg (h36837.at) 2 rfl
  refine g_aload_n C dX2_seek_11 rfl 0 rfl ?_
  obtain ⟨b36839, e36840, h36841⟩ := I.fld (ha0) 3 0 0 rfl
  refine g_getR C fi_X2_25 rfl e36840 (ha0).1 (ha0).2 dX2_seek_12 ?_
  refine g_getI C fi_X2_62 (by decide) (h36841.at).1 (h36841.at).2 dX2_seek_15 ?_
  have h36842 := I.rg (h36841.at) 2 rfl
  refine g_mmin C ms_X2_65 (by decide) (by decide) (Nat.le_of_ble_eq_true rfl) (by decide) dX2_seek_18 (fun z36843 h36844 => ?_)
  have h36844 : z36843.toInt ≤ (pI P b36835 2).toInt ∧ z36843.toInt ≤ (pI P b36839 2).toInt ∧ (z36843.toInt = (pI P b36835 2).toInt ∨ z36843.toInt = (pI P b36839 2).toInt) := h36844
  refine s_isub C dX2_seek_21 (by show -2147483648 ≤ (pI P a0 4).toInt - z36843.toInt ∧ (pI P a0 4).toInt - z36843.toInt ≤ 2147483647; omega) (fun z36845 h36846 => ?_)
  have h36846 : z36845.toInt = (pI P a0 4).toInt - z36843.toInt := h36846
  refine g_istore (lv' := [(4, .int z36845), (0, .ref a0), (1, .int a1), (2, .int a2), (3, .int a3)]) C dX2_seek_22 (by decide) rfl ?_
  refine g_iload_n C dX2_seek_24 rfl 4 rfl ?_
  refine g_iload C dX2_seek_25 0 rfl ?_
  refine s_iadd C dX2_seek_27 (by show -2147483648 ≤ a3.toInt + z36845.toInt ∧ a3.toInt + z36845.toInt ≤ 2147483647; omega) (fun z36847 h36848 => ?_)
  have h36848 : z36847.toInt = a3.toInt + z36845.toInt := h36848
  refine g_aload_n C dX2_seek_28 rfl 1 rfl ?_
  refine g_getI C fi_X2_45 (by decide) (ha0).1 (ha0).2 dX2_seek_29 ?_
  have h36849 := I.rg (ha0) 5 rfl
  refine b_icmp_lt C 36 dX2_seek_32 (by decide) (fun h36850 => ?_) (fun h36850 => ?_)
  · have h36850 : z36847.toInt < (pI P a0 5).toInt := h36850
    refine g_iload C dX2_seek_36 0 rfl ?_
    refine b_if_ne C 52 dX2_seek_38 (by decide) (fun h36851 => ?_) (fun h36851 => ?_)
    · have h36851 : z36845.toInt ≠ 0 := ti_ne h36851
      refine g_iload_n C dX2_seek_52 rfl 2 rfl ?_
      refine b_if_lt C 70 dX2_seek_53 (by decide) (fun h36852 => ?_) (fun h36852 => ?_)
      · have h36852 : a1.toInt < 0 := h36852
        omega
      · have h36852 : 0 ≤ a1.toInt := h36852
        refine g_iload_n C dX2_seek_56 rfl 2 rfl ?_
        refine g_bipush (v := 11) C dX2_seek_57 (by decide) ?_
        refine b_icmp_ge C 70 dX2_seek_59 (by decide) (fun h36853 => ?_) (fun h36853 => ?_)
        · have h36853 : 11 ≤ a1.toInt := h36853
          omega
        · have h36853 : a1.toInt < 11 := h36853
          refine g_iload C dX2_seek_62 0 rfl ?_
          refine g_iload_n C dX2_seek_64 rfl 2 rfl ?_
          refine g_iconst (v := 1) C dX2_seek_65 (by decide) ?_
          refine s_iadd C dX2_seek_66 (by show -2147483648 ≤ a1.toInt + 1 ∧ a1.toInt + 1 ≤ 2147483647; omega) (fun z36854 h36855 => ?_)
          have h36855 : z36854.toInt = a1.toInt + 1 := h36855
          refine b_icmp_le C 71 dX2_seek_67 (by decide) (fun h36856 => ?_) (fun h36856 => ?_)
          · have h36856 : z36845.toInt ≤ z36854.toInt := h36856
            refine g_aload_n C dX2_seek_71 rfl 1 rfl ?_
            refine g_iload_n C dX2_seek_72 rfl 2 rfl ?_
            refine g_iconst (v := 1) C dX2_seek_73 (by decide) ?_
            refine s_isub C dX2_seek_74 (by show -2147483648 ≤ a1.toInt - 1 ∧ a1.toInt - 1 ≤ 2147483647; omega) (fun z36857 h36858 => ?_)
            have h36858 : z36857.toInt = a1.toInt - 1 := h36858
            refine g_iload_n C dX2_seek_75 rfl 3 rfl ?_
            refine g_iload_n C dX2_seek_76 rfl 4 rfl ?_
            refine g_callVV (rest := []) C mv_X2_58 [.int z36857, .int a2, .int a3] (s_X2_seek_L9 I ha0 (by omega) (by omega)) (ha0).1 (ha0).2 rfl rfl (by decide) (Nat.le_of_ble_eq_true rfl) (by decide) dX2_seek_77 (fun Y36860 h36861 => ?_)
            obtain ⟨Iy36862, Xy36863⟩ := h36861
            have Xz36864 : EK [0, 2, 13] P Y36860 := Xy36863.mono (by decide)
            have h36865 := Xy36863.at ha0
            refine g_aload_n C dX2_seek_80 rfl 1 rfl ?_
            obtain ⟨b36866, e36867, h36868⟩ := Iy36862.fld (h36865) 2 0 0 rfl
            refine g_getR C fi_X2_21 rfl e36867 (h36865).1 (h36865).2 dX2_seek_81 ?_
            refine g_getI C fi_X2_62 (by decide) (h36868.at).1 (h36868.at).2 dX2_seek_84 ?_
            have h36869 := Iy36862.rg (h36868.at) 2 rfl
            refine g_topi (fun z36870 h36871 => ?_)
            have h36871 : z36870.toInt = (pI Y36860 b36866 2).toInt := congrArg Int32.toInt h36871
            refine g_istore (lv' := [(5, .int z36870), (4, .int z36845), (0, .ref a0), (1, .int a1), (2, .int a2), (3, .int a3)]) C dX2_seek_87 (by decide) rfl ?_
            refine g_aload_n C dX2_seek_89 rfl 2 rfl ?_
            obtain ⟨b36872, e36873, h36874⟩ := Iy36862.fld (h36865) 3 0 0 rfl
            refine g_getR C fi_X2_25 rfl e36873 (h36865).1 (h36865).2 dX2_seek_90 ?_
            refine g_getI C fi_X2_62 (by decide) (h36874.at).1 (h36874.at).2 dX2_seek_93 ?_
            have h36875 := Iy36862.rg (h36874.at) 2 rfl
            refine g_topi (fun z36876 h36877 => ?_)
            have h36877 : z36876.toInt = (pI Y36860 b36872 2).toInt := congrArg Int32.toInt h36877
            refine g_istore (lv' := [(6, .int z36876), (5, .int z36870), (4, .int z36845), (0, .ref a0), (1, .int a1), (2, .int a2), (3, .int a3)]) C dX2_seek_96 (by decide) rfl ?_
            refine g_aload_n C dX2_seek_98 rfl 3 rfl ?_
            refine g_getR C fi_X2_21 rfl e36867 (h36865).1 (h36865).2 dX2_seek_99 ?_
            refine g_aload_n C dX2_seek_102 rfl 3 rfl ?_
            obtain ⟨b36878, e36879, h36880⟩ := Iy36862.fld (h36865) 0 13 11 rfl
            refine g_getR C fi_X2_9 rfl e36879 (h36865).1 (h36865).2 dX2_seek_103 ?_
            refine g_iload_n C dX2_seek_106 rfl 4 rfl ?_
            refine g_iald (j := (a1.toInt.toNat)) C h36880.1 h36880.2.1 (ix_in h36880.2.2 (by omega)) dX2_seek_107 ?_
            refine g_topi (fun z36881 _ => ?_)
            refine g_callVV (rest := []) C mv_X2_71 [.int z36881] (s_X0_add Iy36862 h36868.at) (h36868.at).1 (h36868.at).2 rfl rfl (by decide) (Nat.le_of_ble_eq_true rfl) (by decide) dX2_seek_108 (fun Y36883 h36884 => ?_)
            obtain ⟨Iy36885, Xy36886⟩ := h36884
            have Xz36887 : EK [0, 2, 13] P Y36883 := Xz36864.tr (Xy36886.mono (by decide))
            have h36888 := Xy36886.at h36865
            refine g_aload_n C dX2_seek_111 rfl 3 rfl ?_
            obtain ⟨b36889, e36890, h36891⟩ := Iy36885.fld (h36888) 3 0 0 rfl
            refine g_getR C fi_X2_25 rfl e36890 (h36888).1 (h36888).2 dX2_seek_112 ?_
            refine g_aload_n C dX2_seek_115 rfl 3 rfl ?_
            obtain ⟨b36892, e36893, h36894⟩ := Iy36885.fld (h36888) 1 13 11 rfl
            refine g_getR C fi_X2_15 rfl e36893 (h36888).1 (h36888).2 dX2_seek_116 ?_
            refine g_iload_n C dX2_seek_119 rfl 4 rfl ?_
            refine g_iald (j := (a1.toInt.toNat)) C h36894.1 h36894.2.1 (ix_in h36894.2.2 (by omega)) dX2_seek_120 ?_
            refine g_topi (fun z36895 _ => ?_)
            refine g_callVV (rest := []) C mv_X2_71 [.int z36895] (s_X0_add Iy36885 h36891.at) (h36891.at).1 (h36891.at).2 rfl rfl (by decide) (Nat.le_of_ble_eq_true rfl) (by decide) dX2_seek_121 (fun Y36897 h36898 => ?_)
            obtain ⟨Iy36899, Xy36900⟩ := h36898
            have Xz36901 : EK [0, 2, 13] P Y36897 := Xz36887.tr (Xy36900.mono (by decide))
            have h36902 := Xy36900.at h36888
            refine g_aload_n C dX2_seek_124 rfl 3 rfl ?_
            obtain ⟨b36903, e36904, h36905⟩ := Iy36899.fld (h36902) 2 0 0 rfl
            refine g_getR C fi_X2_21 rfl e36904 (h36902).1 (h36902).2 dX2_seek_125 ?_
            refine g_getI C fi_X2_32 (by decide) (h36905.at).1 (h36905.at).2 dX2_seek_128 ?_
            have h36906 := Iy36899.rg (h36905.at) 3 rfl
            refine b_if_eq C 159 dX2_seek_131 (by decide) (fun h36907 => ?_) (fun h36907 => ?_)
            · have h36907 : (pI Y36897 b36903 3).toInt = 0 := congrArg Int32.toInt h36907
              refine g_lv (lv' := [(0, .ref a0), (5, .int z36870), (6, .int z36876)]) [3, 1, 0] rfl ?_
              exact J159 Y36897 z36870 z36876 Iy36899 Xz36901 (by omega) (by omega)
            · have h36907 : (pI Y36897 b36903 3).toInt ≠ 0 := ti_ne h36907
              refine g_aload_n C dX2_seek_134 rfl 3 rfl ?_
              obtain ⟨b36908, e36909, h36910⟩ := Iy36899.fld (h36902) 3 0 0 rfl
              refine g_getR C fi_X2_25 rfl e36909 (h36902).1 (h36902).2 dX2_seek_135 ?_
              refine g_getI C fi_X2_32 (by decide) (h36910.at).1 (h36910.at).2 dX2_seek_138 ?_
              have h36911 := Iy36899.rg (h36910.at) 3 rfl
              refine b_if_eq C 159 dX2_seek_141 (by decide) (fun h36912 => ?_) (fun h36912 => ?_)
              · have h36912 : (pI Y36897 b36908 3).toInt = 0 := congrArg Int32.toInt h36912
                refine g_lv (lv' := [(0, .ref a0), (5, .int z36870), (6, .int z36876)]) [3, 1, 0] rfl ?_
                exact J159 Y36897 z36870 z36876 Iy36899 Xz36901 (by omega) (by omega)
              · have h36912 : (pI Y36897 b36908 3).toInt ≠ 0 := ti_ne h36912
                refine g_aload_n C dX2_seek_144 rfl 3 rfl ?_
                refine g_iload_n C dX2_seek_145 rfl 4 rfl ?_
                refine g_iconst (v := 1) C dX2_seek_146 (by decide) ?_
                refine s_isub C dX2_seek_147 (by show -2147483648 ≤ a1.toInt - 1 ∧ a1.toInt - 1 ≤ 2147483647; omega) (fun z36913 h36914 => ?_)
                have h36914 : z36913.toInt = a1.toInt - 1 := h36914
                refine g_iload_n C dX2_seek_148 rfl 5 rfl ?_
                refine g_iconst (v := 1) C dX2_seek_149 (by decide) ?_
                refine g_iload_n C dX2_seek_150 rfl 4 rfl ?_
                refine a_ishl C dX2_seek_151 (fun z36915 => ?_)
                refine a_ior C dX2_seek_152 (fun z36917 => ?_)
                refine g_iload_n C dX2_seek_153 rfl 6 rfl ?_
                refine g_iconst (v := 1) C dX2_seek_154 (by decide) ?_
                refine s_iadd C dX2_seek_155 (by show -2147483648 ≤ a3.toInt + 1 ∧ a3.toInt + 1 ≤ 2147483647; omega) (fun z36919 h36920 => ?_)
                have h36920 : z36919.toInt = a3.toInt + 1 := h36920
                refine g_callVV (rest := []) C mv_X2_58 [.int z36913, .int z36917, .int z36919] (s_X2_seek_L9 Iy36899 h36902 (by omega) (by omega)) (h36902).1 (h36902).2 rfl rfl (by decide) (Nat.le_of_ble_eq_true rfl) (by decide) dX2_seek_156 (fun Y36922 h36923 => ?_)
                obtain ⟨Iy36924, Xy36925⟩ := h36923
                have Xz36926 : EK [0, 2, 13] P Y36922 := Xz36901.tr (Xy36925.mono (by decide))
                have h36927 := Xy36925.at h36902
                refine g_lv (lv' := [(0, .ref a0), (5, .int z36870), (6, .int z36876)]) [3, 1, 0] rfl ?_
                exact J159 Y36922 z36870 z36876 Iy36924 Xz36926 (by omega) (by omega)
          · have h36856 : z36854.toInt < z36845.toInt := h36856
            exact ret _ _ _ _ _ dX2_seek_70 (by decide) (by decide) ⟨I, EK.rf⟩
    · have h36851 : z36845.toInt = 0 := congrArg Int32.toInt h36851
      refine g_aload_n C dX2_seek_41 rfl 1 rfl ?_
      refine g_iload_n C dX2_seek_42 rfl 4 rfl ?_
      refine g_putI C fi_X2_45 rfl (ha0).1 (ha0).2 dX2_seek_43 ?_
      refine gpW (ks := [2]) (I.setI (ha0) (rgOk.of rfl (by omega))) (EK.setI (ha0).2 (by decide)) (fun Y36928 Iy36929 Xy36930 w36931 w36932 => ?_)
      have q36933 := w36931 4 (by decide)
      have q36934 := Xy36930.keep (h36837.at) (by decide) 2
      have q36935 := Xy36930.keep (h36841.at) (by decide) 2
      have Xz36936 : EK [0, 2, 13] P Y36928 := Xy36930.mono (by decide)
      have h36937 := Xy36930.at ha0
      refine g_aload_n C dX2_seek_46 rfl 1 rfl ?_
      refine g_iload_n C dX2_seek_47 rfl 3 rfl ?_
      refine g_putI C fi_X2_48 rfl (h36937).1 (h36937).2 dX2_seek_48 ?_
      refine gpW (ks := [2]) (Iy36929.setI (h36937) (rgOk.none rfl)) (EK.setI (h36937).2 (by decide)) (fun Y36938 Iy36939 Xy36940 w36941 w36942 => ?_)
      have q36943 := w36941 4 (by decide)
      have q36944 := w36941 5 (by decide)
      have Xz36945 : EK [0, 2, 13] P Y36938 := Xz36936.tr (Xy36940.mono (by decide))
      have h36946 := Xy36940.at h36937
      exact ret _ _ _ _ _ dX2_seek_51 (by decide) (by decide) ⟨Iy36939, Xz36945⟩
  · have h36850 : (pI P a0 5).toInt ≤ z36847.toInt := h36850
    exact ret _ _ _ _ _ dX2_seek_35 (by decide) (by decide) ⟨I, EK.rf⟩
set_option maxHeartbeats 4000000 in
set_option maxRecDepth 100000 in
theorem s_X2_seek_L11 {P : PP} {a0 : Nat} {a1 : Int32} {a2 : Int32} {a3 : Int32} (I : IV P) (ha0 : At P a0 2) (ha1 : 10 ≤ a1.toInt ∧ a1.toInt ≤ 10) (ha3 : 0 ≤ a3.toInt ∧ a3.toInt ≤ 0) : CtrV yX2_seek cX2_seek 7 none ({ frames := 13, cells := 0, slots := 0, locals := 832 } : Room) 0 0 P [.ref a0, .int a1, .int a2, .int a3] (fun P2 => IV P2 ∧ EK [0, 2, 13] P P2) := by
  refine enV (lv := [(0, .ref a0), (1, .int a1), (2, .int a2), (3, .int a3)]) (by decide) (Nat.le_of_ble_eq_true rfl) rfl (fun E D cy C Ci0 ret => ?_)
  have J159 : ∀ (P159 : PP) (v159_5 : Int32) (v159_6 : Int32), (IV P159) → (EK [0, 2, 13] P P159) → (0 ≤ v159_5.toInt ∧ v159_5.toInt ≤ 20) → (0 ≤ v159_6.toInt ∧ v159_6.toInt ≤ 20) → G E ({ frames := 13, cells := 0, slots := 0, locals := 832 } : Room) D cy 7 P159 0 0 159 [(0, .ref a0), (5, .int v159_5), (6, .int v159_6)] [] := by
    intro P159 v159_5 v159_6 I159 X159 hv159_5 hv159_6
    have h37081 := X159.at ha0
    refine g_aload_n C dX2_seek_159 rfl 0 rfl ?_
    obtain ⟨b37082, e37083, h37084⟩ := I159.fld (h37081) 2 0 0 rfl
    refine g_getR C fi_X2_21 rfl e37083 (h37081).1 (h37081).2 dX2_seek_160 ?_
    refine g_iload C dX2_seek_163 1 rfl ?_
    refine g_callVV (rest := []) C mv_X2_75 [.int v159_5] (s_X0_cut I159 h37084.at) (h37084.at).1 (h37084.at).2 rfl rfl (by decide) (Nat.le_of_ble_eq_true rfl) (by decide) dX2_seek_165 (fun Y37086 h37087 => ?_)
    obtain ⟨Iy37088, Xy37089⟩ := h37087
    have Xz37090 : EK [0, 2, 13] P Y37086 := X159.tr (Xy37089.mono (by decide))
    have h37091 := Xy37089.at h37081
    refine g_aload_n C dX2_seek_168 rfl 0 rfl ?_
    obtain ⟨b37092, e37093, h37094⟩ := Iy37088.fld (h37091) 3 0 0 rfl
    refine g_getR C fi_X2_25 rfl e37093 (h37091).1 (h37091).2 dX2_seek_169 ?_
    refine g_iload C dX2_seek_172 2 rfl ?_
    refine g_callVV (rest := []) C mv_X2_75 [.int v159_6] (s_X0_cut Iy37088 h37094.at) (h37094.at).1 (h37094.at).2 rfl rfl (by decide) (Nat.le_of_ble_eq_true rfl) (by decide) dX2_seek_174 (fun Y37096 h37097 => ?_)
    obtain ⟨Iy37098, Xy37099⟩ := h37097
    have Xz37100 : EK [0, 2, 13] P Y37096 := Xz37090.tr (Xy37099.mono (by decide))
    have h37101 := Xy37099.at h37091
    exact ret _ _ _ _ _ dX2_seek_177 (by decide) (by decide) ⟨Iy37098, Xz37100⟩
  refine g_aload_n C dX2_seek_0 rfl 0 rfl ?_
  refine g_getI C fi_X2_42 (by decide) (ha0).1 (ha0).2 dX2_seek_1 ?_
  have h37102 := I.rg (ha0) 4 rfl
  refine g_aload_n C dX2_seek_4 rfl 0 rfl ?_
  obtain ⟨b37103, e37104, h37105⟩ := I.fld (ha0) 2 0 0 rfl
  refine g_getR C fi_X2_21 rfl e37104 (ha0).1 (ha0).2 dX2_seek_5 ?_
  refine g_getI C fi_X2_62 (by decide) (h37105.at).1 (h37105.at).2 dX2_seek_8 ?_
  have h37106 := I.rg (h37105.at) 2 rfl
  refine g_aload_n C dX2_seek_11 rfl 0 rfl ?_
  obtain ⟨b37107, e37108, h37109⟩ := I.fld (ha0) 3 0 0 rfl
  refine g_getR C fi_X2_25 rfl e37108 (ha0).1 (ha0).2 dX2_seek_12 ?_
  refine g_getI C fi_X2_62 (by decide) (h37109.at).1 (h37109.at).2 dX2_seek_15 ?_
  have h37110 := I.rg (h37109.at) 2 rfl
  refine g_mmin C ms_X2_65 (by decide) (by decide) (Nat.le_of_ble_eq_true rfl) (by decide) dX2_seek_18 (fun z37111 h37112 => ?_)
  have h37112 : z37111.toInt ≤ (pI P b37103 2).toInt ∧ z37111.toInt ≤ (pI P b37107 2).toInt ∧ (z37111.toInt = (pI P b37103 2).toInt ∨ z37111.toInt = (pI P b37107 2).toInt) := h37112
  refine s_isub C dX2_seek_21 (by show -2147483648 ≤ (pI P a0 4).toInt - z37111.toInt ∧ (pI P a0 4).toInt - z37111.toInt ≤ 2147483647; omega) (fun z37113 h37114 => ?_)
  have h37114 : z37113.toInt = (pI P a0 4).toInt - z37111.toInt := h37114
  refine g_istore (lv' := [(4, .int z37113), (0, .ref a0), (1, .int a1), (2, .int a2), (3, .int a3)]) C dX2_seek_22 (by decide) rfl ?_
  refine g_iload_n C dX2_seek_24 rfl 4 rfl ?_
  refine g_iload C dX2_seek_25 0 rfl ?_
  refine s_iadd C dX2_seek_27 (by show -2147483648 ≤ a3.toInt + z37113.toInt ∧ a3.toInt + z37113.toInt ≤ 2147483647; omega) (fun z37115 h37116 => ?_)
  have h37116 : z37115.toInt = a3.toInt + z37113.toInt := h37116
  refine g_aload_n C dX2_seek_28 rfl 1 rfl ?_
  refine g_getI C fi_X2_45 (by decide) (ha0).1 (ha0).2 dX2_seek_29 ?_
  have h37117 := I.rg (ha0) 5 rfl
  refine b_icmp_lt C 36 dX2_seek_32 (by decide) (fun h37118 => ?_) (fun h37118 => ?_)
  · have h37118 : z37115.toInt < (pI P a0 5).toInt := h37118
    refine g_iload C dX2_seek_36 0 rfl ?_
    refine b_if_ne C 52 dX2_seek_38 (by decide) (fun h37119 => ?_) (fun h37119 => ?_)
    · have h37119 : z37113.toInt ≠ 0 := ti_ne h37119
      refine g_iload_n C dX2_seek_52 rfl 2 rfl ?_
      refine b_if_lt C 70 dX2_seek_53 (by decide) (fun h37120 => ?_) (fun h37120 => ?_)
      · have h37120 : a1.toInt < 0 := h37120
        omega
      · have h37120 : 0 ≤ a1.toInt := h37120
        refine g_iload_n C dX2_seek_56 rfl 2 rfl ?_
        refine g_bipush (v := 11) C dX2_seek_57 (by decide) ?_
        refine b_icmp_ge C 70 dX2_seek_59 (by decide) (fun h37121 => ?_) (fun h37121 => ?_)
        · have h37121 : 11 ≤ a1.toInt := h37121
          omega
        · have h37121 : a1.toInt < 11 := h37121
          refine g_iload C dX2_seek_62 0 rfl ?_
          refine g_iload_n C dX2_seek_64 rfl 2 rfl ?_
          refine g_iconst (v := 1) C dX2_seek_65 (by decide) ?_
          refine s_iadd C dX2_seek_66 (by show -2147483648 ≤ a1.toInt + 1 ∧ a1.toInt + 1 ≤ 2147483647; omega) (fun z37122 h37123 => ?_)
          have h37123 : z37122.toInt = a1.toInt + 1 := h37123
          refine b_icmp_le C 71 dX2_seek_67 (by decide) (fun h37124 => ?_) (fun h37124 => ?_)
          · have h37124 : z37113.toInt ≤ z37122.toInt := h37124
            refine g_aload_n C dX2_seek_71 rfl 1 rfl ?_
            refine g_iload_n C dX2_seek_72 rfl 2 rfl ?_
            refine g_iconst (v := 1) C dX2_seek_73 (by decide) ?_
            refine s_isub C dX2_seek_74 (by show -2147483648 ≤ a1.toInt - 1 ∧ a1.toInt - 1 ≤ 2147483647; omega) (fun z37125 h37126 => ?_)
            have h37126 : z37125.toInt = a1.toInt - 1 := h37126
            refine g_iload_n C dX2_seek_75 rfl 3 rfl ?_
            refine g_iload_n C dX2_seek_76 rfl 4 rfl ?_
            refine g_callVV (rest := []) C mv_X2_58 [.int z37125, .int a2, .int a3] (s_X2_seek_L10 I ha0 (by omega) (by omega)) (ha0).1 (ha0).2 rfl rfl (by decide) (Nat.le_of_ble_eq_true rfl) (by decide) dX2_seek_77 (fun Y37128 h37129 => ?_)
            obtain ⟨Iy37130, Xy37131⟩ := h37129
            have Xz37132 : EK [0, 2, 13] P Y37128 := Xy37131.mono (by decide)
            have h37133 := Xy37131.at ha0
            refine g_aload_n C dX2_seek_80 rfl 1 rfl ?_
            obtain ⟨b37134, e37135, h37136⟩ := Iy37130.fld (h37133) 2 0 0 rfl
            refine g_getR C fi_X2_21 rfl e37135 (h37133).1 (h37133).2 dX2_seek_81 ?_
            refine g_getI C fi_X2_62 (by decide) (h37136.at).1 (h37136.at).2 dX2_seek_84 ?_
            have h37137 := Iy37130.rg (h37136.at) 2 rfl
            refine g_topi (fun z37138 h37139 => ?_)
            have h37139 : z37138.toInt = (pI Y37128 b37134 2).toInt := congrArg Int32.toInt h37139
            refine g_istore (lv' := [(5, .int z37138), (4, .int z37113), (0, .ref a0), (1, .int a1), (2, .int a2), (3, .int a3)]) C dX2_seek_87 (by decide) rfl ?_
            refine g_aload_n C dX2_seek_89 rfl 2 rfl ?_
            obtain ⟨b37140, e37141, h37142⟩ := Iy37130.fld (h37133) 3 0 0 rfl
            refine g_getR C fi_X2_25 rfl e37141 (h37133).1 (h37133).2 dX2_seek_90 ?_
            refine g_getI C fi_X2_62 (by decide) (h37142.at).1 (h37142.at).2 dX2_seek_93 ?_
            have h37143 := Iy37130.rg (h37142.at) 2 rfl
            refine g_topi (fun z37144 h37145 => ?_)
            have h37145 : z37144.toInt = (pI Y37128 b37140 2).toInt := congrArg Int32.toInt h37145
            refine g_istore (lv' := [(6, .int z37144), (5, .int z37138), (4, .int z37113), (0, .ref a0), (1, .int a1), (2, .int a2), (3, .int a3)]) C dX2_seek_96 (by decide) rfl ?_
            refine g_aload_n C dX2_seek_98 rfl 3 rfl ?_
            refine g_getR C fi_X2_21 rfl e37135 (h37133).1 (h37133).2 dX2_seek_99 ?_
            refine g_aload_n C dX2_seek_102 rfl 3 rfl ?_
            obtain ⟨b37146, e37147, h37148⟩ := Iy37130.fld (h37133) 0 13 11 rfl
            refine g_getR C fi_X2_9 rfl e37147 (h37133).1 (h37133).2 dX2_seek_103 ?_
            refine g_iload_n C dX2_seek_106 rfl 4 rfl ?_
            refine g_iald (j := (a1.toInt.toNat)) C h37148.1 h37148.2.1 (ix_in h37148.2.2 (by omega)) dX2_seek_107 ?_
            refine g_topi (fun z37149 _ => ?_)
            refine g_callVV (rest := []) C mv_X2_71 [.int z37149] (s_X0_add Iy37130 h37136.at) (h37136.at).1 (h37136.at).2 rfl rfl (by decide) (Nat.le_of_ble_eq_true rfl) (by decide) dX2_seek_108 (fun Y37151 h37152 => ?_)
            obtain ⟨Iy37153, Xy37154⟩ := h37152
            have Xz37155 : EK [0, 2, 13] P Y37151 := Xz37132.tr (Xy37154.mono (by decide))
            have h37156 := Xy37154.at h37133
            refine g_aload_n C dX2_seek_111 rfl 3 rfl ?_
            obtain ⟨b37157, e37158, h37159⟩ := Iy37153.fld (h37156) 3 0 0 rfl
            refine g_getR C fi_X2_25 rfl e37158 (h37156).1 (h37156).2 dX2_seek_112 ?_
            refine g_aload_n C dX2_seek_115 rfl 3 rfl ?_
            obtain ⟨b37160, e37161, h37162⟩ := Iy37153.fld (h37156) 1 13 11 rfl
            refine g_getR C fi_X2_15 rfl e37161 (h37156).1 (h37156).2 dX2_seek_116 ?_
            refine g_iload_n C dX2_seek_119 rfl 4 rfl ?_
            refine g_iald (j := (a1.toInt.toNat)) C h37162.1 h37162.2.1 (ix_in h37162.2.2 (by omega)) dX2_seek_120 ?_
            refine g_topi (fun z37163 _ => ?_)
            refine g_callVV (rest := []) C mv_X2_71 [.int z37163] (s_X0_add Iy37153 h37159.at) (h37159.at).1 (h37159.at).2 rfl rfl (by decide) (Nat.le_of_ble_eq_true rfl) (by decide) dX2_seek_121 (fun Y37165 h37166 => ?_)
            obtain ⟨Iy37167, Xy37168⟩ := h37166
            have Xz37169 : EK [0, 2, 13] P Y37165 := Xz37155.tr (Xy37168.mono (by decide))
            have h37170 := Xy37168.at h37156
            refine g_aload_n C dX2_seek_124 rfl 3 rfl ?_
            obtain ⟨b37171, e37172, h37173⟩ := Iy37167.fld (h37170) 2 0 0 rfl
            refine g_getR C fi_X2_21 rfl e37172 (h37170).1 (h37170).2 dX2_seek_125 ?_
            refine g_getI C fi_X2_32 (by decide) (h37173.at).1 (h37173.at).2 dX2_seek_128 ?_
            have h37174 := Iy37167.rg (h37173.at) 3 rfl
            refine b_if_eq C 159 dX2_seek_131 (by decide) (fun h37175 => ?_) (fun h37175 => ?_)
            · have h37175 : (pI Y37165 b37171 3).toInt = 0 := congrArg Int32.toInt h37175
              refine g_lv (lv' := [(0, .ref a0), (5, .int z37138), (6, .int z37144)]) [3, 1, 0] rfl ?_
              exact J159 Y37165 z37138 z37144 Iy37167 Xz37169 (by omega) (by omega)
            · have h37175 : (pI Y37165 b37171 3).toInt ≠ 0 := ti_ne h37175
              refine g_aload_n C dX2_seek_134 rfl 3 rfl ?_
              obtain ⟨b37176, e37177, h37178⟩ := Iy37167.fld (h37170) 3 0 0 rfl
              refine g_getR C fi_X2_25 rfl e37177 (h37170).1 (h37170).2 dX2_seek_135 ?_
              refine g_getI C fi_X2_32 (by decide) (h37178.at).1 (h37178.at).2 dX2_seek_138 ?_
              have h37179 := Iy37167.rg (h37178.at) 3 rfl
              refine b_if_eq C 159 dX2_seek_141 (by decide) (fun h37180 => ?_) (fun h37180 => ?_)
              · have h37180 : (pI Y37165 b37176 3).toInt = 0 := congrArg Int32.toInt h37180
                refine g_lv (lv' := [(0, .ref a0), (5, .int z37138), (6, .int z37144)]) [3, 1, 0] rfl ?_
                exact J159 Y37165 z37138 z37144 Iy37167 Xz37169 (by omega) (by omega)
              · have h37180 : (pI Y37165 b37176 3).toInt ≠ 0 := ti_ne h37180
                refine g_aload_n C dX2_seek_144 rfl 3 rfl ?_
                refine g_iload_n C dX2_seek_145 rfl 4 rfl ?_
                refine g_iconst (v := 1) C dX2_seek_146 (by decide) ?_
                refine s_isub C dX2_seek_147 (by show -2147483648 ≤ a1.toInt - 1 ∧ a1.toInt - 1 ≤ 2147483647; omega) (fun z37181 h37182 => ?_)
                have h37182 : z37181.toInt = a1.toInt - 1 := h37182
                refine g_iload_n C dX2_seek_148 rfl 5 rfl ?_
                refine g_iconst (v := 1) C dX2_seek_149 (by decide) ?_
                refine g_iload_n C dX2_seek_150 rfl 4 rfl ?_
                refine a_ishl C dX2_seek_151 (fun z37183 => ?_)
                refine a_ior C dX2_seek_152 (fun z37185 => ?_)
                refine g_iload_n C dX2_seek_153 rfl 6 rfl ?_
                refine g_iconst (v := 1) C dX2_seek_154 (by decide) ?_
                refine s_iadd C dX2_seek_155 (by show -2147483648 ≤ a3.toInt + 1 ∧ a3.toInt + 1 ≤ 2147483647; omega) (fun z37187 h37188 => ?_)
                have h37188 : z37187.toInt = a3.toInt + 1 := h37188
                refine g_callVV (rest := []) C mv_X2_58 [.int z37181, .int z37185, .int z37187] (s_X2_seek_L10 Iy37167 h37170 (by omega) (by omega)) (h37170).1 (h37170).2 rfl rfl (by decide) (Nat.le_of_ble_eq_true rfl) (by decide) dX2_seek_156 (fun Y37190 h37191 => ?_)
                obtain ⟨Iy37192, Xy37193⟩ := h37191
                have Xz37194 : EK [0, 2, 13] P Y37190 := Xz37169.tr (Xy37193.mono (by decide))
                have h37195 := Xy37193.at h37170
                refine g_lv (lv' := [(0, .ref a0), (5, .int z37138), (6, .int z37144)]) [3, 1, 0] rfl ?_
                exact J159 Y37190 z37138 z37144 Iy37192 Xz37194 (by omega) (by omega)
          · have h37124 : z37122.toInt < z37113.toInt := h37124
            exact ret _ _ _ _ _ dX2_seek_70 (by decide) (by decide) ⟨I, EK.rf⟩
    · have h37119 : z37113.toInt = 0 := congrArg Int32.toInt h37119
      refine g_aload_n C dX2_seek_41 rfl 1 rfl ?_
      refine g_iload_n C dX2_seek_42 rfl 4 rfl ?_
      refine g_putI C fi_X2_45 rfl (ha0).1 (ha0).2 dX2_seek_43 ?_
      refine gpW (ks := [2]) (I.setI (ha0) (rgOk.of rfl (by omega))) (EK.setI (ha0).2 (by decide)) (fun Y37196 Iy37197 Xy37198 w37199 w37200 => ?_)
      have q37201 := w37199 4 (by decide)
      have q37202 := Xy37198.keep (h37105.at) (by decide) 2
      have q37203 := Xy37198.keep (h37109.at) (by decide) 2
      have Xz37204 : EK [0, 2, 13] P Y37196 := Xy37198.mono (by decide)
      have h37205 := Xy37198.at ha0
      refine g_aload_n C dX2_seek_46 rfl 1 rfl ?_
      refine g_iload_n C dX2_seek_47 rfl 3 rfl ?_
      refine g_putI C fi_X2_48 rfl (h37205).1 (h37205).2 dX2_seek_48 ?_
      refine gpW (ks := [2]) (Iy37197.setI (h37205) (rgOk.none rfl)) (EK.setI (h37205).2 (by decide)) (fun Y37206 Iy37207 Xy37208 w37209 w37210 => ?_)
      have q37211 := w37209 4 (by decide)
      have q37212 := w37209 5 (by decide)
      have Xz37213 : EK [0, 2, 13] P Y37206 := Xz37204.tr (Xy37208.mono (by decide))
      have h37214 := Xy37208.at h37205
      exact ret _ _ _ _ _ dX2_seek_51 (by decide) (by decide) ⟨Iy37207, Xz37213⟩
  · have h37118 : (pI P a0 5).toInt ≤ z37115.toInt := h37118
    exact ret _ _ _ _ _ dX2_seek_35 (by decide) (by decide) ⟨I, EK.rf⟩
