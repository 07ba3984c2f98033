theorem dX11_tocome_0 : decode cX11_tocome 0 = .ok (.iload_n 1, 1) := by decide +kernel
theorem dX11_tocome_1 : decode cX11_tocome 1 = .ok (.invokestatic 158, 3) := by decide +kernel
theorem dX11_tocome_4 : decode cX11_tocome 4 = .ok (.ifCond .eq 20, 3) := by decide +kernel
theorem dX11_tocome_7 : decode cX11_tocome 7 = .ok (.aload_n 0, 1) := by decide +kernel
theorem dX11_tocome_8 : decode cX11_tocome 8 = .ok (.iload_n 2, 1) := by decide +kernel
theorem dX11_tocome_9 : decode cX11_tocome 9 = .ok (.invokevirtual 97, 3) := by decide +kernel
theorem dX11_tocome_12 : decode cX11_tocome 12 = .ok (.ifCond .eq 12, 3) := by decide +kernel
theorem dX11_tocome_15 : decode cX11_tocome 15 = .ok (.iload_n 3, 1) := by decide +kernel
theorem dX11_tocome_16 : decode cX11_tocome 16 = .ok (.ifCond .lt 8, 3) := by decide +kernel
theorem dX11_tocome_19 : decode cX11_tocome 19 = .ok (.iload_n 3, 1) := by decide +kernel
theorem dX11_tocome_20 : decode cX11_tocome 20 = .ok (.iconst 1, 1) := by decide +kernel
theorem dX11_tocome_21 : decode cX11_tocome 21 = .ok (.if_icmp .le 5, 3) := by decide +kernel
theorem dX11_tocome_26 : decode cX11_tocome 26 = .ok (.aload_n 0, 1) := by decide +kernel
theorem dX11_tocome_27 : decode cX11_tocome 27 = .ok (.iload_n 1, 1) := by decide +kernel
theorem dX11_tocome_28 : decode cX11_tocome 28 = .ok (.iload_n 2, 1) := by decide +kernel
theorem dX11_tocome_29 : decode cX11_tocome 29 = .ok (.iconst 0, 1) := by decide +kernel
theorem dX11_tocome_30 : decode cX11_tocome 30 = .ok (.invokevirtual 216, 3) := by decide +kernel
theorem dX11_tocome_33 : decode cX11_tocome 33 = .ok (.astore 4, 2) := by decide +kernel
theorem dX11_tocome_35 : decode cX11_tocome 35 = .ok (.aload_n 0, 1) := by decide +kernel
theorem dX11_tocome_36 : decode cX11_tocome 36 = .ok (.iload_n 1, 1) := by decide +kernel
theorem dX11_tocome_37 : decode cX11_tocome 37 = .ok (.iload_n 2, 1) := by decide +kernel
theorem dX11_tocome_38 : decode cX11_tocome 38 = .ok (.iconst 1, 1) := by decide +kernel
theorem dX11_tocome_39 : decode cX11_tocome 39 = .ok (.invokevirtual 216, 3) := by decide +kernel
theorem dX11_tocome_42 : decode cX11_tocome 42 = .ok (.astore 5, 2) := by decide +kernel
theorem dX11_tocome_44 : decode cX11_tocome 44 = .ok (.aload_n 0, 1) := by decide +kernel
theorem dX11_tocome_45 : decode cX11_tocome 45 = .ok (.getfield 67, 3) := by decide +kernel
theorem dX11_tocome_48 : decode cX11_tocome 48 = .ok (.aload_n 0, 1) := by decide +kernel
theorem dX11_tocome_49 : decode cX11_tocome 49 = .ok (.getfield 11, 3) := by decide +kernel
theorem dX11_tocome_52 : decode cX11_tocome 52 = .ok (.iload_n 2, 1) := by decide +kernel
theorem dX11_tocome_53 : decode cX11_tocome 53 = .ok (.aaload, 1) := by decide +kernel
theorem dX11_tocome_54 : decode cX11_tocome 54 = .ok (.aload 4, 2) := by decide +kernel
theorem dX11_tocome_56 : decode cX11_tocome 56 = .ok (.aload 5, 2) := by decide +kernel
theorem dX11_tocome_58 : decode cX11_tocome 58 = .ok (.invokevirtual 279, 3) := by decide +kernel
theorem dX2_find_0 : decode cX2_find 0 = .ok (.aload_n 0, 1) := by decide +kernel
theorem dX2_find_1 : decode cX2_find 1 = .ok (.getfield 21, 3) := by decide +kernel
theorem dX2_find_4 : decode cX2_find 4 = .ok (.aload_n 2, 1) := by decide +kernel
theorem dX2_find_5 : decode cX2_find 5 = .ok (.iconst (-1), 1) := by decide +kernel
theorem dX2_find_6 : decode cX2_find 6 = .ok (.invokevirtual 28, 3) := by decide +kernel
theorem dX2_find_9 : decode cX2_find 9 = .ok (.aload_n 0, 1) := by decide +kernel
theorem dX2_find_10 : decode cX2_find 10 = .ok (.getfield 25, 3) := by decide +kernel
theorem dX2_find_13 : decode cX2_find 13 = .ok (.aload_n 3, 1) := by decide +kernel
theorem dX2_find_14 : decode cX2_find 14 = .ok (.iconst (-1), 1) := by decide +kernel
theorem dX2_find_15 : decode cX2_find 15 = .ok (.invokevirtual 28, 3) := by decide +kernel
theorem dX2_find_18 : decode cX2_find 18 = .ok (.aload_n 0, 1) := by decide +kernel
theorem dX2_find_19 : decode cX2_find 19 = .ok (.getfield 21, 3) := by decide +kernel
theorem dX2_find_22 : decode cX2_find 22 = .ok (.getfield 32, 3) := by decide +kernel
theorem dX2_find_25 : decode cX2_find 25 = .ok (.ifCond .eq 13, 3) := by decide +kernel
theorem dX2_find_28 : decode cX2_find 28 = .ok (.aload_n 0, 1) := by decide +kernel
theorem dX2_find_29 : decode cX2_find 29 = .ok (.getfield 25, 3) := by decide +kernel
theorem dX2_find_32 : decode cX2_find 32 = .ok (.getfield 32, 3) := by decide +kernel
theorem dX2_find_35 : decode cX2_find 35 = .ok (.ifCond .ne 5, 3) := by decide +kernel
theorem dX2_find_38 : decode cX2_find 38 = .ok (.iconst 0, 1) := by decide +kernel
theorem dX2_find_39 : decode cX2_find 39 = .ok (.ireturn, 1) := by decide +kernel
theorem dX2_find_40 : decode cX2_find 40 = .ok (.aload_n 0, 1) := by decide +kernel
theorem dX2_find_41 : decode cX2_find 41 = .ok (.aload_n 1, 1) := by decide +kernel
theorem dX2_find_42 : decode cX2_find 42 = .ok (.invokevirtual 36, 3) := by decide +kernel
theorem dX2_find_45 : decode cX2_find 45 = .ok (.putfield 42, 3) := by decide +kernel
theorem dX2_find_48 : decode cX2_find 48 = .ok (.aload_n 0, 1) := by decide +kernel
theorem dX2_find_49 : decode cX2_find 49 = .ok (.bipush 12, 2) := by decide +kernel
theorem dX2_find_51 : decode cX2_find 51 = .ok (.putfield 45, 3) := by decide +kernel
theorem dX2_find_54 : decode cX2_find 54 = .ok (.aload_n 0, 1) := by decide +kernel
theorem dX2_find_55 : decode cX2_find 55 = .ok (.iconst 0, 1) := by decide +kernel
theorem dX2_find_56 : decode cX2_find 56 = .ok (.putfield 48, 3) := by decide +kernel
theorem dX2_find_59 : decode cX2_find 59 = .ok (.iconst 0, 1) := by decide +kernel
theorem dX2_find_60 : decode cX2_find 60 = .ok (.istore 4, 2) := by decide +kernel
theorem dX2_find_62 : decode cX2_find 62 = .ok (.iload 4, 2) := by decide +kernel
theorem dX2_find_64 : decode cX2_find 64 = .ok (.bipush 11, 2) := by decide +kernel
theorem dX2_find_66 : decode cX2_find 66 = .ok (.if_icmp .ge 62, 3) := by decide +kernel
theorem dX2_find_69 : decode cX2_find 69 = .ok (.aload_n 1, 1) := by decide +kernel
theorem dX2_find_70 : decode cX2_find 70 = .ok (.iload 4, 2) := by decide +kernel
theorem dX2_find_72 : decode cX2_find 72 = .ok (.invokevirtual 51, 3) := by decide +kernel
theorem dX2_find_75 : decode cX2_find 75 = .ok (.istore 5, 2) := by decide +kernel
theorem dX2_find_77 : decode cX2_find 77 = .ok (.aload_n 1, 1) := by decide +kernel
theorem dX2_find_78 : decode cX2_find 78 = .ok (.iload 5, 2) := by decide +kernel
theorem dX2_find_80 : decode cX2_find 80 = .ok (.invokevirtual 55, 3) := by decide +kernel
theorem dX2_find_83 : decode cX2_find 83 = .ok (.istore 6, 2) := by decide +kernel
theorem dX2_find_85 : decode cX2_find 85 = .ok (.aload_n 0, 1) := by decide +kernel
theorem dX2_find_86 : decode cX2_find 86 = .ok (.getfield 9, 3) := by decide +kernel
theorem dX2_find_89 : decode cX2_find 89 = .ok (.iload 4, 2) := by decide +kernel
theorem dX2_find_91 : decode cX2_find 91 = .ok (.iload 5, 2) := by decide +kernel
theorem dX2_find_93 : decode cX2_find 93 = .ok (.iload 6, 2) := by decide +kernel
theorem dX2_find_95 : decode cX2_find 95 = .ok (.sipush 255, 3) := by decide +kernel
theorem dX2_find_98 : decode cX2_find 98 = .ok (.iand, 1) := by decide +kernel
theorem dX2_find_99 : decode cX2_find 99 = .ok (.bipush 20, 2) := by decide +kernel
theorem dX2_find_101 : decode cX2_find 101 = .ok (.ishl, 1) := by decide +kernel
theorem dX2_find_102 : decode cX2_find 102 = .ok (.ior, 1) := by decide +kernel
theorem dX2_find_103 : decode cX2_find 103 = .ok (.iastore, 1) := by decide +kernel
theorem dX2_find_104 : decode cX2_find 104 = .ok (.aload_n 0, 1) := by decide +kernel
theorem dX2_find_105 : decode cX2_find 105 = .ok (.getfield 15, 3) := by decide +kernel
theorem dX2_find_108 : decode cX2_find 108 = .ok (.iload 4, 2) := by decide +kernel
theorem dX2_find_110 : decode cX2_find 110 = .ok (.iload 5, 2) := by decide +kernel
theorem dX2_find_112 : decode cX2_find 112 = .ok (.iload 6, 2) := by decide +kernel
theorem dX2_find_114 : decode cX2_find 114 = .ok (.bipush 8, 2) := by decide +kernel
theorem dX2_find_116 : decode cX2_find 116 = .ok (.ishr, 1) := by decide +kernel
theorem dX2_find_117 : decode cX2_find 117 = .ok (.bipush 20, 2) := by decide +kernel
theorem dX2_find_119 : decode cX2_find 119 = .ok (.ishl, 1) := by decide +kernel
theorem dX2_find_120 : decode cX2_find 120 = .ok (.ior, 1) := by decide +kernel
theorem dX2_find_121 : decode cX2_find 121 = .ok (.iastore, 1) := by decide +kernel
theorem dX2_find_122 : decode cX2_find 122 = .ok (.iinc 4 1, 3) := by decide +kernel
theorem dX2_find_125 : decode cX2_find 125 = .ok (.goto (-63), 3) := by decide +kernel
theorem dX2_find_128 : decode cX2_find 128 = .ok (.aload_n 0, 1) := by decide +kernel
theorem dX2_find_129 : decode cX2_find 129 = .ok (.bipush 10, 2) := by decide +kernel
theorem dX2_find_131 : decode cX2_find 131 = .ok (.iconst 0, 1) := by decide +kernel
theorem dX2_find_132 : decode cX2_find 132 = .ok (.iconst 0, 1) := by decide +kernel
theorem dX2_find_133 : decode cX2_find 133 = .ok (.invokevirtual 58, 3) := by decide +kernel
theorem dX2_seek_0 : decode cX2_seek 0 = .ok (.aload_n 0, 1) := by decide +kernel
theorem dX2_seek_1 : decode cX2_seek 1 = .ok (.getfield 42, 3) := by decide +kernel
theorem dX2_seek_4 : decode cX2_seek 4 = .ok (.aload_n 0, 1) := by decide +kernel
theorem dX2_seek_5 : decode cX2_seek 5 = .ok (.getfield 21, 3) := by decide +kernel
theorem dX2_seek_8 : decode cX2_seek 8 = .ok (.getfield 62, 3) := by decide +kernel
theorem dX2_seek_11 : decode cX2_seek 11 = .ok (.aload_n 0, 1) := by decide +kernel
theorem dX2_seek_12 : decode cX2_seek 12 = .ok (.getfield 25, 3) := by decide +kernel
theorem dX2_seek_15 : decode cX2_seek 15 = .ok (.getfield 62, 3) := by decide +kernel
theorem dX2_seek_18 : decode cX2_seek 18 = .ok (.invokestatic 65, 3) := by decide +kernel
theorem dX2_seek_21 : decode cX2_seek 21 = .ok (.isub, 1) := by decide +kernel
theorem dX2_seek_22 : decode cX2_seek 22 = .ok (.istore 4, 2) := by decide +kernel
theorem dX2_seek_24 : decode cX2_seek 24 = .ok (.iload_n 3, 1) := by decide +kernel
theorem dX2_seek_25 : decode cX2_seek 25 = .ok (.iload 4, 2) := by decide +kernel
theorem dX2_seek_27 : decode cX2_seek 27 = .ok (.iadd, 1) := by decide +kernel
theorem dX2_seek_28 : decode cX2_seek 28 = .ok (.aload_n 0, 1) := by decide +kernel
theorem dX2_seek_29 : decode cX2_seek 29 = .ok (.getfield 45, 3) := by decide +kernel
theorem dX2_seek_32 : decode cX2_seek 32 = .ok (.if_icmp .lt 4, 3) := by decide +kernel
theorem dX2_seek_35 : decode cX2_seek 35 = .ok (.return_, 1) := by decide +kernel
theorem dX2_seek_36 : decode cX2_seek 36 = .ok (.iload 4, 2) := by decide +kernel
theorem dX2_seek_38 : decode cX2_seek 38 = .ok (.ifCond .ne 14, 3) := by decide +kernel
theorem dX2_seek_41 : decode cX2_seek 41 = .ok (.aload_n 0, 1) := by decide +kernel
theorem dX2_seek_42 : decode cX2_seek 42 = .ok (.iload_n 3, 1) := by decide +kernel
theorem dX2_seek_43 : decode cX2_seek 43 = .ok (.putfield 45, 3) := by decide +kernel
theorem dX2_seek_46 : decode cX2_seek 46 = .ok (.aload_n 0, 1) := by decide +kernel
theorem dX2_seek_47 : decode cX2_seek 47 = .ok (.iload_n 2, 1) := by decide +kernel
theorem dX2_seek_48 : decode cX2_seek 48 = .ok (.putfield 48, 3) := by decide +kernel
theorem dX2_seek_51 : decode cX2_seek 51 = .ok (.return_, 1) := by decide +kernel
theorem dX2_seek_52 : decode cX2_seek 52 = .ok (.iload_n 1, 1) := by decide +kernel
theorem dX2_seek_53 : decode cX2_seek 53 = .ok (.ifCond .lt 17, 3) := by decide +kernel
theorem dX2_seek_70 : decode cX2_seek 70 = .ok (.return_, 1) := by decide +kernel
set_option maxHeartbeats 4000000 in
set_option maxRecDepth 100000 in
theorem s_X2_seek_L0 {P : PP} {a0 : Nat} {a1 : Int32} {a2 : Int32} {a3 : Int32} (I : IV P) (ha0 : At P a0 2) (ha1 : -1 ≤ a1.toInt ∧ a1.toInt ≤ -1) (ha3 : 0 ≤ a3.toInt ∧ a3.toInt ≤ 11) : CtrV yX2_seek cX2_seek 7 none ({ frames := 2, cells := 0, slots := 0, locals := 128 } : Room) 0 0 P [.ref a0, .int a1, .int a2, .int a3] (fun P2 => IV P2 ∧ EK [2] P P2) := by
  refine enV (lv := [(0, .ref a0), (1, .int a1), (2, .int a2), (3, .int a3)]) (by decide) (Nat.le_of_ble_eq_true rfl) rfl (fun E D cy C Ci0 ret => ?_)
  refine g_aload_n C dX2_seek_0 rfl 0 rfl ?_
  refine g_getI C fi_X2_42 (by decide) (ha0).1 (ha0).2 dX2_seek_1 ?_
  have h34067 := I.rg (ha0) 4 rfl
  refine g_aload_n C dX2_seek_4 rfl 0 rfl ?_
  obtain ⟨b34068, e34069, h34070⟩ := I.fld (ha0) 2 0 0 rfl
  refine g_getR C fi_X2_21 rfl e34069 (ha0).1 (ha0).2 dX2_seek_5 ?_
  refine g_getI C fi_X2_62 (by decide) (h34070.at).1 (h34070.at).2 dX2_seek_8 ?_
  have h34071 := I.rg (h34070.at) 2 rfl
  refine g_aload_n C dX2_seek_11 rfl 0 rfl ?_
  obtain ⟨b34072, e34073, h34074⟩ := I.fld (ha0) 3 0 0 rfl
  refine g_getR C fi_X2_25 rfl e34073 (ha0).1 (ha0).2 dX2_seek_12 ?_
  refine g_getI C fi_X2_62 (by decide) (h34074.at).1 (h34074.at).2 dX2_seek_15 ?_
  have h34075 := I.rg (h34074.at) 2 rfl
  refine g_mmin C ms_X2_65 (by decide) (by decide) (Nat.le_of_ble_eq_true rfl) (by decide) dX2_seek_18 (fun z34076 h34077 => ?_)
  have h34077 : z34076.toInt ≤ (pI P b34068 2).toInt ∧ z34076.toInt ≤ (pI P b34072 2).toInt ∧ (z34076.toInt = (pI P b34068 2).toInt ∨ z34076.toInt = (pI P b34072 2).toInt) := h34077
  refine s_isub C dX2_seek_21 (by show -2147483648 ≤ (pI P a0 4).toInt - z34076.toInt ∧ (pI P a0 4).toInt - z34076.toInt ≤ 2147483647; omega) (fun z34078 h34079 => ?_)
  have h34079 : z34078.toInt = (pI P a0 4).toInt - z34076.toInt := h34079
  refine g_istore (lv' := [(4, .int z34078), (0, .ref a0), (1, .int a1), (2, .int a2), (3, .int a3)]) C dX2_seek_22 (by decide) rfl ?_
  refine g_iload_n C dX2_seek_24 rfl 4 rfl ?_
  refine g_iload C dX2_seek_25 0 rfl ?_
  refine s_iadd C dX2_seek_27 (by show -2147483648 ≤ a3.toInt + z34078.toInt ∧ a3.toInt + z34078.toInt ≤ 2147483647; omega) (fun z34080 h34081 => ?_)
  have h34081 : z34080.toInt = a3.toInt + z34078.toInt := h34081
  refine g_aload_n C dX2_seek_28 rfl 1 rfl ?_
  refine g_getI C fi_X2_45 (by decide) (ha0).1 (ha0).2 dX2_seek_29 ?_
  have h34082 := I.rg (ha0) 5 rfl
  refine b_icmp_lt C 36 dX2_seek_32 (by decide) (fun h34083 => ?_) (fun h34083 => ?_)
  · have h34083 : z34080.toInt < (pI P a0 5).toInt := h34083
    refine g_iload C dX2_seek_36 0 rfl ?_
    refine b_if_ne C 52 dX2_seek_38 (by decide) (fun h34084 => ?_) (fun h34084 => ?_)
    · have h34084 : z34078.toInt ≠ 0 := ti_ne h34084
      refine g_iload_n C dX2_seek_52 rfl 2 rfl ?_
      refine b_if_lt C 70 dX2_seek_53 (by decide) (fun h34085 => ?_) (fun h34085 => ?_)
      · have h34085 : a1.toInt < 0 := h34085
        exact ret _ _ _ _ _ dX2_seek_70 (by decide) (by decide) ⟨I, EK.rf⟩
      · have h34085 : 0 ≤ a1.toInt := h34085
        omega
    · have h34084 : z34078.toInt = 0 := congrArg Int32.toInt h34084
      refine g_aload_n C dX2_seek_41 rfl 1 rfl ?_
      refine g_iload_n C dX2_seek_42 rfl 4 rfl ?_
      refine g_putI C fi_X2_45 rfl (ha0).1 (ha0).2 dX2_seek_43 ?_
      refine gpW (ks := [2]) (I.setI (ha0) (rgOk.of rfl (by omega))) (EK.setI (ha0).2 (by decide)) (fun Y34086 Iy34087 Xy34088 w34089 w34090 => ?_)
      have q34091 := w34089 4 (by decide)
      have q34092 := Xy34088.keep (h34070.at) (by decide) 2
      have q34093 := Xy34088.keep (h34074.at) (by decide) 2
      have Xz34094 : EK [2] P Y34086 := Xy34088.mono (by decide)
      have h34095 := Xy34088.at ha0
      refine g_aload_n C dX2_seek_46 rfl 1 rfl ?_
      refine g_iload_n C dX2_seek_47 rfl 3 rfl ?_
      refine g_putI C fi_X2_48 rfl (h34095).1 (h34095).2 dX2_seek_48 ?_
      refine gpW (ks := [2]) (Iy34087.setI (h34095) (rgOk.none rfl)) (EK.setI (h34095).2 (by decide)) (fun Y34096 Iy34097 Xy34098 w34099 w34100 => ?_)
      have q34101 := w34099 4 (by decide)
      have q34102 := w34099 5 (by decide)
      have Xz34103 : EK [2] P Y34096 := Xz34094.tr (Xy34098.mono (by decide))
      have h34104 := Xy34098.at h34095
      exact ret _ _ _ _ _ dX2_seek_51 (by decide) (by decide) ⟨Iy34097, Xz34103⟩
  · have h34083 : (pI P a0 5).toInt ≤ z34080.toInt := h34083
    exact ret _ _ _ _ _ dX2_seek_35 (by decide) (by decide) ⟨I, EK.rf⟩
theorem dX2_seek_56 : decode cX2_seek 56 = .ok (.iload_n 1, 1) := by decide +kernel
theorem dX2_seek_57 : decode cX2_seek 57 = .ok (.bipush 11, 2) := by decide +kernel
theorem dX2_seek_59 : decode cX2_seek 59 = .ok (.if_icmp .ge 11, 3) := by decide +kernel
theorem dX2_seek_62 : decode cX2_seek 62 = .ok (.iload 4, 2) := by decide +kernel
theorem dX2_seek_64 : decode cX2_seek 64 = .ok (.iload_n 1, 1) := by decide +kernel
theorem dX2_seek_65 : decode cX2_seek 65 = .ok (.iconst 1, 1) := by decide +kernel
theorem dX2_seek_66 : decode cX2_seek 66 = .ok (.iadd, 1) := by decide +kernel
theorem dX2_seek_67 : decode cX2_seek 67 = .ok (.if_icmp .le 4, 3) := by decide +kernel
theorem dX2_seek_71 : decode cX2_seek 71 = .ok (.aload_n 0, 1) := by decide +kernel
theorem dX2_seek_72 : decode cX2_seek 72 = .ok (.iload_n 1, 1) := by decide +kernel
theorem dX2_seek_73 : decode cX2_seek 73 = .ok (.iconst 1, 1) := by decide +kernel
theorem dX2_seek_74 : decode cX2_seek 74 = .ok (.isub, 1) := by decide +kernel
theorem dX2_seek_75 : decode cX2_seek 75 = .ok (.iload_n 2, 1) := by decide +kernel
theorem dX2_seek_76 : decode cX2_seek 76 = .ok (.iload_n 3, 1) := by decide +kernel
theorem dX2_seek_77 : decode cX2_seek 77 = .ok (.invokevirtual 58, 3) := by decide +kernel
theorem dX2_seek_80 : decode cX2_seek 80 = .ok (.aload_n 0, 1) := by decide +kernel
theorem dX2_seek_81 : decode cX2_seek 81 = .ok (.getfield 21, 3) := by decide +kernel
theorem dX2_seek_84 : decode cX2_seek 84 = .ok (.getfield 62, 3) := by decide +kernel
theorem dX2_seek_87 : decode cX2_seek 87 = .ok (.istore 5, 2) := by decide +kernel
theorem dX2_seek_89 : decode cX2_seek 89 = .ok (.aload_n 0, 1) := by decide +kernel
theorem dX2_seek_90 : decode cX2_seek 90 = .ok (.getfield 25, 3) := by decide +kernel
theorem dX2_seek_93 : decode cX2_seek 93 = .ok (.getfield 62, 3) := by decide +kernel
theorem dX2_seek_96 : decode cX2_seek 96 = .ok (.istore 6, 2) := by decide +kernel
theorem dX2_seek_98 : decode cX2_seek 98 = .ok (.aload_n 0, 1) := by decide +kernel
theorem dX2_seek_99 : decode cX2_seek 99 = .ok (.getfield 21, 3) := by decide +kernel
theorem dX2_seek_102 : decode cX2_seek 102 = .ok (.aload_n 0, 1) := by decide +kernel
theorem dX2_seek_103 : decode cX2_seek 103 = .ok (.getfield 9, 3) := by decide +kernel
theorem dX2_seek_106 : decode cX2_seek 106 = .ok (.iload_n 1, 1) := by decide +kernel
theorem dX2_seek_107 : decode cX2_seek 107 = .ok (.iaload, 1) := by decide +kernel
theorem dX2_seek_108 : decode cX2_seek 108 = .ok (.invokevirtual 71, 3) := by decide +kernel
theorem dX2_seek_111 : decode cX2_seek 111 = .ok (.aload_n 0, 1) := by decide +kernel
theorem dX2_seek_112 : decode cX2_seek 112 = .ok (.getfield 25, 3) := by decide +kernel
theorem dX2_seek_115 : decode cX2_seek 115 = .ok (.aload_n 0, 1) := by decide +kernel
theorem dX2_seek_116 : decode cX2_seek 116 = .ok (.getfield 15, 3) := by decide +kernel
theorem dX2_seek_119 : decode cX2_seek 119 = .ok (.iload_n 1, 1) := by decide +kernel
theorem dX2_seek_120 : decode cX2_seek 120 = .ok (.iaload, 1) := by decide +kernel
theorem dX2_seek_121 : decode cX2_seek 121 = .ok (.invokevirtual 71, 3) := by decide +kernel
theorem dX2_seek_124 : decode cX2_seek 124 = .ok (.aload_n 0, 1) := by decide +kernel
theorem dX2_seek_125 : decode cX2_seek 125 = .ok (.getfield 21, 3) := by decide +kernel
theorem dX2_seek_128 : decode cX2_seek 128 = .ok (.getfield 32, 3) := by decide +kernel
theorem dX2_seek_131 : decode cX2_seek 131 = .ok (.ifCond .eq 28, 3) := by decide +kernel
theorem dX2_seek_134 : decode cX2_seek 134 = .ok (.aload_n 0, 1) := by decide +kernel
theorem dX2_seek_135 : decode cX2_seek 135 = .ok (.getfield 25, 3) := by decide +kernel
theorem dX2_seek_138 : decode cX2_seek 138 = .ok (.getfield 32, 3) := by decide +kernel
theorem dX2_seek_141 : decode cX2_seek 141 = .ok (.ifCond .eq 18, 3) := by decide +kernel
theorem dX2_seek_144 : decode cX2_seek 144 = .ok (.aload_n 0, 1) := by decide +kernel
theorem dX2_seek_145 : decode cX2_seek 145 = .ok (.iload_n 1, 1) := by decide +kernel
theorem dX2_seek_146 : decode cX2_seek 146 = .ok (.iconst 1, 1) := by decide +kernel
theorem dX2_seek_147 : decode cX2_seek 147 = .ok (.isub, 1) := by decide +kernel
theorem dX2_seek_148 : decode cX2_seek 148 = .ok (.iload_n 2, 1) := by decide +kernel
theorem dX2_seek_149 : decode cX2_seek 149 = .ok (.iconst 1, 1) := by decide +kernel
theorem dX2_seek_150 : decode cX2_seek 150 = .ok (.iload_n 1, 1) := by decide +kernel
theorem dX2_seek_151 : decode cX2_seek 151 = .ok (.ishl, 1) := by decide +kernel
theorem dX2_seek_152 : decode cX2_seek 152 = .ok (.ior, 1) := by decide +kernel
theorem dX2_seek_153 : decode cX2_seek 153 = .ok (.iload_n 3, 1) := by decide +kernel
theorem dX2_seek_154 : decode cX2_seek 154 = .ok (.iconst 1, 1) := by decide +kernel
theorem dX2_seek_155 : decode cX2_seek 155 = .ok (.iadd, 1) := by decide +kernel
theorem dX2_seek_156 : decode cX2_seek 156 = .ok (.invokevirtual 58, 3) := by decide +kernel
theorem dX2_seek_159 : decode cX2_seek 159 = .ok (.aload_n 0, 1) := by decide +kernel
theorem dX2_seek_160 : decode cX2_seek 160 = .ok (.getfield 21, 3) := by decide +kernel
theorem dX2_seek_163 : decode cX2_seek 163 = .ok (.iload 5, 2) := by decide +kernel
theorem dX2_seek_165 : decode cX2_seek 165 = .ok (.invokevirtual 75, 3) := by decide +kernel
theorem dX2_seek_168 : decode cX2_seek 168 = .ok (.aload_n 0, 1) := by decide +kernel
theorem dX2_seek_169 : decode cX2_seek 169 = .ok (.getfield 25, 3) := by decide +kernel
theorem dX2_seek_172 : decode cX2_seek 172 = .ok (.iload 6, 2) := by decide +kernel
theorem dX2_seek_174 : decode cX2_seek 174 = .ok (.invokevirtual 75, 3) := by decide +kernel
theorem dX2_seek_177 : decode cX2_seek 177 = .ok (.return_, 1) := by decide +kernel
set_option maxHeartbeats 4000000 in
set_option maxRecDepth 100000 in
theorem s_X2_seek_L1 {P : PP} {a0 : Nat} {a1 : Int32} {a2 : Int32} {a3 : Int32} (I : IV P) (ha0 : At P a0 2) (ha1 : 0 ≤ a1.toInt ∧ a1.toInt ≤ 0) (ha3 : 0 ≤ a3.toInt ∧ a3.toInt ≤ 10) : CtrV yX2_seek cX2_seek 7 none ({ frames := 3, cells := 0, slots := 0, locals := 192 } : Room) 0 0 P [.ref a0, .int a1, .int a2, .int a3] (fun P2 => IV P2 ∧ EK [0, 2, 13] P P2) := by
  refine enV (lv := [(0, .ref a0), (1, .int a1), (2, .int a2), (3, .int a3)]) (by decide) (Nat.le_of_ble_eq_true rfl) rfl (fun E D cy C Ci0 ret => ?_)
  have J159 : ∀ (P159 : PP) (v159_5 : Int32) (v159_6 : Int32), (IV P159) → (EK [0, 2, 13] P P159) → (0 ≤ v159_5.toInt ∧ v159_5.toInt ≤ 20) → (0 ≤ v159_6.toInt ∧ v159_6.toInt ≤ 20) → (∀ b, pR P159 a0 2 = some b → 0 ≤ (pI P159 b 3).toInt ∧ (pI P159 b 3).toInt ≤ 1) → G E ({ frames := 3, cells := 0, slots := 0, locals := 192 } : Room) D cy 7 P159 0 0 159 [(0, .ref a0), (5, .int v159_5), (6, .int v159_6)] [] := by
    intro P159 v159_5 v159_6 I159 X159 hv159_5 hv159_6 hq159_0
    have h34247 := X159.at ha0
    obtain ⟨b34248, e34249, h34250⟩ := I159.fld (h34247) 2 0 0 rfl
    have hq159_0 := hq159_0 b34248 e34249
    refine g_aload_n C dX2_seek_159 rfl 0 rfl ?_
    refine g_getR C fi_X2_21 rfl e34249 (h34247).1 (h34247).2 dX2_seek_160 ?_
    refine g_iload C dX2_seek_163 1 rfl ?_
    refine g_callVV (rest := []) C mv_X2_75 [.int v159_5] (s_X0_cut I159 h34250.at) (h34250.at).1 (h34250.at).2 rfl rfl (by decide) (Nat.le_of_ble_eq_true rfl) (by decide) dX2_seek_165 (fun Y34252 h34253 => ?_)
    obtain ⟨Iy34254, Xy34255⟩ := h34253
    have Xz34256 : EK [0, 2, 13] P Y34252 := X159.tr (Xy34255.mono (by decide))
    have h34257 := Xy34255.at h34247
    refine g_aload_n C dX2_seek_168 rfl 0 rfl ?_
    obtain ⟨b34258, e34259, h34260⟩ := Iy34254.fld (h34257) 3 0 0 rfl
    refine g_getR C fi_X2_25 rfl e34259 (h34257).1 (h34257).2 dX2_seek_169 ?_
    refine g_iload C dX2_seek_172 2 rfl ?_
    refine g_callVV (rest := []) C mv_X2_75 [.int v159_6] (s_X0_cut Iy34254 h34260.at) (h34260.at).1 (h34260.at).2 rfl rfl (by decide) (Nat.le_of_ble_eq_true rfl) (by decide) dX2_seek_174 (fun Y34262 h34263 => ?_)
    obtain ⟨Iy34264, Xy34265⟩ := h34263
    have Xz34266 : EK [0, 2, 13] P Y34262 := Xz34256.tr (Xy34265.mono (by decide))
    have h34267 := Xy34265.at h34257
    exact ret _ _ _ _ _ dX2_seek_177 (by decide) (by decide) ⟨Iy34264, Xz34266⟩
  refine g_aload_n C dX2_seek_0 rfl 0 rfl ?_
  refine g_getI C fi_X2_42 (by decide) (ha0).1 (ha0).2 dX2_seek_1 ?_
  have h34268 := I.rg (ha0) 4 rfl
  refine g_aload_n C dX2_seek_4 rfl 0 rfl ?_
  obtain ⟨b34269, e34270, h34271⟩ := I.fld (ha0) 2 0 0 rfl
  refine g_getR C fi_X2_21 rfl e34270 (ha0).1 (ha0).2 dX2_seek_5 ?_
  refine g_getI C fi_X2_62 (by decide) (h34271.at).1 (h34271.at).2 dX2_seek_8 ?_
  have h34272 := I.rg (h34271.at) 2 rfl
  refine g_aload_n C dX2_seek_11 rfl 0 rfl ?_
  obtain ⟨b34273, e34274, h34275⟩ := I.fld (ha0) 3 0 0 rfl
  refine g_getR C fi_X2_25 rfl e34274 (ha0).1 (ha0).2 dX2_seek_12 ?_
  refine g_getI C fi_X2_62 (by decide) (h34275.at).1 (h34275.at).2 dX2_seek_15 ?_
  have h34276 := I.rg (h34275.at) 2 rfl
  refine g_mmin C ms_X2_65 (by decide) (by decide) (Nat.le_of_ble_eq_true rfl) (by decide) dX2_seek_18 (fun z34277 h34278 => ?_)
  have h34278 : z34277.toInt ≤ (pI P b34269 2).toInt ∧ z34277.toInt ≤ (pI P b34273 2).toInt ∧ (z34277.toInt = (pI P b34269 2).toInt ∨ z34277.toInt = (pI P b34273 2).toInt) := h34278
  refine s_isub C dX2_seek_21 (by show -2147483648 ≤ (pI P a0 4).toInt - z34277.toInt ∧ (pI P a0 4).toInt - z34277.toInt ≤ 2147483647; omega) (fun z34279 h34280 => ?_)
  have h34280 : z34279.toInt = (pI P a0 4).toInt - z34277.toInt := h34280
  refine g_istore (lv' := [(4, .int z34279), (0, .ref a0), (1, .int a1), (2, .int a2), (3, .int a3)]) C dX2_seek_22 (by decide) rfl ?_
  refine g_iload_n C dX2_seek_24 rfl 4 rfl ?_
  refine g_iload C dX2_seek_25 0 rfl ?_
  refine s_iadd C dX2_seek_27 (by show -2147483648 ≤ a3.toInt + z34279.toInt ∧ a3.toInt + z34279.toInt ≤ 2147483647; omega) (fun z34281 h34282 => ?_)
  have h34282 : z34281.toInt = a3.toInt + z34279.toInt := h34282
  refine g_aload_n C dX2_seek_28 rfl 1 rfl ?_
  refine g_getI C fi_X2_45 (by decide) (ha0).1 (ha0).2 dX2_seek_29 ?_
  have h34283 := I.rg (ha0) 5 rfl
  refine b_icmp_lt C 36 dX2_seek_32 (by decide) (fun h34284 => ?_) (fun h34284 => ?_)
  · have h34284 : z34281.toInt < (pI P a0 5).toInt := h34284
    refine g_iload C dX2_seek_36 0 rfl ?_
    refine b_if_ne C 52 dX2_seek_38 (by decide) (fun h34285 => ?_) (fun h34285 => ?_)
    · have h34285 : z34279.toInt ≠ 0 := ti_ne h34285
      refine g_iload_n C dX2_seek_52 rfl 2 rfl ?_
      refine b_if_lt C 70 dX2_seek_53 (by decide) (fun h34286 => ?_) (fun h34286 => ?_)
      · have h34286 : a1.toInt < 0 := h34286
        omega
      · have h34286 : 0 ≤ a1.toInt := h34286
        refine g_iload_n C dX2_seek_56 rfl 2 rfl ?_
        refine g_bipush (v := 11) C dX2_seek_57 (by decide) ?_
        refine b_icmp_ge C 70 dX2_seek_59 (by decide) (fun h34287 => ?_) (fun h34287 => ?_)
        · have h34287 : 11 ≤ a1.toInt := h34287
          omega
        · have h34287 : a1.toInt < 11 := h34287
          refine g_iload C dX2_seek_62 0 rfl ?_
          refine g_iload_n C dX2_seek_64 rfl 2 rfl ?_
          refine g_iconst (v := 1) C dX2_seek_65 (by decide) ?_
          refine s_iadd C dX2_seek_66 (by show -2147483648 ≤ a1.toInt + 1 ∧ a1.toInt + 1 ≤ 2147483647; omega) (fun z34288 h34289 => ?_)
          have h34289 : z34288.toInt = a1.toInt + 1 := h34289
          refine b_icmp_le C 71 dX2_seek_67 (by decide) (fun h34290 => ?_) (fun h34290 => ?_)
          · have h34290 : z34279.toInt ≤ z34288.toInt := h34290
            refine g_aload_n C dX2_seek_71 rfl 1 rfl ?_
            refine g_iload_n C dX2_seek_72 rfl 2 rfl ?_
            refine g_iconst (v := 1) C dX2_seek_73 (by decide) ?_
            refine s_isub C dX2_seek_74 (by show -2147483648 ≤ a1.toInt - 1 ∧ a1.toInt - 1 ≤ 2147483647; omega) (fun z34291 h34292 => ?_)
            have h34292 : z34291.toInt = a1.toInt - 1 := h34292
            refine g_iload_n C dX2_seek_75 rfl 3 rfl ?_
            refine g_iload_n C dX2_seek_76 rfl 4 rfl ?_
            refine g_callVV (rest := []) C mv_X2_58 [.int z34291, .int a2, .int a3] (s_X2_seek_L0 I ha0 (by omega) (by omega)) (ha0).1 (ha0).2 rfl rfl (by decide) (Nat.le_of_ble_eq_true rfl) (by decide) dX2_seek_77 (fun Y34294 h34295 => ?_)
            obtain ⟨Iy34296, Xy34297⟩ := h34295
            have q34298 := Xy34297.keep (h34271.at) (by decide) 2
            have q34299 := Xy34297.keep (h34275.at) (by decide) 2
            have Xz34300 : EK [0, 2, 13] P Y34294 := Xy34297.mono (by decide)
            have h34301 := Xy34297.at ha0
            refine g_aload_n C dX2_seek_80 rfl 1 rfl ?_
            obtain ⟨b34302, e34303, h34304⟩ := Iy34296.fld (h34301) 2 0 0 rfl
            refine g_getR C fi_X2_21 rfl e34303 (h34301).1 (h34301).2 dX2_seek_81 ?_
            refine g_getI C fi_X2_62 (by decide) (h34304.at).1 (h34304.at).2 dX2_seek_84 ?_
            have h34305 := Iy34296.rg (h34304.at) 2 rfl
            refine g_topi (fun z34306 h34307 => ?_)
            have h34307 : z34306.toInt = (pI Y34294 b34302 2).toInt := congrArg Int32.toInt h34307
            refine g_istore (lv' := [(5, .int z34306), (4, .int z34279), (0, .ref a0), (1, .int a1), (2, .int a2), (3, .int a3)]) C dX2_seek_87 (by decide) rfl ?_
            refine g_aload_n C dX2_seek_89 rfl 2 rfl ?_
            obtain ⟨b34308, e34309, h34310⟩ := Iy34296.fld (h34301) 3 0 0 rfl
            refine g_getR C fi_X2_25 rfl e34309 (h34301).1 (h34301).2 dX2_seek_90 ?_
            refine g_getI C fi_X2_62 (by decide) (h34310.at).1 (h34310.at).2 dX2_seek_93 ?_
            have h34311 := Iy34296.rg (h34310.at) 2 rfl
            refine g_topi (fun z34312 h34313 => ?_)
            have h34313 : z34312.toInt = (pI Y34294 b34308 2).toInt := congrArg Int32.toInt h34313
            refine g_istore (lv' := [(6, .int z34312), (5, .int z34306), (4, .int z34279), (0, .ref a0), (1, .int a1), (2, .int a2), (3, .int a3)]) C dX2_seek_96 (by decide) rfl ?_
            refine g_aload_n C dX2_seek_98 rfl 3 rfl ?_
            refine g_getR C fi_X2_21 rfl e34303 (h34301).1 (h34301).2 dX2_seek_99 ?_
            refine g_aload_n C dX2_seek_102 rfl 3 rfl ?_
            obtain ⟨b34314, e34315, h34316⟩ := Iy34296.fld (h34301) 0 13 11 rfl
            refine g_getR C fi_X2_9 rfl e34315 (h34301).1 (h34301).2 dX2_seek_103 ?_
            refine g_iload_n C dX2_seek_106 rfl 4 rfl ?_
            refine g_iald (j := (a1.toInt.toNat)) C h34316.1 h34316.2.1 (ix_in h34316.2.2 (by omega)) dX2_seek_107 ?_
            refine g_topi (fun z34317 _ => ?_)
            refine g_callVV (rest := []) C mv_X2_71 [.int z34317] (s_X0_add Iy34296 h34304.at) (h34304.at).1 (h34304.at).2 rfl rfl (by decide) (Nat.le_of_ble_eq_true rfl) (by decide) dX2_seek_108 (fun Y34319 h34320 => ?_)
            obtain ⟨Iy34321, Xy34322⟩ := h34320
            have Xz34323 : EK [0, 2, 13] P Y34319 := Xz34300.tr (Xy34322.mono (by decide))
            have h34324 := Xy34322.at h34301
            refine g_aload_n C dX2_seek_111 rfl 3 rfl ?_
            obtain ⟨b34325, e34326, h34327⟩ := Iy34321.fld (h34324) 3 0 0 rfl
            refine g_getR C fi_X2_25 rfl e34326 (h34324).1 (h34324).2 dX2_seek_112 ?_
            refine g_aload_n C dX2_seek_115 rfl 3 rfl ?_
            obtain ⟨b34328, e34329, h34330⟩ := Iy34321.fld (h34324) 1 13 11 rfl
            refine g_getR C fi_X2_15 rfl e34329 (h34324).1 (h34324).2 dX2_seek_116 ?_
            refine g_iload_n C dX2_seek_119 rfl 4 rfl ?_
            refine g_iald (j := (a1.toInt.toNat)) C h34330.1 h34330.2.1 (ix_in h34330.2.2 (by omega)) dX2_seek_120 ?_
            refine g_topi (fun z34331 _ => ?_)
            refine g_callVV (rest := []) C mv_X2_71 [.int z34331] (s_X0_add Iy34321 h34327.at) (h34327.at).1 (h34327.at).2 rfl rfl (by decide) (Nat.le_of_ble_eq_true rfl) (by decide) dX2_seek_121 (fun Y34333 h34334 => ?_)
            obtain ⟨Iy34335, Xy34336⟩ := h34334
            have Xz34337 : EK [0, 2, 13] P Y34333 := Xz34323.tr (Xy34336.mono (by decide))
            have h34338 := Xy34336.at h34324
            refine g_aload_n C dX2_seek_124 rfl 3 rfl ?_
            obtain ⟨b34339, e34340, h34341⟩ := Iy34335.fld (h34338) 2 0 0 rfl
            refine g_getR C fi_X2_21 rfl e34340 (h34338).1 (h34338).2 dX2_seek_125 ?_
            refine g_getI C fi_X2_32 (by decide) (h34341.at).1 (h34341.at).2 dX2_seek_128 ?_
            have h34342 := Iy34335.rg (h34341.at) 3 rfl
            refine b_if_eq C 159 dX2_seek_131 (by decide) (fun h34343 => ?_) (fun h34343 => ?_)
            · have h34343 : (pI Y34333 b34339 3).toInt = 0 := congrArg Int32.toInt h34343
              refine g_lv (lv' := [(0, .ref a0), (5, .int z34306), (6, .int z34312)]) [3, 1, 0] rfl ?_
              exact J159 Y34333 z34306 z34312 Iy34335 Xz34337 (by omega) (by omega) (fun b9 e9 => by rw [e34340] at e9; cases e9; omega)
            · have h34343 : (pI Y34333 b34339 3).toInt ≠ 0 := ti_ne h34343
              refine g_aload_n C dX2_seek_134 rfl 3 rfl ?_
              obtain ⟨b34344, e34345, h34346⟩ := Iy34335.fld (h34338) 3 0 0 rfl
              refine g_getR C fi_X2_25 rfl e34345 (h34338).1 (h34338).2 dX2_seek_135 ?_
              refine g_getI C fi_X2_32 (by decide) (h34346.at).1 (h34346.at).2 dX2_seek_138 ?_
              have h34347 := Iy34335.rg (h34346.at) 3 rfl
              refine b_if_eq C 159 dX2_seek_141 (by decide) (fun h34348 => ?_) (fun h34348 => ?_)
              · have h34348 : (pI Y34333 b34344 3).toInt = 0 := congrArg Int32.toInt h34348
                refine g_lv (lv' := [(0, .ref a0), (5, .int z34306), (6, .int z34312)]) [3, 1, 0] rfl ?_
                exact J159 Y34333 z34306 z34312 Iy34335 Xz34337 (by omega) (by omega) (fun b9 e9 => by rw [e34340] at e9; cases e9; omega)
              · have h34348 : (pI Y34333 b34344 3).toInt ≠ 0 := ti_ne h34348
                refine g_aload_n C dX2_seek_144 rfl 3 rfl ?_
                refine g_iload_n C dX2_seek_145 rfl 4 rfl ?_
                refine g_iconst (v := 1) C dX2_seek_146 (by decide) ?_
                refine s_isub C dX2_seek_147 (by show -2147483648 ≤ a1.toInt - 1 ∧ a1.toInt - 1 ≤ 2147483647; omega) (fun z34349 h34350 => ?_)
                have h34350 : z34349.toInt = a1.toInt - 1 := h34350
                refine g_iload_n C dX2_seek_148 rfl 5 rfl ?_
                refine g_iconst (v := 1) C dX2_seek_149 (by decide) ?_
                refine g_iload_n C dX2_seek_150 rfl 4 rfl ?_
                refine a_ishl C dX2_seek_151 (fun z34351 => ?_)
                refine a_ior C dX2_seek_152 (fun z34353 => ?_)
                refine g_iload_n C dX2_seek_153 rfl 6 rfl ?_
                refine g_iconst (v := 1) C dX2_seek_154 (by decide) ?_
                refine s_iadd C dX2_seek_155 (by show -2147483648 ≤ a3.toInt + 1 ∧ a3.toInt + 1 ≤ 2147483647; omega) (fun z34355 h34356 => ?_)
                have h34356 : z34355.toInt = a3.toInt + 1 := h34356
                refine g_callVV (rest := []) C mv_X2_58 [.int z34349, .int z34353, .int z34355] (s_X2_seek_L0 Iy34335 h34338 (by omega) (by omega)) (h34338).1 (h34338).2 rfl rfl (by decide) (Nat.le_of_ble_eq_true rfl) (by decide) dX2_seek_156 (fun Y34358 h34359 => ?_)
                obtain ⟨Iy34360, Xy34361⟩ := h34359
                have q34362 := Xy34361.keep (h34341.at) (by decide) 3
                have q34363 := Xy34361.keep (h34346.at) (by decide) 3
                have Xz34364 : EK [0, 2, 13] P Y34358 := Xz34337.tr (Xy34361.mono (by decide))
                have e34365 := Xy34361.ref h34338 (by decide) e34340
                have e34366 := Xy34361.ref h34338 (by decide) e34345
                have h34367 := Xy34361.at h34338
                have h34368 := Xy34361.ar h34341
                have h34369 := Xy34361.ar h34346
                refine g_lv (lv' := [(0, .ref a0), (5, .int z34306), (6, .int z34312)]) [3, 1, 0] rfl ?_
                exact J159 Y34358 z34306 z34312 Iy34360 Xz34364 (by omega) (by omega) (fun b9 e9 => by rw [e34365] at e9; cases e9; omega)
          · have h34290 : z34288.toInt < z34279.toInt := h34290
            exact ret _ _ _ _ _ dX2_seek_70 (by decide) (by decide) ⟨I, EK.rf⟩
    · have h34285 : z34279.toInt = 0 := congrArg Int32.toInt h34285
      refine g_aload_n C dX2_seek_41 rfl 1 rfl ?_
      refine g_iload_n C dX2_seek_42 rfl 4 rfl ?_
      refine g_putI C fi_X2_45 rfl (ha0).1 (ha0).2 dX2_seek_43 ?_
      refine gpW (ks := [2]) (I.setI (ha0) (rgOk.of rfl (by omega))) (EK.setI (ha0).2 (by decide)) (fun Y34370 Iy34371 Xy34372 w34373 w34374 => ?_)
      have q34375 := w34373 4 (by decide)
      have q34376 := Xy34372.keep (h34271.at) (by decide) 2
      have q34377 := Xy34372.keep (h34275.at) (by decide) 2
      have Xz34378 : EK [0, 2, 13] P Y34370 := Xy34372.mono (by decide)
      have h34379 := Xy34372.at ha0
      refine g_aload_n C dX2_seek_46 rfl 1 rfl ?_
      refine g_iload_n C dX2_seek_47 rfl 3 rfl ?_
      refine g_putI C fi_X2_48 rfl (h34379).1 (h34379).2 dX2_seek_48 ?_
      refine gpW (ks := [2]) (Iy34371.setI (h34379) (rgOk.none rfl)) (EK.setI (h34379).2 (by decide)) (fun Y34380 Iy34381 Xy34382 w34383 w34384 => ?_)
      have q34385 := w34383 4 (by decide)
      have q34386 := w34383 5 (by decide)
      have Xz34387 : EK [0, 2, 13] P Y34380 := Xz34378.tr (Xy34382.mono (by decide))
      have h34388 := Xy34382.at h34379
      exact ret _ _ _ _ _ dX2_seek_51 (by decide) (by decide) ⟨Iy34381, Xz34387⟩
  · have h34284 : (pI P a0 5).toInt ≤ z34281.toInt := h34284
    exact ret _ _ _ _ _ dX2_seek_35 (by decide) (by decide) ⟨I, EK.rf⟩
set_option maxHeartbeats 4000000 in
set_option maxRecDepth 100000 in
theorem s_X2_seek_L2 {P : PP} {a0 : Nat} {a1 : Int32} {a2 : Int32} {a3 : Int32} (I : IV P) (ha0 : At P a0 2) (ha1 : 1 ≤ a1.toInt ∧ a1.toInt ≤ 1) (ha3 : 0 ≤ a3.toInt ∧ a3.toInt ≤ 9) : CtrV yX2_seek cX2_seek 7 none ({ frames := 4, cells := 0, slots := 0, locals := 256 } : Room) 0 0 P [.ref a0, .int a1, .int a2, .int a3] (fun P2 => IV P2 ∧ EK [0, 2, 13] P P2) := by
  refine enV (lv := [(0, .ref a0), (1, .int a1), (2, .int a2), (3, .int a3)]) (by decide) (Nat.le_of_ble_eq_true rfl) rfl (fun E D cy C Ci0 ret => ?_)
  have J159 : ∀ (P159 : PP) (v159_5 : Int32) (v159_6 : Int32), (IV P159) → (EK [0, 2, 13] P P159) → (0 ≤ v159_5.toInt ∧ v159_5.toInt ≤ 20) → (0 ≤ v159_6.toInt ∧ v159_6.toInt ≤ 20) → G E ({ frames := 4, cells := 0, slots := 0, locals := 256 } : Room) D cy 7 P159 0 0 159 [(0, .ref a0), (5, .int v159_5), (6, .int v159_6)] [] := by
    intro P159 v159_5 v159_6 I159 X159 hv159_5 hv159_6
    have h34523 := X159.at ha0
    refine g_aload_n C dX2_seek_159 rfl 0 rfl ?_
    obtain ⟨b34524, e34525, h34526⟩ := I159.fld (h34523) 2 0 0 rfl
    refine g_getR C fi_X2_21 rfl e34525 (h34523).1 (h34523).2 dX2_seek_160 ?_
    refine g_iload C dX2_seek_163 1 rfl ?_
    refine g_callVV (rest := []) C mv_X2_75 [.int v159_5] (s_X0_cut I159 h34526.at) (h34526.at).1 (h34526.at).2 rfl rfl (by decide) (Nat.le_of_ble_eq_true rfl) (by decide) dX2_seek_165 (fun Y34528 h34529 => ?_)
    obtain ⟨Iy34530, Xy34531⟩ := h34529
    have Xz34532 : EK [0, 2, 13] P Y34528 := X159.tr (Xy34531.mono (by decide))
    have h34533 := Xy34531.at h34523
    refine g_aload_n C dX2_seek_168 rfl 0 rfl ?_
    obtain ⟨b34534, e34535, h34536⟩ := Iy34530.fld (h34533) 3 0 0 rfl
    refine g_getR C fi_X2_25 rfl e34535 (h34533).1 (h34533).2 dX2_seek_169 ?_
    refine g_iload C dX2_seek_172 2 rfl ?_
    refine g_callVV (rest := []) C mv_X2_75 [.int v159_6] (s_X0_cut Iy34530 h34536.at) (h34536.at).1 (h34536.at).2 rfl rfl (by decide) (Nat.le_of_ble_eq_true rfl) (by decide) dX2_seek_174 (fun Y34538 h34539 => ?_)
    obtain ⟨Iy34540, Xy34541⟩ := h34539
    have Xz34542 : EK [0, 2, 13] P Y34538 := Xz34532.tr (Xy34541.mono (by decide))
    have h34543 := Xy34541.at h34533
    exact ret _ _ _ _ _ dX2_seek_177 (by decide) (by decide) ⟨Iy34540, Xz34542⟩
  refine g_aload_n C dX2_seek_0 rfl 0 rfl ?_
  refine g_getI C fi_X2_42 (by decide) (ha0).1 (ha0).2 dX2_seek_1 ?_
  have h34544 := I.rg (ha0) 4 rfl
  refine g_aload_n C dX2_seek_4 rfl 0 rfl ?_
  obtain ⟨b34545, e34546, h34547⟩ := I.fld (ha0) 2 0 0 rfl
  refine g_getR C fi_X2_21 rfl e34546 (ha0).1 (ha0).2 dX2_seek_5 ?_
  refine g_getI C fi_X2_62 (by decide) (h34547.at).1 (h34547.at).2 dX2_seek_8 ?_
  have h34548 := I.rg (h34547.at) 2 rfl
  refine g_aload_n C dX2_seek_11 rfl 0 rfl ?_
  obtain ⟨b34549, e34550, h34551⟩ := I.fld (ha0) 3 0 0 rfl
  refine g_getR C fi_X2_25 rfl e34550 (ha0).1 (ha0).2 dX2_seek_12 ?_
  refine g_getI C fi_X2_62 (by decide) (h34551.at).1 (h34551.at).2 dX2_seek_15 ?_
  have h34552 := I.rg (h34551.at) 2 rfl
  refine g_mmin C ms_X2_65 (by decide) (by decide) (Nat.le_of_ble_eq_true rfl) (by decide) dX2_seek_18 (fun z34553 h34554 => ?_)
  have h34554 : z34553.toInt ≤ (pI P b34545 2).toInt ∧ z34553.toInt ≤ (pI P b34549 2).toInt ∧ (z34553.toInt = (pI P b34545 2).toInt ∨ z34553.toInt = (pI P b34549 2).toInt) := h34554
  refine s_isub C dX2_seek_21 (by show -2147483648 ≤ (pI P a0 4).toInt - z34553.toInt ∧ (pI P a0 4).toInt - z34553.toInt ≤ 2147483647; omega) (fun z34555 h34556 => ?_)
  have h34556 : z34555.toInt = (pI P a0 4).toInt - z34553.toInt := h34556
  refine g_istore (lv' := [(4, .int z34555), (0, .ref a0), (1, .int a1), (2, .int a2), (3, .int a3)]) C dX2_seek_22 (by decide) rfl ?_
  refine g_iload_n C dX2_seek_24 rfl 4 rfl ?_
  refine g_iload C dX2_seek_25 0 rfl ?_
  refine s_iadd C dX2_seek_27 (by show -2147483648 ≤ a3.toInt + z34555.toInt ∧ a3.toInt + z34555.toInt ≤ 2147483647; omega) (fun z34557 h34558 => ?_)
  have h34558 : z34557.toInt = a3.toInt + z34555.toInt := h34558
  refine g_aload_n C dX2_seek_28 rfl 1 rfl ?_
  refine g_getI C fi_X2_45 (by decide) (ha0).1 (ha0).2 dX2_seek_29 ?_
  have h34559 := I.rg (ha0) 5 rfl
  refine b_icmp_lt C 36 dX2_seek_32 (by decide) (fun h34560 => ?_) (fun h34560 => ?_)
  · have h34560 : z34557.toInt < (pI P a0 5).toInt := h34560
    refine g_iload C dX2_seek_36 0 rfl ?_
    refine b_if_ne C 52 dX2_seek_38 (by decide) (fun h34561 => ?_) (fun h34561 => ?_)
    · have h34561 : z34555.toInt ≠ 0 := ti_ne h34561
      refine g_iload_n C dX2_seek_52 rfl 2 rfl ?_
      refine b_if_lt C 70 dX2_seek_53 (by decide) (fun h34562 => ?_) (fun h34562 => ?_)
      · have h34562 : a1.toInt < 0 := h34562
        omega
      · have h34562 : 0 ≤ a1.toInt := h34562
        refine g_iload_n C dX2_seek_56 rfl 2 rfl ?_
        refine g_bipush (v := 11) C dX2_seek_57 (by decide) ?_
        refine b_icmp_ge C 70 dX2_seek_59 (by decide) (fun h34563 => ?_) (fun h34563 => ?_)
        · have h34563 : 11 ≤ a1.toInt := h34563
          omega
        · have h34563 : a1.toInt < 11 := h34563
          refine g_iload C dX2_seek_62 0 rfl ?_
          refine g_iload_n C dX2_seek_64 rfl 2 rfl ?_
          refine g_iconst (v := 1) C dX2_seek_65 (by decide) ?_
          refine s_iadd C dX2_seek_66 (by show -2147483648 ≤ a1.toInt + 1 ∧ a1.toInt + 1 ≤ 2147483647; omega) (fun z34564 h34565 => ?_)
          have h34565 : z34564.toInt = a1.toInt + 1 := h34565
          refine b_icmp_le C 71 dX2_seek_67 (by decide) (fun h34566 => ?_) (fun h34566 => ?_)
          · have h34566 : z34555.toInt ≤ z34564.toInt := h34566
            refine g_aload_n C dX2_seek_71 rfl 1 rfl ?_
            refine g_iload_n C dX2_seek_72 rfl 2 rfl ?_
            refine g_iconst (v := 1) C dX2_seek_73 (by decide) ?_
            refine s_isub C dX2_seek_74 (by show -2147483648 ≤ a1.toInt - 1 ∧ a1.toInt - 1 ≤ 2147483647; omega) (fun z34567 h34568 => ?_)
            have h34568 : z34567.toInt = a1.toInt - 1 := h34568
            refine g_iload_n C dX2_seek_75 rfl 3 rfl ?_
            refine g_iload_n C dX2_seek_76 rfl 4 rfl ?_
            refine g_callVV (rest := []) C mv_X2_58 [.int z34567, .int a2, .int a3] (s_X2_seek_L1 I ha0 (by omega) (by omega)) (ha0).1 (ha0).2 rfl rfl (by decide) (Nat.le_of_ble_eq_true rfl) (by decide) dX2_seek_77 (fun Y34570 h34571 => ?_)
            obtain ⟨Iy34572, Xy34573⟩ := h34571
            have Xz34574 : EK [0, 2, 13] P Y34570 := Xy34573.mono (by decide)
            have h34575 := Xy34573.at ha0
            refine g_aload_n C dX2_seek_80 rfl 1 rfl ?_
            obtain ⟨b34576, e34577, h34578⟩ := Iy34572.fld (h34575) 2 0 0 rfl
            refine g_getR C fi_X2_21 rfl e34577 (h34575).1 (h34575).2 dX2_seek_81 ?_
            refine g_getI C fi_X2_62 (by decide) (h34578.at).1 (h34578.at).2 dX2_seek_84 ?_
            have h34579 := Iy34572.rg (h34578.at) 2 rfl
            refine g_topi (fun z34580 h34581 => ?_)
            have h34581 : z34580.toInt = (pI Y34570 b34576 2).toInt := congrArg Int32.toInt h34581
            refine g_istore (lv' := [(5, .int z34580), (4, .int z34555), (0, .ref a0), (1, .int a1), (2, .int a2), (3, .int a3)]) C dX2_seek_87 (by decide) rfl ?_
            refine g_aload_n C dX2_seek_89 rfl 2 rfl ?_
            obtain ⟨b34582, e34583, h34584⟩ := Iy34572.fld (h34575) 3 0 0 rfl
            refine g_getR C fi_X2_25 rfl e34583 (h34575).1 (h34575).2 dX2_seek_90 ?_
            refine g_getI C fi_X2_62 (by decide) (h34584.at).1 (h34584.at).2 dX2_seek_93 ?_
            have h34585 := Iy34572.rg (h34584.at) 2 rfl
            refine g_topi (fun z34586 h34587 => ?_)
            have h34587 : z34586.toInt = (pI Y34570 b34582 2).toInt := congrArg Int32.toInt h34587
            refine g_istore (lv' := [(6, .int z34586), (5, .int z34580), (4, .int z34555), (0, .ref a0), (1, .int a1), (2, .int a2), (3, .int a3)]) C dX2_seek_96 (by decide) rfl ?_
            refine g_aload_n C dX2_seek_98 rfl 3 rfl ?_
            refine g_getR C fi_X2_21 rfl e34577 (h34575).1 (h34575).2 dX2_seek_99 ?_
            refine g_aload_n C dX2_seek_102 rfl 3 rfl ?_
            obtain ⟨b34588, e34589, h34590⟩ := Iy34572.fld (h34575) 0 13 11 rfl
            refine g_getR C fi_X2_9 rfl e34589 (h34575).1 (h34575).2 dX2_seek_103 ?_
            refine g_iload_n C dX2_seek_106 rfl 4 rfl ?_
            refine g_iald (j := (a1.toInt.toNat)) C h34590.1 h34590.2.1 (ix_in h34590.2.2 (by omega)) dX2_seek_107 ?_
            refine g_topi (fun z34591 _ => ?_)
            refine g_callVV (rest := []) C mv_X2_71 [.int z34591] (s_X0_add Iy34572 h34578.at) (h34578.at).1 (h34578.at).2 rfl rfl (by decide) (Nat.le_of_ble_eq_true rfl) (by decide) dX2_seek_108 (fun Y34593 h34594 => ?_)
            obtain ⟨Iy34595, Xy34596⟩ := h34594
            have Xz34597 : EK [0, 2, 13] P Y34593 := Xz34574.tr (Xy34596.mono (by decide))
            have h34598 := Xy34596.at h34575
            refine g_aload_n C dX2_seek_111 rfl 3 rfl ?_
            obtain ⟨b34599, e34600, h34601⟩ := Iy34595.fld (h34598) 3 0 0 rfl
            refine g_getR C fi_X2_25 rfl e34600 (h34598).1 (h34598).2 dX2_seek_112 ?_
            refine g_aload_n C dX2_seek_115 rfl 3 rfl ?_
            obtain ⟨b34602, e34603, h34604⟩ := Iy34595.fld (h34598) 1 13 11 rfl
            refine g_getR C fi_X2_15 rfl e34603 (h34598).1 (h34598).2 dX2_seek_116 ?_
            refine g_iload_n C dX2_seek_119 rfl 4 rfl ?_
            refine g_iald (j := (a1.toInt.toNat)) C h34604.1 h34604.2.1 (ix_in h34604.2.2 (by omega)) dX2_seek_120 ?_
            refine g_topi (fun z34605 _ => ?_)
            refine g_callVV (rest := []) C mv_X2_71 [.int z34605] (s_X0_add Iy34595 h34601.at) (h34601.at).1 (h34601.at).2 rfl rfl (by decide) (Nat.le_of_ble_eq_true rfl) (by decide) dX2_seek_121 (fun Y34607 h34608 => ?_)
            obtain ⟨Iy34609, Xy34610⟩ := h34608
            have Xz34611 : EK [0, 2, 13] P Y34607 := Xz34597.tr (Xy34610.mono (by decide))
            have h34612 := Xy34610.at h34598
            refine g_aload_n C dX2_seek_124 rfl 3 rfl ?_
            obtain ⟨b34613, e34614, h34615⟩ := Iy34609.fld (h34612) 2 0 0 rfl
            refine g_getR C fi_X2_21 rfl e34614 (h34612).1 (h34612).2 dX2_seek_125 ?_
            refine g_getI C fi_X2_32 (by decide) (h34615.at).1 (h34615.at).2 dX2_seek_128 ?_
            have h34616 := Iy34609.rg (h34615.at) 3 rfl
            refine b_if_eq C 159 dX2_seek_131 (by decide) (fun h34617 => ?_) (fun h34617 => ?_)
            · have h34617 : (pI Y34607 b34613 3).toInt = 0 := congrArg Int32.toInt h34617
              refine g_lv (lv' := [(0, .ref a0), (5, .int z34580), (6, .int z34586)]) [3, 1, 0] rfl ?_
              exact J159 Y34607 z34580 z34586 Iy34609 Xz34611 (by omega) (by omega)
            · have h34617 : (pI Y34607 b34613 3).toInt ≠ 0 := ti_ne h34617
              refine g_aload_n C dX2_seek_134 rfl 3 rfl ?_
              obtain ⟨b34618, e34619, h34620⟩ := Iy34609.fld (h34612) 3 0 0 rfl
              refine g_getR C fi_X2_25 rfl e34619 (h34612).1 (h34612).2 dX2_seek_135 ?_
              refine g_getI C fi_X2_32 (by decide) (h34620.at).1 (h34620.at).2 dX2_seek_138 ?_
              have h34621 := Iy34609.rg (h34620.at) 3 rfl
              refine b_if_eq C 159 dX2_seek_141 (by decide) (fun h34622 => ?_) (fun h34622 => ?_)
              · have h34622 : (pI Y34607 b34618 3).toInt = 0 := congrArg Int32.toInt h34622
                refine g_lv (lv' := [(0, .ref a0), (5, .int z34580), (6, .int z34586)]) [3, 1, 0] rfl ?_
                exact J159 Y34607 z34580 z34586 Iy34609 Xz34611 (by omega) (by omega)
              · have h34622 : (pI Y34607 b34618 3).toInt ≠ 0 := ti_ne h34622
                refine g_aload_n C dX2_seek_144 rfl 3 rfl ?_
                refine g_iload_n C dX2_seek_145 rfl 4 rfl ?_
                refine g_iconst (v := 1) C dX2_seek_146 (by decide) ?_
                refine s_isub C dX2_seek_147 (by show -2147483648 ≤ a1.toInt - 1 ∧ a1.toInt - 1 ≤ 2147483647; omega) (fun z34623 h34624 => ?_)
                have h34624 : z34623.toInt = a1.toInt - 1 := h34624
                refine g_iload_n C dX2_seek_148 rfl 5 rfl ?_
                refine g_iconst (v := 1) C dX2_seek_149 (by decide) ?_
                refine g_iload_n C dX2_seek_150 rfl 4 rfl ?_
                refine a_ishl C dX2_seek_151 (fun z34625 => ?_)
                refine a_ior C dX2_seek_152 (fun z34627 => ?_)
                refine g_iload_n C dX2_seek_153 rfl 6 rfl ?_
                refine g_iconst (v := 1) C dX2_seek_154 (by decide) ?_
                refine s_iadd C dX2_seek_155 (by show -2147483648 ≤ a3.toInt + 1 ∧ a3.toInt + 1 ≤ 2147483647; omega) (fun z34629 h34630 => ?_)
                have h34630 : z34629.toInt = a3.toInt + 1 := h34630
                refine g_callVV (rest := []) C mv_X2_58 [.int z34623, .int z34627, .int z34629] (s_X2_seek_L1 Iy34609 h34612 (by omega) (by omega)) (h34612).1 (h34612).2 rfl rfl (by decide) (Nat.le_of_ble_eq_true rfl) (by decide) dX2_seek_156 (fun Y34632 h34633 => ?_)
                obtain ⟨Iy34634, Xy34635⟩ := h34633
                have Xz34636 : EK [0, 2, 13] P Y34632 := Xz34611.tr (Xy34635.mono (by decide))
                have h34637 := Xy34635.at h34612
                refine g_lv (lv' := [(0, .ref a0), (5, .int z34580), (6, .int z34586)]) [3, 1, 0] rfl ?_
                exact J159 Y34632 z34580 z34586 Iy34634 Xz34636 (by omega) (by omega)
          · have h34566 : z34564.toInt < z34555.toInt := h34566
            exact ret _ _ _ _ _ dX2_seek_70 (by decide) (by decide) ⟨I, EK.rf⟩
    · have h34561 : z34555.toInt = 0 := congrArg Int32.toInt h34561
      refine g_aload_n C dX2_seek_41 rfl 1 rfl ?_
      refine g_iload_n C dX2_seek_42 rfl 4 rfl ?_
      refine g_putI C fi_X2_45 rfl (ha0).1 (ha0).2 dX2_seek_43 ?_
      refine gpW (ks := [2]) (I.setI (ha0) (rgOk.of rfl (by omega))) (EK.setI (ha0).2 (by decide)) (fun Y34638 Iy34639 Xy34640 w34641 w34642 => ?_)
      have q34643 := w34641 4 (by decide)
      have q34644 := Xy34640.keep (h34547.at) (by decide) 2
      have q34645 := Xy34640.keep (h34551.at) (by decide) 2
      have Xz34646 : EK [0, 2, 13] P Y34638 := Xy34640.mono (by decide)
      have h34647 := Xy34640.at ha0
      refine g_aload_n C dX2_seek_46 rfl 1 rfl ?_
      refine g_iload_n C dX2_seek_47 rfl 3 rfl ?_
      refine g_putI C fi_X2_48 rfl (h34647).1 (h34647).2 dX2_seek_48 ?_
      refine gpW (ks := [2]) (Iy34639.setI (h34647) (rgOk.none rfl)) (EK.setI (h34647).2 (by decide)) (fun Y34648 Iy34649 Xy34650 w34651 w34652 => ?_)
      have q34653 := w34651 4 (by decide)
      have q34654 := w34651 5 (by decide)
      have Xz34655 : EK [0, 2, 13] P Y34648 := Xz34646.tr (Xy34650.mono (by decide))
      have h34656 := Xy34650.at h34647
      exact ret _ _ _ _ _ dX2_seek_51 (by decide) (by decide) ⟨Iy34649, Xz34655⟩
  · have h34560 : (pI P a0 5).toInt ≤ z34557.toInt := h34560
    exact ret _ _ _ _ _ dX2_seek_35 (by decide) (by decide) ⟨I, EK.rf⟩
set_option maxHeartbeats 4000000 in
set_option maxRecDepth 100000 in
theorem s_X2_seek_L3 {P : PP} {a0 : Nat} {a1 : Int32} {a2 : Int32} {a3 : Int32} (I : IV P) (ha0 : At P a0 2) (ha1 : 2 ≤ a1.toInt ∧ a1.toInt ≤ 2) (ha3 : 0 ≤ a3.toInt ∧ a3.toInt ≤ 8) : CtrV yX2_seek cX2_seek 7 none ({ frames := 5, cells := 0, slots := 0, locals := 320 } : Room) 0 0 P [.ref a0, .int a1, .int a2, .int a3] (fun P2 => IV P2 ∧ EK [0, 2, 13] P P2) := by
  refine enV (lv := [(0, .ref a0), (1, .int a1), (2, .int a2), (3, .int a3)]) (by decide) (Nat.le_of_ble_eq_true rfl) rfl (fun E D cy C Ci0 ret => ?_)
  have J159 : ∀ (P159 : PP) (v159_5 : Int32) (v159_6 : Int32), (IV P159) → (EK [0, 2, 13] P P159) → (0 ≤ v159_5.toInt ∧ v159_5.toInt ≤ 20) → (0 ≤ v159_6.toInt ∧ v159_6.toInt ≤ 20) → G E ({ frames := 5, cells := 0, slots := 0, locals := 320 } : Room) D cy 7 P159 0 0 159 [(0, .ref a0), (5, .int v159_5), (6, .int v159_6)] [] := by
    intro P159 v159_5 v159_6 I159 X159 hv159_5 hv159_6
    have h34791 := X159.at ha0
    refine g_aload_n C dX2_seek_159 rfl 0 rfl ?_
    obtain ⟨b34792, e34793, h34794⟩ := I159.fld (h34791) 2 0 0 rfl
    refine g_getR C fi_X2_21 rfl e34793 (h34791).1 (h34791).2 dX2_seek_160 ?_
    refine g_iload C dX2_seek_163 1 rfl ?_
    refine g_callVV (rest := []) C mv_X2_75 [.int v159_5] (s_X0_cut I159 h34794.at) (h34794.at).1 (h34794.at).2 rfl rfl (by decide) (Nat.le_of_ble_eq_true rfl) (by decide) dX2_seek_165 (fun Y34796 h34797 => ?_)
    obtain ⟨Iy34798, Xy34799⟩ := h34797
    have Xz34800 : EK [0, 2, 13] P Y34796 := X159.tr (Xy34799.mono (by decide))
    have h34801 := Xy34799.at h34791
    refine g_aload_n C dX2_seek_168 rfl 0 rfl ?_
    obtain ⟨b34802, e34803, h34804⟩ := Iy34798.fld (h34801) 3 0 0 rfl
    refine g_getR C fi_X2_25 rfl e34803 (h34801).1 (h34801).2 dX2_seek_169 ?_
    refine g_iload C dX2_seek_172 2 rfl ?_
    refine g_callVV (rest := []) C mv_X2_75 [.int v159_6] (s_X0_cut Iy34798 h34804.at) (h34804.at).1 (h34804.at).2 rfl rfl (by decide) (Nat.le_of_ble_eq_true rfl) (by decide) dX2_seek_174 (fun Y34806 h34807 => ?_)
    obtain ⟨Iy34808, Xy34809⟩ := h34807
    have Xz34810 : EK [0, 2, 13] P Y34806 := Xz34800.tr (Xy34809.mono (by decide))
    have h34811 := Xy34809.at h34801
    exact ret _ _ _ _ _ dX2_seek_177 (by decide) (by decide) ⟨Iy34808, Xz34810⟩
  refine g_aload_n C dX2_seek_0 rfl 0 rfl ?_
  refine g_getI C fi_X2_42 (by decide) (ha0).1 (ha0).2 dX2_seek_1 ?_
  have h34812 := I.rg (ha0) 4 rfl
  refine g_aload_n C dX2_seek_4 rfl 0 rfl ?_
  obtain ⟨b34813, e34814, h34815⟩ := I.fld (ha0) 2 0 0 rfl
  refine g_getR C fi_X2_21 rfl e34814 (ha0).1 (ha0).2 dX2_seek_5 ?_
  refine g_getI C fi_X2_62 (by decide) (h34815.at).1 (h34815.at).2 dX2_seek_8 ?_
  have h34816 := I.rg (h34815.at) 2 rfl
  refine g_aload_n C dX2_seek_11 rfl 0 rfl ?_
  obtain ⟨b34817, e34818, h34819⟩ := I.fld (ha0) 3 0 0 rfl
  refine g_getR C fi_X2_25 rfl e34818 (ha0).1 (ha0).2 dX2_seek_12 ?_
  refine g_getI C fi_X2_62 (by decide) (h34819.at).1 (h34819.at).2 dX2_seek_15 ?_
  have h34820 := I.rg (h34819.at) 2 rfl
  refine g_mmin C ms_X2_65 (by decide) (by decide) (Nat.le_of_ble_eq_true rfl) (by decide) dX2_seek_18 (fun z34821 h34822 => ?_)
  have h34822 : z34821.toInt ≤ (pI P b34813 2).toInt ∧ z34821.toInt ≤ (pI P b34817 2).toInt ∧ (z34821.toInt = (pI P b34813 2).toInt ∨ z34821.toInt = (pI P b34817 2).toInt) := h34822
  refine s_isub C dX2_seek_21 (by show -2147483648 ≤ (pI P a0 4).toInt - z34821.toInt ∧ (pI P a0 4).toInt - z34821.toInt ≤ 2147483647; omega) (fun z34823 h34824 => ?_)
  have h34824 : z34823.toInt = (pI P a0 4).toInt - z34821.toInt := h34824
  refine g_istore (lv' := [(4, .int z34823), (0, .ref a0), (1, .int a1), (2, .int a2), (3, .int a3)]) C dX2_seek_22 (by decide) rfl ?_
  refine g_iload_n C dX2_seek_24 rfl 4 rfl ?_
  refine g_iload C dX2_seek_25 0 rfl ?_
  refine s_iadd C dX2_seek_27 (by show -2147483648 ≤ a3.toInt + z34823.toInt ∧ a3.toInt + z34823.toInt ≤ 2147483647; omega) (fun z34825 h34826 => ?_)
  have h34826 : z34825.toInt = a3.toInt + z34823.toInt := h34826
  refine g_aload_n C dX2_seek_28 rfl 1 rfl ?_
  refine g_getI C fi_X2_45 (by decide) (ha0).1 (ha0).2 dX2_seek_29 ?_
  have h34827 := I.rg (ha0) 5 rfl
  refine b_icmp_lt C 36 dX2_seek_32 (by decide) (fun h34828 => ?_) (fun h34828 => ?_)
  · have h34828 : z34825.toInt < (pI P a0 5).toInt := h34828
    refine g_iload C dX2_seek_36 0 rfl ?_
    refine b_if_ne C 52 dX2_seek_38 (by decide) (fun h34829 => ?_) (fun h34829 => ?_)
    · have h34829 : z34823.toInt ≠ 0 := ti_ne h34829
      refine g_iload_n C dX2_seek_52 rfl 2 rfl ?_
      refine b_if_lt C 70 dX2_seek_53 (by decide) (fun h34830 => ?_) (fun h34830 => ?_)
      · have h34830 : a1.toInt < 0 := h34830
        omega
      · have h34830 : 0 ≤ a1.toInt := h34830
        refine g_iload_n C dX2_seek_56 rfl 2 rfl ?_
        refine g_bipush (v := 11) C dX2_seek_57 (by decide) ?_
        refine b_icmp_ge C 70 dX2_seek_59 (by decide) (fun h34831 => ?_) (fun h34831 => ?_)
        · have h34831 : 11 ≤ a1.toInt := h34831
          omega
        · have h34831 : a1.toInt < 11 := h34831
          refine g_iload C dX2_seek_62 0 rfl ?_
          refine g_iload_n C dX2_seek_64 rfl 2 rfl ?_
          refine g_iconst (v := 1) C dX2_seek_65 (by decide) ?_
          refine s_iadd C dX2_seek_66 (by show -2147483648 ≤ a1.toInt + 1 ∧ a1.toInt + 1 ≤ 2147483647; omega) (fun z34832 h34833 => ?_)
          have h34833 : z34832.toInt = a1.toInt + 1 := h34833
          refine b_icmp_le C 71 dX2_seek_67 (by decide) (fun h34834 => ?_) (fun h34834 => ?_)
          · have h34834 : z34823.toInt ≤ z34832.toInt := h34834
            refine g_aload_n C dX2_seek_71 rfl 1 rfl ?_
            refine g_iload_n C dX2_seek_72 rfl 2 rfl ?_
            refine g_iconst (v := 1) C dX2_seek_73 (by decide) ?_
            refine s_isub C dX2_seek_74 (by show -2147483648 ≤ a1.toInt - 1 ∧ a1.toInt - 1 ≤ 2147483647; omega) (fun z34835 h34836 => ?_)
            have h34836 : z34835.toInt = a1.toInt - 1 := h34836
            refine g_iload_n C dX2_seek_75 rfl 3 rfl ?_
            refine g_iload_n C dX2_seek_76 rfl 4 rfl ?_
            refine g_callVV (rest := []) C mv_X2_58 [.int z34835, .int a2, .int a3] (s_X2_seek_L2 I ha0 (by omega) (by omega)) (ha0).1 (ha0).2 rfl rfl (by decide) (Nat.le_of_ble_eq_true rfl) (by decide) dX2_seek_77 (fun Y34838 h34839 => ?_)
            obtain ⟨Iy34840, Xy34841⟩ := h34839
            have Xz34842 : EK [0, 2, 13] P Y34838 := Xy34841.mono (by decide)
            have h34843 := Xy34841.at ha0
            refine g_aload_n C dX2_seek_80 rfl 1 rfl ?_
            obtain ⟨b34844, e34845, h34846⟩ := Iy34840.fld (h34843) 2 0 0 rfl
            refine g_getR C fi_X2_21 rfl e34845 (h34843).1 (h34843).2 dX2_seek_81 ?_
            refine g_getI C fi_X2_62 (by decide) (h34846.at).1 (h34846.at).2 dX2_seek_84 ?_
            have h34847 := Iy34840.rg (h34846.at) 2 rfl
            refine g_topi (fun z34848 h34849 => ?_)
            have h34849 : z34848.toInt = (pI Y34838 b34844 2).toInt := congrArg Int32.toInt h34849
            refine g_istore (lv' := [(5, .int z34848), (4, .int z34823), (0, .ref a0), (1, .int a1), (2, .int a2), (3, .int a3)]) C dX2_seek_87 (by decide) rfl ?_
            refine g_aload_n C dX2_seek_89 rfl 2 rfl ?_
            obtain ⟨b34850, e34851, h34852⟩ := Iy34840.fld (h34843) 3 0 0 rfl
            refine g_getR C fi_X2_25 rfl e34851 (h34843).1 (h34843).2 dX2_seek_90 ?_
            refine g_getI C fi_X2_62 (by decide) (h34852.at).1 (h34852.at).2 dX2_seek_93 ?_
            have h34853 := Iy34840.rg (h34852.at) 2 rfl
            refine g_topi (fun z34854 h34855 => ?_)
            have h34855 : z34854.toInt = (pI Y34838 b34850 2).toInt := congrArg Int32.toInt h34855
            refine g_istore (lv' := [(6, .int z34854), (5, .int z34848), (4, .int z34823), (0, .ref a0), (1, .int a1), (2, .int a2), (3, .int a3)]) C dX2_seek_96 (by decide) rfl ?_
            refine g_aload_n C dX2_seek_98 rfl 3 rfl ?_
            refine g_getR C fi_X2_21 rfl e34845 (h34843).1 (h34843).2 dX2_seek_99 ?_
            refine g_aload_n C dX2_seek_102 rfl 3 rfl ?_
            obtain ⟨b34856, e34857, h34858⟩ := Iy34840.fld (h34843) 0 13 11 rfl
            refine g_getR C fi_X2_9 rfl e34857 (h34843).1 (h34843).2 dX2_seek_103 ?_
            refine g_iload_n C dX2_seek_106 rfl 4 rfl ?_
            refine g_iald (j := (a1.toInt.toNat)) C h34858.1 h34858.2.1 (ix_in h34858.2.2 (by omega)) dX2_seek_107 ?_
            refine g_topi (fun z34859 _ => ?_)
            refine g_callVV (rest := []) C mv_X2_71 [.int z34859] (s_X0_add Iy34840 h34846.at) (h34846.at).1 (h34846.at).2 rfl rfl (by decide) (Nat.le_of_ble_eq_true rfl) (by decide) dX2_seek_108 (fun Y34861 h34862 => ?_)
            obtain ⟨Iy34863, Xy34864⟩ := h34862
            have Xz34865 : EK [0, 2, 13] P Y34861 := Xz34842.tr (Xy34864.mono (by decide))
            have h34866 := Xy34864.at h34843
            refine g_aload_n C dX2_seek_111 rfl 3 rfl ?_
            obtain ⟨b34867, e34868, h34869⟩ := Iy34863.fld (h34866) 3 0 0 rfl
            refine g_getR C fi_X2_25 rfl e34868 (h34866).1 (h34866).2 dX2_seek_112 ?_
            refine g_aload_n C dX2_seek_115 rfl 3 rfl ?_
            obtain ⟨b34870, e34871, h34872⟩ := Iy34863.fld (h34866) 1 13 11 rfl
            refine g_getR C fi_X2_15 rfl e34871 (h34866).1 (h34866).2 dX2_seek_116 ?_
            refine g_iload_n C dX2_seek_119 rfl 4 rfl ?_
            refine g_iald (j := (a1.toInt.toNat)) C h34872.1 h34872.2.1 (ix_in h34872.2.2 (by omega)) dX2_seek_120 ?_
            refine g_topi (fun z34873 _ => ?_)
            refine g_callVV (rest := []) C mv_X2_71 [.int z34873] (s_X0_add Iy34863 h34869.at) (h34869.at).1 (h34869.at).2 rfl rfl (by decide) (Nat.le_of_ble_eq_true rfl) (by decide) dX2_seek_121 (fun Y34875 h34876 => ?_)
            obtain ⟨Iy34877, Xy34878⟩ := h34876
            have Xz34879 : EK [0, 2, 13] P Y34875 := Xz34865.tr (Xy34878.mono (by decide))
            have h34880 := Xy34878.at h34866
            refine g_aload_n C dX2_seek_124 rfl 3 rfl ?_
            obtain ⟨b34881, e34882, h34883⟩ := Iy34877.fld (h34880) 2 0 0 rfl
            refine g_getR C fi_X2_21 rfl e34882 (h34880).1 (h34880).2 dX2_seek_125 ?_
            refine g_getI C fi_X2_32 (by decide) (h34883.at).1 (h34883.at).2 dX2_seek_128 ?_
            have h34884 := Iy34877.rg (h34883.at) 3 rfl
            refine b_if_eq C 159 dX2_seek_131 (by decide) (fun h34885 => ?_) (fun h34885 => ?_)
            · have h34885 : (pI Y34875 b34881 3).toInt = 0 := congrArg Int32.toInt h34885
              refine g_lv (lv' := [(0, .ref a0), (5, .int z34848), (6, .int z34854)]) [3, 1, 0] rfl ?_
              exact J159 Y34875 z34848 z34854 Iy34877 Xz34879 (by omega) (by omega)
            · have h34885 : (pI Y34875 b34881 3).toInt ≠ 0 := ti_ne h34885
              refine g_aload_n C dX2_seek_134 rfl 3 rfl ?_
              obtain ⟨b34886, e34887, h34888⟩ := Iy34877.fld (h34880) 3 0 0 rfl
              refine g_getR C fi_X2_25 rfl e34887 (h34880).1 (h34880).2 dX2_seek_135 ?_
              refine g_getI C fi_X2_32 (by decide) (h34888.at).1 (h34888.at).2 dX2_seek_138 ?_
              have h34889 := Iy34877.rg (h34888.at) 3 rfl
              refine b_if_eq C 159 dX2_seek_141 (by decide) (fun h34890 => ?_) (fun h34890 => ?_)
              · have h34890 : (pI Y34875 b34886 3).toInt = 0 := congrArg Int32.toInt h34890
                refine g_lv (lv' := [(0, .ref a0), (5, .int z34848), (6, .int z34854)]) [3, 1, 0] rfl ?_
                exact J159 Y34875 z34848 z34854 Iy34877 Xz34879 (by omega) (by omega)
              · have h34890 : (pI Y34875 b34886 3).toInt ≠ 0 := ti_ne h34890
                refine g_aload_n C dX2_seek_144 rfl 3 rfl ?_
                refine g_iload_n C dX2_seek_145 rfl 4 rfl ?_
                refine g_iconst (v := 1) C dX2_seek_146 (by decide) ?_
                refine s_isub C dX2_seek_147 (by show -2147483648 ≤ a1.toInt - 1 ∧ a1.toInt - 1 ≤ 2147483647; omega) (fun z34891 h34892 => ?_)
                have h34892 : z34891.toInt = a1.toInt - 1 := h34892
                refine g_iload_n C dX2_seek_148 rfl 5 rfl ?_
                refine g_iconst (v := 1) C dX2_seek_149 (by decide) ?_
                refine g_iload_n C dX2_seek_150 rfl 4 rfl ?_
                refine a_ishl C dX2_seek_151 (fun z34893 => ?_)
                refine a_ior C dX2_seek_152 (fun z34895 => ?_)
                refine g_iload_n C dX2_seek_153 rfl 6 rfl ?_
                refine g_iconst (v := 1) C dX2_seek_154 (by decide) ?_
                refine s_iadd C dX2_seek_155 (by show -2147483648 ≤ a3.toInt + 1 ∧ a3.toInt + 1 ≤ 2147483647; omega) (fun z34897 h34898 => ?_)
                have h34898 : z34897.toInt = a3.toInt + 1 := h34898
                refine g_callVV (rest := []) C mv_X2_58 [.int z34891, .int z34895, .int z34897] (s_X2_seek_L2 Iy34877 h34880 (by omega) (by omega)) (h34880).1 (h34880).2 rfl rfl (by decide) (Nat.le_of_ble_eq_true rfl) (by decide) dX2_seek_156 (fun Y34900 h34901 => ?_)
                obtain ⟨Iy34902, Xy34903⟩ := h34901
                have Xz34904 : EK [0, 2, 13] P Y34900 := Xz34879.tr (Xy34903.mono (by decide))
                have h34905 := Xy34903.at h34880
                refine g_lv (lv' := [(0, .ref a0), (5, .int z34848), (6, .int z34854)]) [3, 1, 0] rfl ?_
                exact J159 Y34900 z34848 z34854 Iy34902 Xz34904 (by omega) (by omega)
          · have h34834 : z34832.toInt < z34823.toInt := h34834
            exact ret _ _ _ _ _ dX2_seek_70 (by decide) (by decide) ⟨I, EK.rf⟩
    · have h34829 : z34823.toInt = 0 := congrArg Int32.toInt h34829
      refine g_aload_n C dX2_seek_41 rfl 1 rfl ?_
      refine g_iload_n C dX2_seek_42 rfl 4 rfl ?_
      refine g_putI C fi_X2_45 rfl (ha0).1 (ha0).2 dX2_seek_43 ?_
      refine gpW (ks := [2]) (I.setI (ha0) (rgOk.of rfl (by omega))) (EK.setI (ha0).2 (by decide)) (fun Y34906 Iy34907 Xy34908 w34909 w34910 => ?_)
      have q34911 := w34909 4 (by decide)
      have q34912 := Xy34908.keep (h34815.at) (by decide) 2
      have q34913 := Xy34908.keep (h34819.at) (by decide) 2
      have Xz34914 : EK [0, 2, 13] P Y34906 := Xy34908.mono (by decide)
      have h34915 := Xy34908.at ha0
      refine g_aload_n C dX2_seek_46 rfl 1 rfl ?_
      refine g_iload_n C dX2_seek_47 rfl 3 rfl ?_
      refine g_putI C fi_X2_48 rfl (h34915).1 (h34915).2 dX2_seek_48 ?_
      refine gpW (ks := [2]) (Iy34907.setI (h34915) (rgOk.none rfl)) (EK.setI (h34915).2 (by decide)) (fun Y34916 Iy34917 Xy34918 w34919 w34920 => ?_)
      have q34921 := w34919 4 (by decide)
      have q34922 := w34919 5 (by decide)
      have Xz34923 : EK [0, 2, 13] P Y34916 := Xz34914.tr (Xy34918.mono (by decide))
      have h34924 := Xy34918.at h34915
      exact ret _ _ _ _ _ dX2_seek_51 (by decide) (by decide) ⟨Iy34917, Xz34923⟩
  · have h34828 : (pI P a0 5).toInt ≤ z34825.toInt := h34828
    exact ret _ _ _ _ _ dX2_seek_35 (by decide) (by decide) ⟨I, EK.rf⟩
set_option maxHeartbeats 4000000 in
set_option maxRecDepth 100000 in
theorem s_X2_seek_L4 {P : PP} {a0 : Nat} {a1 : Int32} {a2 : Int32} {a3 : Int32} (I : IV P) (ha0 : At P a0 2) (ha1 : 3 ≤ a1.toInt ∧ a1.toInt ≤ 3) (ha3 : 0 ≤ a3.toInt ∧ a3.toInt ≤ 7) : CtrV yX2_seek cX2_seek 7 none ({ frames := 6, cells := 0, slots := 0, locals := 384 } : Room) 0 0 P [.ref a0, .int a1, .int a2, .int a3] (fun P2 => IV P2 ∧ EK [0, 2, 13] P P2) := by
  refine enV (lv := [(0, .ref a0), (1, .int a1), (2, .int a2), (3, .int a3)]) (by decide) (Nat.le_of_ble_eq_true rfl) rfl (fun E D cy C Ci0 ret => ?_)
  have J159 : ∀ (P159 : PP) (v159_5 : Int32) (v159_6 : Int32), (IV P159) → (EK [0, 2, 13] P P159) → (0 ≤ v159_5.toInt ∧ v159_5.toInt ≤ 20) → (0 ≤ v159_6.toInt ∧ v159_6.toInt ≤ 20) → G E ({ frames := 6, cells := 0, slots := 0, locals := 384 } : Room) D cy 7 P159 0 0 159 [(0, .ref a0), (5, .int v159_5), (6, .int v159_6)] [] := by
    intro P159 v159_5 v159_6 I159 X159 hv159_5 hv159_6
    have h35059 := X159.at ha0
    refine g_aload_n C dX2_seek_159 rfl 0 rfl ?_
    obtain ⟨b35060, e35061, h35062⟩ := I159.fld (h35059) 2 0 0 rfl
    refine g_getR C fi_X2_21 rfl e35061 (h35059).1 (h35059).2 dX2_seek_160 ?_
    refine g_iload C dX2_seek_163 1 rfl ?_
    refine g_callVV (rest := []) C mv_X2_75 [.int v159_5] (s_X0_cut I159 h35062.at) (h35062.at).1 (h35062.at).2 rfl rfl (by decide) (Nat.le_of_ble_eq_true rfl) (by decide) dX2_seek_165 (fun Y35064 h35065 => ?_)
    obtain ⟨Iy35066, Xy35067⟩ := h35065
    have Xz35068 : EK [0, 2, 13] P Y35064 := X159.tr (Xy35067.mono (by decide))
    have h35069 := Xy35067.at h35059
    refine g_aload_n C dX2_seek_168 rfl 0 rfl ?_
    obtain ⟨b35070, e35071, h35072⟩ := Iy35066.fld (h35069) 3 0 0 rfl
    refine g_getR C fi_X2_25 rfl e35071 (h35069).1 (h35069).2 dX2_seek_169 ?_
    refine g_iload C dX2_seek_172 2 rfl ?_
    refine g_callVV (rest := []) C mv_X2_75 [.int v159_6] (s_X0_cut Iy35066 h35072.at) (h35072.at).1 (h35072.at).2 rfl rfl (by decide) (Nat.le_of_ble_eq_true rfl) (by decide) dX2_seek_174 (fun Y35074 h35075 => ?_)
    obtain ⟨Iy35076, Xy35077⟩ := h35075
    have Xz35078 : EK [0, 2, 13] P Y35074 := Xz35068.tr (Xy35077.mono (by decide))
    have h35079 := Xy35077.at h35069
    exact ret _ _ _ _ _ dX2_seek_177 (by decide) (by decide) ⟨Iy35076, Xz35078⟩
  refine g_aload_n C dX2_seek_0 rfl 0 rfl ?_
  refine g_getI C fi_X2_42 (by decide) (ha0).1 (ha0).2 dX2_seek_1 ?_
  have h35080 := I.rg (ha0) 4 rfl
  refine g_aload_n C dX2_seek_4 rfl 0 rfl ?_
  obtain ⟨b35081, e35082, h35083⟩ := I.fld (ha0) 2 0 0 rfl
  refine g_getR C fi_X2_21 rfl e35082 (ha0).1 (ha0).2 dX2_seek_5 ?_
  refine g_getI C fi_X2_62 (by decide) (h35083.at).1 (h35083.at).2 dX2_seek_8 ?_
  have h35084 := I.rg (h35083.at) 2 rfl
  refine g_aload_n C dX2_seek_11 rfl 0 rfl ?_
  obtain ⟨b35085, e35086, h35087⟩ := I.fld (ha0) 3 0 0 rfl
  refine g_getR C fi_X2_25 rfl e35086 (ha0).1 (ha0).2 dX2_seek_12 ?_
  refine g_getI C fi_X2_62 (by decide) (h35087.at).1 (h35087.at).2 dX2_seek_15 ?_
  have h35088 := I.rg (h35087.at) 2 rfl
  refine g_mmin C ms_X2_65 (by decide) (by decide) (Nat.le_of_ble_eq_true rfl) (by decide) dX2_seek_18 (fun z35089 h35090 => ?_)
  have h35090 : z35089.toInt ≤ (pI P b35081 2).toInt ∧ z35089.toInt ≤ (pI P b35085 2).toInt ∧ (z35089.toInt = (pI P b35081 2).toInt ∨ z35089.toInt = (pI P b35085 2).toInt) := h35090
  refine s_isub C dX2_seek_21 (by show -2147483648 ≤ (pI P a0 4).toInt - z35089.toInt ∧ (pI P a0 4).toInt - z35089.toInt ≤ 2147483647; omega) (fun z35091 h35092 => ?_)
  have h35092 : z35091.toInt = (pI P a0 4).toInt - z35089.toInt := h35092
  refine g_istore (lv' := [(4, .int z35091), (0, .ref a0), (1, .int a1), (2, .int a2), (3, .int a3)]) C dX2_seek_22 (by decide) rfl ?_
  refine g_iload_n C dX2_seek_24 rfl 4 rfl ?_
  refine g_iload C dX2_seek_25 0 rfl ?_
  refine s_iadd C dX2_seek_27 (by show -2147483648 ≤ a3.toInt + z35091.toInt ∧ a3.toInt + z35091.toInt ≤ 2147483647; omega) (fun z35093 h35094 => ?_)
  have h35094 : z35093.toInt = a3.toInt + z35091.toInt := h35094
  refine g_aload_n C dX2_seek_28 rfl 1 rfl ?_
  refine g_getI C fi_X2_45 (by decide) (ha0).1 (ha0).2 dX2_seek_29 ?_
  have h35095 := I.rg (ha0) 5 rfl
  refine b_icmp_lt C 36 dX2_seek_32 (by decide) (fun h35096 => ?_) (fun h35096 => ?_)
  · have h35096 : z35093.toInt < (pI P a0 5).toInt := h35096
    refine g_iload C dX2_seek_36 0 rfl ?_
    refine b_if_ne C 52 dX2_seek_38 (by decide) (fun h35097 => ?_) (fun h35097 => ?_)
    · have h35097 : z35091.toInt ≠ 0 := ti_ne h35097
      refine g_iload_n C dX2_seek_52 rfl 2 rfl ?_
      refine b_if_lt C 70 dX2_seek_53 (by decide) (fun h35098 => ?_) (fun h35098 => ?_)
      · have h35098 : a1.toInt < 0 := h35098
        omega
      · have h35098 : 0 ≤ a1.toInt := h35098
        refine g_iload_n C dX2_seek_56 rfl 2 rfl ?_
        refine g_bipush (v := 11) C dX2_seek_57 (by decide) ?_
        refine b_icmp_ge C 70 dX2_seek_59 (by decide) (fun h35099 => ?_) (fun h35099 => ?_)
        · have h35099 : 11 ≤ a1.toInt := h35099
          omega
        · have h35099 : a1.toInt < 11 := h35099
          refine g_iload C dX2_seek_62 0 rfl ?_
          refine g_iload_n C dX2_seek_64 rfl 2 rfl ?_
          refine g_iconst (v := 1) C dX2_seek_65 (by decide) ?_
          refine s_iadd C dX2_seek_66 (by show -2147483648 ≤ a1.toInt + 1 ∧ a1.toInt + 1 ≤ 2147483647; omega) (fun z35100 h35101 => ?_)
          have h35101 : z35100.toInt = a1.toInt + 1 := h35101
          refine b_icmp_le C 71 dX2_seek_67 (by decide) (fun h35102 => ?_) (fun h35102 => ?_)
          · have h35102 : z35091.toInt ≤ z35100.toInt := h35102
            refine g_aload_n C dX2_seek_71 rfl 1 rfl ?_
            refine g_iload_n C dX2_seek_72 rfl 2 rfl ?_
            refine g_iconst (v := 1) C dX2_seek_73 (by decide) ?_
            refine s_isub C dX2_seek_74 (by show -2147483648 ≤ a1.toInt - 1 ∧ a1.toInt - 1 ≤ 2147483647; omega) (fun z35103 h35104 => ?_)
            have h35104 : z35103.toInt = a1.toInt - 1 := h35104
            refine g_iload_n C dX2_seek_75 rfl 3 rfl ?_
            refine g_iload_n C dX2_seek_76 rfl 4 rfl ?_
            refine g_callVV (rest := []) C mv_X2_58 [.int z35103, .int a2, .int a3] (s_X2_seek_L3 I ha0 (by omega) (by omega)) (ha0).1 (ha0).2 rfl rfl (by decide) (Nat.le_of_ble_eq_true rfl) (by decide) dX2_seek_77 (fun Y35106 h35107 => ?_)
            obtain ⟨Iy35108, Xy35109⟩ := h35107
            have Xz35110 : EK [0, 2, 13] P Y35106 := Xy35109.mono (by decide)
            have h35111 := Xy35109.at ha0
            refine g_aload_n C dX2_seek_80 rfl 1 rfl ?_
            obtain ⟨b35112, e35113, h35114⟩ := Iy35108.fld (h35111) 2 0 0 rfl
            refine g_getR C fi_X2_21 rfl e35113 (h35111).1 (h35111).2 dX2_seek_81 ?_
            refine g_getI C fi_X2_62 (by decide) (h35114.at).1 (h35114.at).2 dX2_seek_84 ?_
            have h35115 := Iy35108.rg (h35114.at) 2 rfl
            refine g_topi (fun z35116 h35117 => ?_)
            have h35117 : z35116.toInt = (pI Y35106 b35112 2).toInt := congrArg Int32.toInt h35117
            refine g_istore (lv' := [(5, .int z35116), (4, .int z35091), (0, .ref a0), (1, .int a1), (2, .int a2), (3, .int a3)]) C dX2_seek_87 (by decide) rfl ?_
            refine g_aload_n C dX2_seek_89 rfl 2 rfl ?_
            obtain ⟨b35118, e35119, h35120⟩ := Iy35108.fld (h35111) 3 0 0 rfl
            refine g_getR C fi_X2_25 rfl e35119 (h35111).1 (h35111).2 dX2_seek_90 ?_
            refine g_getI C fi_X2_62 (by decide) (h35120.at).1 (h35120.at).2 dX2_seek_93 ?_
            have h35121 := Iy35108.rg (h35120.at) 2 rfl
            refine g_topi (fun z35122 h35123 => ?_)
            have h35123 : z35122.toInt = (pI Y35106 b35118 2).toInt := congrArg Int32.toInt h35123
            refine g_istore (lv' := [(6, .int z35122), (5, .int z35116), (4, .int z35091), (0, .ref a0), (1, .int a1), (2, .int a2), (3, .int a3)]) C dX2_seek_96 (by decide) rfl ?_
            refine g_aload_n C dX2_seek_98 rfl 3 rfl ?_
            refine g_getR C fi_X2_21 rfl e35113 (h35111).1 (h35111).2 dX2_seek_99 ?_
            refine g_aload_n C dX2_seek_102 rfl 3 rfl ?_
            obtain ⟨b35124, e35125, h35126⟩ := Iy35108.fld (h35111) 0 13 11 rfl
            refine g_getR C fi_X2_9 rfl e35125 (h35111).1 (h35111).2 dX2_seek_103 ?_
            refine g_iload_n C dX2_seek_106 rfl 4 rfl ?_
            refine g_iald (j := (a1.toInt.toNat)) C h35126.1 h35126.2.1 (ix_in h35126.2.2 (by omega)) dX2_seek_107 ?_
            refine g_topi (fun z35127 _ => ?_)
            refine g_callVV (rest := []) C mv_X2_71 [.int z35127] (s_X0_add Iy35108 h35114.at) (h35114.at).1 (h35114.at).2 rfl rfl (by decide) (Nat.le_of_ble_eq_true rfl) (by decide) dX2_seek_108 (fun Y35129 h35130 => ?_)
            obtain ⟨Iy35131, Xy35132⟩ := h35130
            have Xz35133 : EK [0, 2, 13] P Y35129 := Xz35110.tr (Xy35132.mono (by decide))
            have h35134 := Xy35132.at h35111
            refine g_aload_n C dX2_seek_111 rfl 3 rfl ?_
            obtain ⟨b35135, e35136, h35137⟩ := Iy35131.fld (h35134) 3 0 0 rfl
            refine g_getR C fi_X2_25 rfl e35136 (h35134).1 (h35134).2 dX2_seek_112 ?_
            refine g_aload_n C dX2_seek_115 rfl 3 rfl ?_
            obtain ⟨b35138, e35139, h35140⟩ := Iy35131.fld (h35134) 1 13 11 rfl
            refine g_getR C fi_X2_15 rfl e35139 (h35134).1 (h35134).2 dX2_seek_116 ?_
            refine g_iload_n C dX2_seek_119 rfl 4 rfl ?_
            refine g_iald (j := (a1.toInt.toNat)) C h35140.1 h35140.2.1 (ix_in h35140.2.2 (by omega)) dX2_seek_120 ?_
            refine g_topi (fun z35141 _ => ?_)
            refine g_callVV (rest := []) C mv_X2_71 [.int z35141] (s_X0_add Iy35131 h35137.at) (h35137.at).1 (h35137.at).2 rfl rfl (by decide) (Nat.le_of_ble_eq_true rfl) (by decide) dX2_seek_121 (fun Y35143 h35144 => ?_)
            obtain ⟨Iy35145, Xy35146⟩ := h35144
            have Xz35147 : EK [0, 2, 13] P Y35143 := Xz35133.tr (Xy35146.mono (by decide))
            have h35148 := Xy35146.at h35134
            refine g_aload_n C dX2_seek_124 rfl 3 rfl ?_
            obtain ⟨b35149, e35150, h35151⟩ := Iy35145.fld (h35148) 2 0 0 rfl
            refine g_getR C fi_X2_21 rfl e35150 (h35148).1 (h35148).2 dX2_seek_125 ?_
            refine g_getI C fi_X2_32 (by decide) (h35151.at).1 (h35151.at).2 dX2_seek_128 ?_
            have h35152 := Iy35145.rg (h35151.at) 3 rfl
            refine b_if_eq C 159 dX2_seek_131 (by decide) (fun h35153 => ?_) (fun h35153 => ?_)
            · have h35153 : (pI Y35143 b35149 3).toInt = 0 := congrArg Int32.toInt h35153
              refine g_lv (lv' := [(0, .ref a0), (5, .int z35116), (6, .int z35122)]) [3, 1, 0] rfl ?_
              exact J159 Y35143 z35116 z35122 Iy35145 Xz35147 (by omega) (by omega)
            · have h35153 : (pI Y35143 b35149 3).toInt ≠ 0 := ti_ne h35153
              refine g_aload_n C dX2_seek_134 rfl 3 rfl ?_
              obtain ⟨b35154, e35155, h35156⟩ := Iy35145.fld (h35148) 3 0 0 rfl
              refine g_getR C fi_X2_25 rfl e35155 (h35148).1 (h35148).2 dX2_seek_135 ?_
              refine g_getI C fi_X2_32 (by decide) (h35156.at).1 (h35156.at).2 dX2_seek_138 ?_
              have h35157 := Iy35145.rg (h35156.at) 3 rfl
              refine b_if_eq C 159 dX2_seek_141 (by decide) (fun h35158 => ?_) (fun h35158 => ?_)
              · have h35158 : (pI Y35143 b35154 3).toInt = 0 := congrArg Int32.toInt h35158
                refine g_lv (lv' := [(0, .ref a0), (5, .int z35116), (6, .int z35122)]) [3, 1, 0] rfl ?_
                exact J159 Y35143 z35116 z35122 Iy35145 Xz35147 (by omega) (by omega)
              · have h35158 : (pI Y35143 b35154 3).toInt ≠ 0 := ti_ne h35158
                refine g_aload_n C dX2_seek_144 rfl 3 rfl ?_
                refine g_iload_n C dX2_seek_145 rfl 4 rfl ?_
                refine g_iconst (v := 1) C dX2_seek_146 (by decide) ?_
                refine s_isub C dX2_seek_147 (by show -2147483648 ≤ a1.toInt - 1 ∧ a1.toInt - 1 ≤ 2147483647; omega) (fun z35159 h35160 => ?_)
                have h35160 : z35159.toInt = a1.toInt - 1 := h35160
                refine g_iload_n C dX2_seek_148 rfl 5 rfl ?_
                refine g_iconst (v := 1) C dX2_seek_149 (by decide) ?_
                refine g_iload_n C dX2_seek_150 rfl 4 rfl ?_
                refine a_ishl C dX2_seek_151 (fun z35161 => ?_)
                refine a_ior C dX2_seek_152 (fun z35163 => ?_)
                refine g_iload_n C dX2_seek_153 rfl 6 rfl ?_
                refine g_iconst (v := 1) C dX2_seek_154 (by decide) ?_
                refine s_iadd C dX2_seek_155 (by show -2147483648 ≤ a3.toInt + 1 ∧ a3.toInt + 1 ≤ 2147483647; omega) (fun z35165 h35166 => ?_)
                have h35166 : z35165.toInt = a3.toInt + 1 := h35166
                refine g_callVV (rest := []) C mv_X2_58 [.int z35159, .int z35163, .int z35165] (s_X2_seek_L3 Iy35145 h35148 (by omega) (by omega)) (h35148).1 (h35148).2 rfl rfl (by decide) (Nat.le_of_ble_eq_true rfl) (by decide) dX2_seek_156 (fun Y35168 h35169 => ?_)
                obtain ⟨Iy35170, Xy35171⟩ := h35169
                have Xz35172 : EK [0, 2, 13] P Y35168 := Xz35147.tr (Xy35171.mono (by decide))
                have h35173 := Xy35171.at h35148
                refine g_lv (lv' := [(0, .ref a0), (5, .int z35116), (6, .int z35122)]) [3, 1, 0] rfl ?_
                exact J159 Y35168 z35116 z35122 Iy35170 Xz35172 (by omega) (by omega)
          · have h35102 : z35100.toInt < z35091.toInt := h35102
            exact ret _ _ _ _ _ dX2_seek_70 (by decide) (by decide) ⟨I, EK.rf⟩
    · have h35097 : z35091.toInt = 0 := congrArg Int32.toInt h35097
      refine g_aload_n C dX2_seek_41 rfl 1 rfl ?_
      refine g_iload_n C dX2_seek_42 rfl 4 rfl ?_
      refine g_putI C fi_X2_45 rfl (ha0).1 (ha0).2 dX2_seek_43 ?_
      refine gpW (ks := [2]) (I.setI (ha0) (rgOk.of rfl (by omega))) (EK.setI (ha0).2 (by decide)) (fun Y35174 Iy35175 Xy35176 w35177 w35178 => ?_)
      have q35179 := w35177 4 (by decide)
      have q35180 := Xy35176.keep (h35083.at) (by decide) 2
      have q35181 := Xy35176.keep (h35087.at) (by decide) 2
      have Xz35182 : EK [0, 2, 13] P Y35174 := Xy35176.mono (by decide)
      have h35183 := Xy35176.at ha0
      refine g_aload_n C dX2_seek_46 rfl 1 rfl ?_
      refine g_iload_n C dX2_seek_47 rfl 3 rfl ?_
      refine g_putI C fi_X2_48 rfl (h35183).1 (h35183).2 dX2_seek_48 ?_
      refine gpW (ks := [2]) (Iy35175.setI (h35183) (rgOk.none rfl)) (EK.setI (h35183).2 (by decide)) (fun Y35184 Iy35185 Xy35186 w35187 w35188 => ?_)
      have q35189 := w35187 4 (by decide)
      have q35190 := w35187 5 (by decide)
      have Xz35191 : EK [0, 2, 13] P Y35184 := Xz35182.tr (Xy35186.mono (by decide))
      have h35192 := Xy35186.at h35183
      exact ret _ _ _ _ _ dX2_seek_51 (by decide) (by decide) ⟨Iy35185, Xz35191⟩
  · have h35096 : (pI P a0 5).toInt ≤ z35093.toInt := h35096
    exact ret _ _ _ _ _ dX2_seek_35 (by decide) (by decide) ⟨I, EK.rf⟩
set_option maxHeartbeats 4000000 in
set_option maxRecDepth 100000 in
theorem s_X2_seek_L5 {P : PP} {a0 : Nat} {a1 : Int32} {a2 : Int32} {a3 : Int32} (I : IV P) (ha0 : At P a0 2) (ha1 : 4 ≤ a1.toInt ∧ a1.toInt ≤ 4) (ha3 : 0 ≤ a3.toInt ∧ a3.toInt ≤ 6) : CtrV yX2_seek cX2_seek 7 none ({ frames := 7, cells := 0, slots := 0, locals := 448 } : Room) 0 0 P [.ref a0, .int a1, .int a2, .int a3] (fun P2 => IV P2 ∧ EK [0, 2, 13] P P2) := by
  refine enV (lv := [(0, .ref a0), (1, .int a1), (2, .int a2), (3, .int a3)]) (by decide) (Nat.le_of_ble_eq_true rfl) rfl (fun E D cy C Ci0 ret => ?_)
  have J159 : ∀ (P159 : PP) (v159_5 : Int32) (v159_6 : Int32), (IV P159) → (EK [0, 2, 13] P P159) → (0 ≤ v159_5.toInt ∧ v159_5.toInt ≤ 20) → (0 ≤ v159_6.toInt ∧ v159_6.toInt ≤ 20) → G E ({ frames := 7, cells := 0, slots := 0, locals := 448 } : Room) D cy 7 P159 0 0 159 [(0, .ref a0), (5, .int v159_5), (6, .int v159_6)] [] := by
    intro P159 v159_5 v159_6 I159 X159 hv159_5 hv159_6
    have h35327 := X159.at ha0
    refine g_aload_n C dX2_seek_159 rfl 0 rfl ?_
    obtain ⟨b35328, e35329, h35330⟩ := I159.fld (h35327) 2 0 0 rfl
    refine g_getR C fi_X2_21 rfl e35329 (h35327).1 (h35327).2 dX2_seek_160 ?_
    refine g_iload C dX2_seek_163 1 rfl ?_
    refine g_callVV (rest := []) C mv_X2_75 [.int v159_5] (s_X0_cut I159 h35330.at) (h35330.at).1 (h35330.at).2 rfl rfl (by decide) (Nat.le_of_ble_eq_true rfl) (by decide) dX2_seek_165 (fun Y35332 h35333 => ?_)
    obtain ⟨Iy35334, Xy35335⟩ := h35333
    have Xz35336 : EK [0, 2, 13] P Y35332 := X159.tr (Xy35335.mono (by decide))
    have h35337 := Xy35335.at h35327
    refine g_aload_n C dX2_seek_168 rfl 0 rfl ?_
    obtain ⟨b35338, e35339, h35340⟩ := Iy35334.fld (h35337) 3 0 0 rfl
    refine g_getR C fi_X2_25 rfl e35339 (h35337).1 (h35337).2 dX2_seek_169 ?_
    refine g_iload C dX2_seek_172 2 rfl ?_
    refine g_callVV (rest := []) C mv_X2_75 [.int v159_6] (s_X0_cut Iy35334 h35340.at) (h35340.at).1 (h35340.at).2 rfl rfl (by decide) (Nat.le_of_ble_eq_true rfl) (by decide) dX2_seek_174 (fun Y35342 h35343 => ?_)
    obtain ⟨Iy35344, Xy35345⟩ := h35343
    have Xz35346 : EK [0, 2, 13] P Y35342 := Xz35336.tr (Xy35345.mono (by decide))
    have h35347 := Xy35345.at h35337
    exact ret _ _ _ _ _ dX2_seek_177 (by decide) (by decide) ⟨Iy35344, Xz35346⟩
  refine g_aload_n C dX2_seek_0 rfl 0 rfl ?_
  refine g_getI C fi_X2_42 (by decide) (ha0).1 (ha0).2 dX2_seek_1 ?_
  have h35348 := I.rg (ha0) 4 rfl
  refine g_aload_n C dX2_seek_4 rfl 0 rfl ?_
  obtain ⟨b35349, e35350, h35351⟩ := I.fld (ha0) 2 0 0 rfl
  refine g_getR C fi_X2_21 rfl e35350 (ha0).1 (ha0).2 dX2_seek_5 ?_
  refine g_getI C fi_X2_62 (by decide) (h35351.at).1 (h35351.at).2 dX2_seek_8 ?_
  have h35352 := I.rg (h35351.at) 2 rfl
  refine g_aload_n C dX2_seek_11 rfl 0 rfl ?_
  obtain ⟨b35353, e35354, h35355⟩ := I.fld (ha0) 3 0 0 rfl
  refine g_getR C fi_X2_25 rfl e35354 (ha0).1 (ha0).2 dX2_seek_12 ?_
  refine g_getI C fi_X2_62 (by decide) (h35355.at).1 (h35355.at).2 dX2_seek_15 ?_
  have h35356 := I.rg (h35355.at) 2 rfl
  refine g_mmin C ms_X2_65 (by decide) (by decide) (Nat.le_of_ble_eq_true rfl) (by decide) dX2_seek_18 (fun z35357 h35358 => ?_)
  have h35358 : z35357.toInt ≤ (pI P b35349 2).toInt ∧ z35357.toInt ≤ (pI P b35353 2).toInt ∧ (z35357.toInt = (pI P b35349 2).toInt ∨ z35357.toInt = (pI P b35353 2).toInt) := h35358
  refine s_isub C dX2_seek_21 (by show -2147483648 ≤ (pI P a0 4).toInt - z35357.toInt ∧ (pI P a0 4).toInt - z35357.toInt ≤ 2147483647; omega) (fun z35359 h35360 => ?_)
  have h35360 : z35359.toInt = (pI P a0 4).toInt - z35357.toInt := h35360
  refine g_istore (lv' := [(4, .int z35359), (0, .ref a0), (1, .int a1), (2, .int a2), (3, .int a3)]) C dX2_seek_22 (by decide) rfl ?_
  refine g_iload_n C dX2_seek_24 rfl 4 rfl ?_
  refine g_iload C dX2_seek_25 0 rfl ?_
  refine s_iadd C dX2_seek_27 (by show -2147483648 ≤ a3.toInt + z35359.toInt ∧ a3.toInt + z35359.toInt ≤ 2147483647; omega) (fun z35361 h35362 => ?_)
  have h35362 : z35361.toInt = a3.toInt + z35359.toInt := h35362
  refine g_aload_n C dX2_seek_28 rfl 1 rfl ?_
  refine g_getI C fi_X2_45 (by decide) (ha0).1 (ha0).2 dX2_seek_29 ?_
  have h35363 := I.rg (ha0) 5 rfl
  refine b_icmp_lt C 36 dX2_seek_32 (by decide) (fun h35364 => ?_) (fun h35364 => ?_)
  · have h35364 : z35361.toInt < (pI P a0 5).toInt := h35364
    refine g_iload C dX2_seek_36 0 rfl ?_
    refine b_if_ne C 52 dX2_seek_38 (by decide) (fun h35365 => ?_) (fun h35365 => ?_)
    · have h35365 : z35359.toInt ≠ 0 := ti_ne h35365
      refine g_iload_n C dX2_seek_52 rfl 2 rfl ?_
      refine b_if_lt C 70 dX2_seek_53 (by decide) (fun h35366 => ?_) (fun h35366 => ?_)
      · have h35366 : a1.toInt < 0 := h35366
        omega
      · have h35366 : 0 ≤ a1.toInt := h35366
        refine g_iload_n C dX2_seek_56 rfl 2 rfl ?_
        refine g_bipush (v := 11) C dX2_seek_57 (by decide) ?_
        refine b_icmp_ge C 70 dX2_seek_59 (by decide) (fun h35367 => ?_) (fun h35367 => ?_)
        · have h35367 : 11 ≤ a1.toInt := h35367
          omega
        · have h35367 : a1.toInt < 11 := h35367
          refine g_iload C dX2_seek_62 0 rfl ?_
          refine g_iload_n C dX2_seek_64 rfl 2 rfl ?_
          refine g_iconst (v := 1) C dX2_seek_65 (by decide) ?_
          refine s_iadd C dX2_seek_66 (by show -2147483648 ≤ a1.toInt + 1 ∧ a1.toInt + 1 ≤ 2147483647; omega) (fun z35368 h35369 => ?_)
          have h35369 : z35368.toInt = a1.toInt + 1 := h35369
          refine b_icmp_le C 71 dX2_seek_67 (by decide) (fun h35370 => ?_) (fun h35370 => ?_)
          · have h35370 : z35359.toInt ≤ z35368.toInt := h35370
            refine g_aload_n C dX2_seek_71 rfl 1 rfl ?_
            refine g_iload_n C dX2_seek_72 rfl 2 rfl ?_
            refine g_iconst (v := 1) C dX2_seek_73 (by decide) ?_
            refine s_isub C dX2_seek_74 (by show -2147483648 ≤ a1.toInt - 1 ∧ a1.toInt - 1 ≤ 2147483647; omega) (fun z35371 h35372 => ?_)
            have h35372 : z35371.toInt = a1.toInt - 1 := h35372
            refine g_iload_n C dX2_seek_75 rfl 3 rfl ?_
            refine g_iload_n C dX2_seek_76 rfl 4 rfl ?_
            refine g_callVV (rest := []) C mv_X2_58 [.int z35371, .int a2, .int a3] (s_X2_seek_L4 I ha0 (by omega) (by omega)) (ha0).1 (ha0).2 rfl rfl (by decide) (Nat.le_of_ble_eq_true rfl) (by decide) dX2_seek_77 (fun Y35374 h35375 => ?_)
            obtain ⟨Iy35376, Xy35377⟩ := h35375
            have Xz35378 : EK [0, 2, 13] P Y35374 := Xy35377.mono (by decide)
            have h35379 := Xy35377.at ha0
            refine g_aload_n C dX2_seek_80 rfl 1 rfl ?_
            obtain ⟨b35380, e35381, h35382⟩ := Iy35376.fld (h35379) 2 0 0 rfl
            refine g_getR C fi_X2_21 rfl e35381 (h35379).1 (h35379).2 dX2_seek_81 ?_
            refine g_getI C fi_X2_62 (by decide) (h35382.at).1 (h35382.at).2 dX2_seek_84 ?_
            have h35383 := Iy35376.rg (h35382.at) 2 rfl
            refine g_topi (fun z35384 h35385 => ?_)
            have h35385 : z35384.toInt = (pI Y35374 b35380 2).toInt := congrArg Int32.toInt h35385
            refine g_istore (lv' := [(5, .int z35384), (4, .int z35359), (0, .ref a0), (1, .int a1), (2, .int a2), (3, .int a3)]) C dX2_seek_87 (by decide) rfl ?_
            refine g_aload_n C dX2_seek_89 rfl 2 rfl ?_
            obtain ⟨b35386, e35387, h35388⟩ := Iy35376.fld (h35379) 3 0 0 rfl
            refine g_getR C fi_X2_25 rfl e35387 (h35379).1 (h35379).2 dX2_seek_90 ?_
            refine g_getI C fi_X2_62 (by decide) (h35388.at).1 (h35388.at).2 dX2_seek_93 ?_
            have h35389 := Iy35376.rg (h35388.at) 2 rfl
            refine g_topi (fun z35390 h35391 => ?_)
            have h35391 : z35390.toInt = (pI Y35374 b35386 2).toInt := congrArg Int32.toInt h35391
            refine g_istore (lv' := [(6, .int z35390), (5, .int z35384), (4, .int z35359), (0, .ref a0), (1, .int a1), (2, .int a2), (3, .int a3)]) C dX2_seek_96 (by decide) rfl ?_
            refine g_aload_n C dX2_seek_98 rfl 3 rfl ?_
            refine g_getR C fi_X2_21 rfl e35381 (h35379).1 (h35379).2 dX2_seek_99 ?_
            refine g_aload_n C dX2_seek_102 rfl 3 rfl ?_
            obtain ⟨b35392, e35393, h35394⟩ := Iy35376.fld (h35379) 0 13 11 rfl
            refine g_getR C fi_X2_9 rfl e35393 (h35379).1 (h35379).2 dX2_seek_103 ?_
            refine g_iload_n C dX2_seek_106 rfl 4 rfl ?_
            refine g_iald (j := (a1.toInt.toNat)) C h35394.1 h35394.2.1 (ix_in h35394.2.2 (by omega)) dX2_seek_107 ?_
            refine g_topi (fun z35395 _ => ?_)
            refine g_callVV (rest := []) C mv_X2_71 [.int z35395] (s_X0_add Iy35376 h35382.at) (h35382.at).1 (h35382.at).2 rfl rfl (by decide) (Nat.le_of_ble_eq_true rfl) (by decide) dX2_seek_108 (fun Y35397 h35398 => ?_)
            obtain ⟨Iy35399, Xy35400⟩ := h35398
            have Xz35401 : EK [0, 2, 13] P Y35397 := Xz35378.tr (Xy35400.mono (by decide))
            have h35402 := Xy35400.at h35379
            refine g_aload_n C dX2_seek_111 rfl 3 rfl ?_
            obtain ⟨b35403, e35404, h35405⟩ := Iy35399.fld (h35402) 3 0 0 rfl
            refine g_getR C fi_X2_25 rfl e35404 (h35402).1 (h35402).2 dX2_seek_112 ?_
            refine g_aload_n C dX2_seek_115 rfl 3 rfl ?_
            obtain ⟨b35406, e35407, h35408⟩ := Iy35399.fld (h35402) 1 13 11 rfl
            refine g_getR C fi_X2_15 rfl e35407 (h35402).1 (h35402).2 dX2_seek_116 ?_
            refine g_iload_n C dX2_seek_119 rfl 4 rfl ?_
            refine g_iald (j := (a1.toInt.toNat)) C h35408.1 h35408.2.1 (ix_in h35408.2.2 (by omega)) dX2_seek_120 ?_
            refine g_topi (fun z35409 _ => ?_)
            refine g_callVV (rest := []) C mv_X2_71 [.int z35409] (s_X0_add Iy35399 h35405.at) (h35405.at).1 (h35405.at).2 rfl rfl (by decide) (Nat.le_of_ble_eq_true rfl) (by decide) dX2_seek_121 (fun Y35411 h35412 => ?_)
            obtain ⟨Iy35413, Xy35414⟩ := h35412
            have Xz35415 : EK [0, 2, 13] P Y35411 := Xz35401.tr (Xy35414.mono (by decide))
            have h35416 := Xy35414.at h35402
            refine g_aload_n C dX2_seek_124 rfl 3 rfl ?_
            obtain ⟨b35417, e35418, h35419⟩ := Iy35413.fld (h35416) 2 0 0 rfl
            refine g_getR C fi_X2_21 rfl e35418 (h35416).1 (h35416).2 dX2_seek_125 ?_
            refine g_getI C fi_X2_32 (by decide) (h35419.at).1 (h35419.at).2 dX2_seek_128 ?_
            have h35420 := Iy35413.rg (h35419.at) 3 rfl
            refine b_if_eq C 159 dX2_seek_131 (by decide) (fun h35421 => ?_) (fun h35421 => ?_)
            · have h35421 : (pI Y35411 b35417 3).toInt = 0 := congrArg Int32.toInt h35421
              refine g_lv (lv' := [(0, .ref a0), (5, .int z35384), (6, .int z35390)]) [3, 1, 0] rfl ?_
              exact J159 Y35411 z35384 z35390 Iy35413 Xz35415 (by omega) (by omega)
            · have h35421 : (pI Y35411 b35417 3).toInt ≠ 0 := ti_ne h35421
              refine g_aload_n C dX2_seek_134 rfl 3 rfl ?_
              obtain ⟨b35422, e35423, h35424⟩ := Iy35413.fld (h35416) 3 0 0 rfl
              refine g_getR C fi_X2_25 rfl e35423 (h35416).1 (h35416).2 dX2_seek_135 ?_
              refine g_getI C fi_X2_32 (by decide) (h35424.at).1 (h35424.at).2 dX2_seek_138 ?_
              have h35425 := Iy35413.rg (h35424.at) 3 rfl
              refine b_if_eq C 159 dX2_seek_141 (by decide) (fun h35426 => ?_) (fun h35426 => ?_)
              · have h35426 : (pI Y35411 b35422 3).toInt = 0 := congrArg Int32.toInt h35426
                refine g_lv (lv' := [(0, .ref a0), (5, .int z35384), (6, .int z35390)]) [3, 1, 0] rfl ?_
                exact J159 Y35411 z35384 z35390 Iy35413 Xz35415 (by omega) (by omega)
              · have h35426 : (pI Y35411 b35422 3).toInt ≠ 0 := ti_ne h35426
                refine g_aload_n C dX2_seek_144 rfl 3 rfl ?_
                refine g_iload_n C dX2_seek_145 rfl 4 rfl ?_
                refine g_iconst (v := 1) C dX2_seek_146 (by decide) ?_
                refine s_isub C dX2_seek_147 (by show -2147483648 ≤ a1.toInt - 1 ∧ a1.toInt - 1 ≤ 2147483647; omega) (fun z35427 h35428 => ?_)
                have h35428 : z35427.toInt = a1.toInt - 1 := h35428
                refine g_iload_n C dX2_seek_148 rfl 5 rfl ?_
                refine g_iconst (v := 1) C dX2_seek_149 (by decide) ?_
                refine g_iload_n C dX2_seek_150 rfl 4 rfl ?_
                refine a_ishl C dX2_seek_151 (fun z35429 => ?_)
                refine a_ior C dX2_seek_152 (fun z35431 => ?_)
                refine g_iload_n C dX2_seek_153 rfl 6 rfl ?_
                refine g_iconst (v := 1) C dX2_seek_154 (by decide) ?_
                refine s_iadd C dX2_seek_155 (by show -2147483648 ≤ a3.toInt + 1 ∧ a3.toInt + 1 ≤ 2147483647; omega) (fun z35433 h35434 => ?_)
                have h35434 : z35433.toInt = a3.toInt + 1 := h35434
                refine g_callVV (rest := []) C mv_X2_58 [.int z35427, .int z35431, .int z35433] (s_X2_seek_L4 Iy35413 h35416 (by omega) (by omega)) (h35416).1 (h35416).2 rfl rfl (by decide) (Nat.le_of_ble_eq_true rfl) (by decide) dX2_seek_156 (fun Y35436 h35437 => ?_)
                obtain ⟨Iy35438, Xy35439⟩ := h35437
                have Xz35440 : EK [0, 2, 13] P Y35436 := Xz35415.tr (Xy35439.mono (by decide))
                have h35441 := Xy35439.at h35416
                refine g_lv (lv' := [(0, .ref a0), (5, .int z35384), (6, .int z35390)]) [3, 1, 0] rfl ?_
                exact J159 Y35436 z35384 z35390 Iy35438 Xz35440 (by omega) (by omega)
          · have h35370 : z35368.toInt < z35359.toInt := h35370
            exact ret _ _ _ _ _ dX2_seek_70 (by decide) (by decide) ⟨I, EK.rf⟩
    · have h35365 : z35359.toInt = 0 := congrArg Int32.toInt h35365
      refine g_aload_n C dX2_seek_41 rfl 1 rfl ?_
      refine g_iload_n C dX2_seek_42 rfl 4 rfl ?_
      refine g_putI C fi_X2_45 rfl (ha0).1 (ha0).2 dX2_seek_43 ?_
      refine gpW (ks := [2]) (I.setI (ha0) (rgOk.of rfl (by omega))) (EK.setI (ha0).2 (by decide)) (fun Y35442 Iy35443 Xy35444 w35445 w35446 => ?_)
      have q35447 := w35445 4 (by decide)
      have q35448 := Xy35444.keep (h35351.at) (by decide) 2
      have q35449 := Xy35444.keep (h35355.at) (by decide) 2
      have Xz35450 : EK [0, 2, 13] P Y35442 := Xy35444.mono (by decide)
      have h35451 := Xy35444.at ha0
      refine g_aload_n C dX2_seek_46 rfl 1 rfl ?_
      refine g_iload_n C dX2_seek_47 rfl 3 rfl ?_
      refine g_putI C fi_X2_48 rfl (h35451).1 (h35451).2 dX2_seek_48 ?_
      refine gpW (ks := [2]) (Iy35443.setI (h35451) (rgOk.none rfl)) (EK.setI (h35451).2 (by decide)) (fun Y35452 Iy35453 Xy35454 w35455 w35456 => ?_)
      have q35457 := w35455 4 (by decide)
      have q35458 := w35455 5 (by decide)
      have Xz35459 : EK [0, 2, 13] P Y35452 := Xz35450.tr (Xy35454.mono (by decide))
      have h35460 := Xy35454.at h35451
      exact ret _ _ _ _ _ dX2_seek_51 (by decide) (by decide) ⟨Iy35453, Xz35459⟩
  · have h35364 : (pI P a0 5).toInt ≤ z35361.toInt := h35364
    exact ret _ _ _ _ _ dX2_seek_35 (by decide) (by decide) ⟨I, EK.rf⟩
set_option maxHeartbeats 4000000 in
set_option maxRecDepth 100000 in
theorem s_X2_seek_L6 {P : PP} {a0 : Nat} {a1 : Int32} {a2 : Int32} {a3 : Int32} (I : IV P) (ha0 : At P a0 2) (ha1 : 5 ≤ a1.toInt ∧ a1.toInt ≤ 5) (ha3 : 0 ≤ a3.toInt ∧ a3.toInt ≤ 5) : CtrV yX2_seek cX2_seek 7 none ({ frames := 8, cells := 0, slots := 0, locals := 512 } : Room) 0 0 P [.ref a0, .int a1, .int a2, .int a3] (fun P2 => IV P2 ∧ EK [0, 2, 13] P P2) := by
  refine enV (lv := [(0, .ref a0), (1, .int a1), (2, .int a2), (3, .int a3)]) (by decide) (Nat.le_of_ble_eq_true rfl) rfl (fun E D cy C Ci0 ret => ?_)
  have J159 : ∀ (P159 : PP) (v159_5 : Int32) (v159_6 : Int32), (IV P159) → (EK [0, 2, 13] P P159) → (0 ≤ v159_5.toInt ∧ v159_5.toInt ≤ 20) → (0 ≤ v159_6.toInt ∧ v159_6.toInt ≤ 20) → G E ({ frames := 8, cells := 0, slots := 0, locals := 512 } : Room) D cy 7 P159 0 0 159 [(0, .ref a0), (5, .int v159_5), (6, .int v159_6)] [] := by
    intro P159 v159_5 v159_6 I159 X159 hv159_5 hv159_6
    have h35595 := X159.at ha0
    refine g_aload_n C dX2_seek_159 rfl 0 rfl ?_
    obtain ⟨b35596, e35597, h35598⟩ := I159.fld (h35595) 2 0 0 rfl
    refine g_getR C fi_X2_21 rfl e35597 (h35595).1 (h35595).2 dX2_seek_160 ?_
    refine g_iload C dX2_seek_163 1 rfl ?_
    refine g_callVV (rest := []) C mv_X2_75 [.int v159_5] (s_X0_cut I159 h35598.at) (h35598.at).1 (h35598.at).2 rfl rfl (by decide) (Nat.le_of_ble_eq_true rfl) (by decide) dX2_seek_165 (fun Y35600 h35601 => ?_)
    obtain ⟨Iy35602, Xy35603⟩ := h35601
    have Xz35604 : EK [0, 2, 13] P Y35600 := X159.tr (Xy35603.mono (by decide))
    have h35605 := Xy35603.at h35595
    refine g_aload_n C dX2_seek_168 rfl 0 rfl ?_
    obtain ⟨b35606, e35607, h35608⟩ := Iy35602.fld (h35605) 3 0 0 rfl
    refine g_getR C fi_X2_25 rfl e35607 (h35605).1 (h35605).2 dX2_seek_169 ?_
    refine g_iload C dX2_seek_172 2 rfl ?_
    refine g_callVV (rest := []) C mv_X2_75 [.int v159_6] (s_X0_cut Iy35602 h35608.at) (h35608.at).1 (h35608.at).2 rfl rfl (by decide) (Nat.le_of_ble_eq_true rfl) (by decide) dX2_seek_174 (fun Y35610 h35611 => ?_)
    obtain ⟨Iy35612, Xy35613⟩ := h35611
    have Xz35614 : EK [0, 2, 13] P Y35610 := Xz35604.tr (Xy35613.mono (by decide))
    have h35615 := Xy35613.at h35605
    exact ret _ _ _ _ _ dX2_seek_177 (by decide) (by decide) ⟨Iy35612, Xz35614⟩
  refine g_aload_n C dX2_seek_0 rfl 0 rfl ?_
  refine g_getI C fi_X2_42 (by decide) (ha0).1 (ha0).2 dX2_seek_1 ?_
  have h35616 := I.rg (ha0) 4 rfl
  refine g_aload_n C dX2_seek_4 rfl 0 rfl ?_
  obtain ⟨b35617, e35618, h35619⟩ := I.fld (ha0) 2 0 0 rfl
  refine g_getR C fi_X2_21 rfl e35618 (ha0).1 (ha0).2 dX2_seek_5 ?_
  refine g_getI C fi_X2_62 (by decide) (h35619.at).1 (h35619.at).2 dX2_seek_8 ?_
  have h35620 := I.rg (h35619.at) 2 rfl
  refine g_aload_n C dX2_seek_11 rfl 0 rfl ?_
  obtain ⟨b35621, e35622, h35623⟩ := I.fld (ha0) 3 0 0 rfl
  refine g_getR C fi_X2_25 rfl e35622 (ha0).1 (ha0).2 dX2_seek_12 ?_
  refine g_getI C fi_X2_62 (by decide) (h35623.at).1 (h35623.at).2 dX2_seek_15 ?_
  have h35624 := I.rg (h35623.at) 2 rfl
  refine g_mmin C ms_X2_65 (by decide) (by decide) (Nat.le_of_ble_eq_true rfl) (by decide) dX2_seek_18 (fun z35625 h35626 => ?_)
  have h35626 : z35625.toInt ≤ (pI P b35617 2).toInt ∧ z35625.toInt ≤ (pI P b35621 2).toInt ∧ (z35625.toInt = (pI P b35617 2).toInt ∨ z35625.toInt = (pI P b35621 2).toInt) := h35626
  refine s_isub C dX2_seek_21 (by show -2147483648 ≤ (pI P a0 4).toInt - z35625.toInt ∧ (pI P a0 4).toInt - z35625.toInt ≤ 2147483647; omega) (fun z35627 h35628 => ?_)
  have h35628 : z35627.toInt = (pI P a0 4).toInt - z35625.toInt := h35628
  refine g_istore (lv' := [(4, .int z35627), (0, .ref a0), (1, .int a1), (2, .int a2), (3, .int a3)]) C dX2_seek_22 (by decide) rfl ?_
  refine g_iload_n C dX2_seek_24 rfl 4 rfl ?_
  refine g_iload C dX2_seek_25 0 rfl ?_
  refine s_iadd C dX2_seek_27 (by show -2147483648 ≤ a3.toInt + z35627.toInt ∧ a3.toInt + z35627.toInt ≤ 2147483647; omega) (fun z35629 h35630 => ?_)
  have h35630 : z35629.toInt = a3.toInt + z35627.toInt := h35630
  refine g_aload_n C dX2_seek_28 rfl 1 rfl ?_
  refine g_getI C fi_X2_45 (by decide) (ha0).1 (ha0).2 dX2_seek_29 ?_
  have h35631 := I.rg (ha0) 5 rfl
  refine b_icmp_lt C 36 dX2_seek_32 (by decide) (fun h35632 => ?_) (fun h35632 => ?_)
  · have h35632 : z35629.toInt < (pI P a0 5).toInt := h35632
    refine g_iload C dX2_seek_36 0 rfl ?_
    refine b_if_ne C 52 dX2_seek_38 (by decide) (fun h35633 => ?_) (fun h35633 => ?_)
    · have h35633 : z35627.toInt ≠ 0 := ti_ne h35633
      refine g_iload_n C dX2_seek_52 rfl 2 rfl ?_
      refine b_if_lt C 70 dX2_seek_53 (by decide) (fun h35634 => ?_) (fun h35634 => ?_)
      · have h35634 : a1.toInt < 0 := h35634
        omega
      · have h35634 : 0 ≤ a1.toInt := h35634
        refine g_iload_n C dX2_seek_56 rfl 2 rfl ?_
        refine g_bipush (v := 11) C dX2_seek_57 (by decide) ?_
        refine b_icmp_ge C 70 dX2_seek_59 (by decide) (fun h35635 => ?_) (fun h35635 => ?_)
        · have h35635 : 11 ≤ a1.toInt := h35635
          omega
        · have h35635 : a1.toInt < 11 := h35635
          refine g_iload C dX2_seek_62 0 rfl ?_
          refine g_iload_n C dX2_seek_64 rfl 2 rfl ?_
          refine g_iconst (v := 1) C dX2_seek_65 (by decide) ?_
          refine s_iadd C dX2_seek_66 (by show -2147483648 ≤ a1.toInt + 1 ∧ a1.toInt + 1 ≤ 2147483647; omega) (fun z35636 h35637 => ?_)
          have h35637 : z35636.toInt = a1.toInt + 1 := h35637
          refine b_icmp_le C 71 dX2_seek_67 (by decide) (fun h35638 => ?_) (fun h35638 => ?_)
          · have h35638 : z35627.toInt ≤ z35636.toInt := h35638
            refine g_aload_n C dX2_seek_71 rfl 1 rfl ?_
            refine g_iload_n C dX2_seek_72 rfl 2 rfl ?_
            refine g_iconst (v := 1) C dX2_seek_73 (by decide) ?_
            refine s_isub C dX2_seek_74 (by show -2147483648 ≤ a1.toInt - 1 ∧ a1.toInt - 1 ≤ 2147483647; omega) (fun z35639 h35640 => ?_)
            have h35640 : z35639.toInt = a1.toInt - 1 := h35640
            refine g_iload_n C dX2_seek_75 rfl 3 rfl ?_
            refine g_iload_n C dX2_seek_76 rfl 4 rfl ?_
            refine g_callVV (rest := []) C mv_X2_58 [.int z35639, .int a2, .int a3] (s_X2_seek_L5 I ha0 (by omega) (by omega)) (ha0).1 (ha0).2 rfl rfl (by decide) (Nat.le_of_ble_eq_true rfl) (by decide) dX2_seek_77 (fun Y35642 h35643 => ?_)
            obtain ⟨Iy35644, Xy35645⟩ := h35643
            have Xz35646 : EK [0, 2, 13] P Y35642 := Xy35645.mono (by decide)
            have h35647 := Xy35645.at ha0
            refine g_aload_n C dX2_seek_80 rfl 1 rfl ?_
            obtain ⟨b35648, e35649, h35650⟩ := Iy35644.fld (h35647) 2 0 0 rfl
            refine g_getR C fi_X2_21 rfl e35649 (h35647).1 (h35647).2 dX2_seek_81 ?_
            refine g_getI C fi_X2_62 (by decide) (h35650.at).1 (h35650.at).2 dX2_seek_84 ?_
            have h35651 := Iy35644.rg (h35650.at) 2 rfl
            refine g_topi (fun z35652 h35653 => ?_)
            have h35653 : z35652.toInt = (pI Y35642 b35648 2).toInt := congrArg Int32.toInt h35653
            refine g_istore (lv' := [(5, .int z35652), (4, .int z35627), (0, .ref a0), (1, .int a1), (2, .int a2), (3, .int a3)]) C dX2_seek_87 (by decide) rfl ?_
            refine g_aload_n C dX2_seek_89 rfl 2 rfl ?_
            obtain ⟨b35654, e35655, h35656⟩ := Iy35644.fld (h35647) 3 0 0 rfl
            refine g_getR C fi_X2_25 rfl e35655 (h35647).1 (h35647).2 dX2_seek_90 ?_
            refine g_getI C fi_X2_62 (by decide) (h35656.at).1 (h35656.at).2 dX2_seek_93 ?_
            have h35657 := Iy35644.rg (h35656.at) 2 rfl
            refine g_topi (fun z35658 h35659 => ?_)
            have h35659 : z35658.toInt = (pI Y35642 b35654 2).toInt := congrArg Int32.toInt h35659
            refine g_istore (lv' := [(6, .int z35658), (5, .int z35652), (4, .int z35627), (0, .ref a0), (1, .int a1), (2, .int a2), (3, .int a3)]) C dX2_seek_96 (by decide) rfl ?_
            refine g_aload_n C dX2_seek_98 rfl 3 rfl ?_
            refine g_getR C fi_X2_21 rfl e35649 (h35647).1 (h35647).2 dX2_seek_99 ?_
            refine g_aload_n C dX2_seek_102 rfl 3 rfl ?_
            obtain ⟨b35660, e35661, h35662⟩ := Iy35644.fld (h35647) 0 13 11 rfl
            refine g_getR C fi_X2_9 rfl e35661 (h35647).1 (h35647).2 dX2_seek_103 ?_
            refine g_iload_n C dX2_seek_106 rfl 4 rfl ?_
            refine g_iald (j := (a1.toInt.toNat)) C h35662.1 h35662.2.1 (ix_in h35662.2.2 (by omega)) dX2_seek_107 ?_
            refine g_topi (fun z35663 _ => ?_)
            refine g_callVV (rest := []) C mv_X2_71 [.int z35663] (s_X0_add Iy35644 h35650.at) (h35650.at).1 (h35650.at).2 rfl rfl (by decide) (Nat.le_of_ble_eq_true rfl) (by decide) dX2_seek_108 (fun Y35665 h35666 => ?_)
            obtain ⟨Iy35667, Xy35668⟩ := h35666
            have Xz35669 : EK [0, 2, 13] P Y35665 := Xz35646.tr (Xy35668.mono (by decide))
            have h35670 := Xy35668.at h35647
            refine g_aload_n C dX2_seek_111 rfl 3 rfl ?_
            obtain ⟨b35671, e35672, h35673⟩ := Iy35667.fld (h35670) 3 0 0 rfl
            refine g_getR C fi_X2_25 rfl e35672 (h35670).1 (h35670).2 dX2_seek_112 ?_
            refine g_aload_n C dX2_seek_115 rfl 3 rfl ?_
            obtain ⟨b35674, e35675, h35676⟩ := Iy35667.fld (h35670) 1 13 11 rfl
            refine g_getR C fi_X2_15 rfl e35675 (h35670).1 (h35670).2 dX2_seek_116 ?_
            refine g_iload_n C dX2_seek_119 rfl 4 rfl ?_
            refine g_iald (j := (a1.toInt.toNat)) C h35676.1 h35676.2.1 (ix_in h35676.2.2 (by omega)) dX2_seek_120 ?_
            refine g_topi (fun z35677 _ => ?_)
            refine g_callVV (rest := []) C mv_X2_71 [.int z35677] (s_X0_add Iy35667 h35673.at) (h35673.at).1 (h35673.at).2 rfl rfl (by decide) (Nat.le_of_ble_eq_true rfl) (by decide) dX2_seek_121 (fun Y35679 h35680 => ?_)
            obtain ⟨Iy35681, Xy35682⟩ := h35680
            have Xz35683 : EK [0, 2, 13] P Y35679 := Xz35669.tr (Xy35682.mono (by decide))
            have h35684 := Xy35682.at h35670
            refine g_aload_n C dX2_seek_124 rfl 3 rfl ?_
            obtain ⟨b35685, e35686, h35687⟩ := Iy35681.fld (h35684) 2 0 0 rfl
            refine g_getR C fi_X2_21 rfl e35686 (h35684).1 (h35684).2 dX2_seek_125 ?_
            refine g_getI C fi_X2_32 (by decide) (h35687.at).1 (h35687.at).2 dX2_seek_128 ?_
            have h35688 := Iy35681.rg (h35687.at) 3 rfl
            refine b_if_eq C 159 dX2_seek_131 (by decide) (fun h35689 => ?_) (fun h35689 => ?_)
            · have h35689 : (pI Y35679 b35685 3).toInt = 0 := congrArg Int32.toInt h35689
              refine g_lv (lv' := [(0, .ref a0), (5, .int z35652), (6, .int z35658)]) [3, 1, 0] rfl ?_
              exact J159 Y35679 z35652 z35658 Iy35681 Xz35683 (by omega) (by omega)
            · have h35689 : (pI Y35679 b35685 3).toInt ≠ 0 := ti_ne h35689
              refine g_aload_n C dX2_seek_134 rfl 3 rfl ?_
              obtain ⟨b35690, e35691, h35692⟩ := Iy35681.fld (h35684) 3 0 0 rfl
              refine g_getR C fi_X2_25 rfl e35691 (h35684).1 (h35684).2 dX2_seek_135 ?_
              refine g_getI C fi_X2_32 (by decide) (h35692.at).1 (h35692.at).2 dX2_seek_138 ?_
              have h35693 := Iy35681.rg (h35692.at) 3 rfl
              refine b_if_eq C 159 dX2_seek_141 (by decide) (fun h35694 => ?_) (fun h35694 => ?_)
              · have h35694 : (pI Y35679 b35690 3).toInt = 0 := congrArg Int32.toInt h35694
                refine g_lv (lv' := [(0, .ref a0), (5, .int z35652), (6, .int z35658)]) [3, 1, 0] rfl ?_
                exact J159 Y35679 z35652 z35658 Iy35681 Xz35683 (by omega) (by omega)
              · have h35694 : (pI Y35679 b35690 3).toInt ≠ 0 := ti_ne h35694
                refine g_aload_n C dX2_seek_144 rfl 3 rfl ?_
                refine g_iload_n C dX2_seek_145 rfl 4 rfl ?_
                refine g_iconst (v := 1) C dX2_seek_146 (by decide) ?_
                refine s_isub C dX2_seek_147 (by show -2147483648 ≤ a1.toInt - 1 ∧ a1.toInt - 1 ≤ 2147483647; omega) (fun z35695 h35696 => ?_)
                have h35696 : z35695.toInt = a1.toInt - 1 := h35696
                refine g_iload_n C dX2_seek_148 rfl 5 rfl ?_
                refine g_iconst (v := 1) C dX2_seek_149 (by decide) ?_
                refine g_iload_n C dX2_seek_150 rfl 4 rfl ?_
                refine a_ishl C dX2_seek_151 (fun z35697 => ?_)
                refine a_ior C dX2_seek_152 (fun z35699 => ?_)
                refine g_iload_n C dX2_seek_153 rfl 6 rfl ?_
                refine g_iconst (v := 1) C dX2_seek_154 (by decide) ?_
                refine s_iadd C dX2_seek_155 (by show -2147483648 ≤ a3.toInt + 1 ∧ a3.toInt + 1 ≤ 2147483647; omega) (fun z35701 h35702 => ?_)
                have h35702 : z35701.toInt = a3.toInt + 1 := h35702
                refine g_callVV (rest := []) C mv_X2_58 [.int z35695, .int z35699, .int z35701] (s_X2_seek_L5 Iy35681 h35684 (by omega) (by omega)) (h35684).1 (h35684).2 rfl rfl (by decide) (Nat.le_of_ble_eq_true rfl) (by decide) dX2_seek_156 (fun Y35704 h35705 => ?_)
                obtain ⟨Iy35706, Xy35707⟩ := h35705
                have Xz35708 : EK [0, 2, 13] P Y35704 := Xz35683.tr (Xy35707.mono (by decide))
                have h35709 := Xy35707.at h35684
                refine g_lv (lv' := [(0, .ref a0), (5, .int z35652), (6, .int z35658)]) [3, 1, 0] rfl ?_
                exact J159 Y35704 z35652 z35658 Iy35706 Xz35708 (by omega) (by omega)
          · have h35638 : z35636.toInt < z35627.toInt := h35638
            exact ret _ _ _ _ _ dX2_seek_70 (by decide) (by decide) ⟨I, EK.rf⟩
    · have h35633 : z35627.toInt = 0 := congrArg Int32.toInt h35633
      refine g_aload_n C dX2_seek_41 rfl 1 rfl ?_
      refine g_iload_n C dX2_seek_42 rfl 4 rfl ?_
      refine g_putI C fi_X2_45 rfl (ha0).1 (ha0).2 dX2_seek_43 ?_
      refine gpW (ks := [2]) (I.setI (ha0) (rgOk.of rfl (by omega))) (EK.setI (ha0).2 (by decide)) (fun Y35710 Iy35711 Xy35712 w35713 w35714 => ?_)
      have q35715 := w35713 4 (by decide)
      have q35716 := Xy35712.keep (h35619.at) (by decide) 2
      have q35717 := Xy35712.keep (h35623.at) (by decide) 2
      have Xz35718 : EK [0, 2, 13] P Y35710 := Xy35712.mono (by decide)
      have h35719 := Xy35712.at ha0
      refine g_aload_n C dX2_seek_46 rfl 1 rfl ?_
      refine g_iload_n C dX2_seek_47 rfl 3 rfl ?_
      refine g_putI C fi_X2_48 rfl (h35719).1 (h35719).2 dX2_seek_48 ?_
      refine gpW (ks := [2]) (Iy35711.setI (h35719) (rgOk.none rfl)) (EK.setI (h35719).2 (by decide)) (fun Y35720 Iy35721 Xy35722 w35723 w35724 => ?_)
      have q35725 := w35723 4 (by decide)
      have q35726 := w35723 5 (by decide)
      have Xz35727 : EK [0, 2, 13] P Y35720 := Xz35718.tr (Xy35722.mono (by decide))
      have h35728 := Xy35722.at h35719
      exact ret _ _ _ _ _ dX2_seek_51 (by decide) (by decide) ⟨Iy35721, Xz35727⟩
  · have h35632 : (pI P a0 5).toInt ≤ z35629.toInt := h35632
    exact ret _ _ _ _ _ dX2_seek_35 (by decide) (by decide) ⟨I, EK.rf⟩
set_option maxHeartbeats 4000000 in
set_option maxRecDepth 100000 in
theorem s_X2_seek_L7 {P : PP} {a0 : Nat} {a1 : Int32} {a2 : Int32} {a3 : Int32} (I : IV P) (ha0 : At P a0 2) (ha1 : 6 ≤ a1.toInt ∧ a1.toInt ≤ 6) (ha3 : 0 ≤ a3.toInt ∧ a3.toInt ≤ 4) : CtrV yX2_seek cX2_seek 7 none ({ frames := 9, cells := 0, slots := 0, locals := 576 } : Room) 0 0 P [.ref a0, .int a1, .int a2, .int a3] (fun P2 => IV P2 ∧ EK [0, 2, 13] P P2) := by
  refine enV (lv := [(0, .ref a0), (1, .int a1), (2, .int a2), (3, .int a3)]) (by decide) (Nat.le_of_ble_eq_true rfl) rfl (fun E D cy C Ci0 ret => ?_)
  have J159 : ∀ (P159 : PP) (v159_5 : Int32) (v159_6 : Int32), (IV P159) → (EK [0, 2, 13] P P159) → (0 ≤ v159_5.toInt ∧ v159_5.toInt ≤ 20) → (0 ≤ v159_6.toInt ∧ v159_6.toInt ≤ 20) → G E ({ frames := 9, cells := 0, slots := 0, locals := 576 } : Room) D cy 7 P159 0 0 159 [(0, .ref a0), (5, .int v159_5), (6, .int v159_6)] [] := by
    intro P159 v159_5 v159_6 I159 X159 hv159_5 hv159_6
    have h35863 := X159.at ha0
    refine g_aload_n C dX2_seek_159 rfl 0 rfl ?_
    obtain ⟨b35864, e35865, h35866⟩ := I159.fld (h35863) 2 0 0 rfl
    refine g_getR C fi_X2_21 rfl e35865 (h35863).1 (h35863).2 dX2_seek_160 ?_
    refine g_iload C dX2_seek_163 1 rfl ?_
    refine g_callVV (rest := []) C mv_X2_75 [.int v159_5] (s_X0_cut I159 h35866.at) (h35866.at).1 (h35866.at).2 rfl rfl (by decide) (Nat.le_of_ble_eq_true rfl) (by decide) dX2_seek_165 (fun Y35868 h35869 => ?_)
    obtain ⟨Iy35870, Xy35871⟩ := h35869
    have Xz35872 : EK [0, 2, 13] P Y35868 := X159.tr (Xy35871.mono (by decide))
    have h35873 := Xy35871.at h35863
    refine g_aload_n C dX2_seek_168 rfl 0 rfl ?_
    obtain ⟨b35874, e35875, h35876⟩ := Iy35870.fld (h35873) 3 0 0 rfl
    refine g_getR C fi_X2_25 rfl e35875 (h35873).1 (h35873).2 dX2_seek_169 ?_
    refine g_iload C dX2_seek_172 2 rfl ?_
    refine g_callVV (rest := []) C mv_X2_75 [.int v159_6] (s_X0_cut Iy35870 h35876.at) (h35876.at).1 (h35876.at).2 rfl rfl (by decide) (Nat.le_of_ble_eq_true rfl) (by decide) dX2_seek_174 (fun Y35878 h35879 => ?_)
    obtain ⟨Iy35880, Xy35881⟩ := h35879
    have Xz35882 : EK [0, 2, 13] P Y35878 := Xz35872.tr (Xy35881.mono (by decide))
    have h35883 := Xy35881.at h35873
    exact ret _ _ _ _ _ dX2_seek_177 (by decide) (by decide) ⟨Iy35880, Xz35882⟩
  refine g_aload_n C dX2_seek_0 rfl 0 rfl ?_
  refine g_getI C fi_X2_42 (by decide) (ha0).1 (ha0).2 dX2_seek_1 ?_
  have h35884 := I.rg (ha0) 4 rfl
  refine g_aload_n C dX2_seek_4 rfl 0 rfl ?_
  obtain ⟨b35885, e35886, h35887⟩ := I.fld (ha0) 2 0 0 rfl
  refine g_getR C fi_X2_21 rfl e35886 (ha0).1 (ha0).2 dX2_seek_5 ?_
  refine g_getI C fi_X2_62 (by decide) (h35887.at).1 (h35887.at).2 dX2_seek_8 ?_
  have h35888 := I.rg (h35887.at) 2 rfl
  refine g_aload_n C dX2_seek_11 rfl 0 rfl ?_
  obtain ⟨b35889, e35890, h35891⟩ := I.fld (ha0) 3 0 0 rfl
  refine g_getR C fi_X2_25 rfl e35890 (ha0).1 (ha0).2 dX2_seek_12 ?_
  refine g_getI C fi_X2_62 (by decide) (h35891.at).1 (h35891.at).2 dX2_seek_15 ?_
  have h35892 := I.rg (h35891.at) 2 rfl
  refine g_mmin C ms_X2_65 (by decide) (by decide) (Nat.le_of_ble_eq_true rfl) (by decide) dX2_seek_18 (fun z35893 h35894 => ?_)
  have h35894 : z35893.toInt ≤ (pI P b35885 2).toInt ∧ z35893.toInt ≤ (pI P b35889 2).toInt ∧ (z35893.toInt = (pI P b35885 2).toInt ∨ z35893.toInt = (pI P b35889 2).toInt) := h35894
  refine s_isub C dX2_seek_21 (by show -2147483648 ≤ (pI P a0 4).toInt - z35893.toInt ∧ (pI P a0 4).toInt - z35893.toInt ≤ 2147483647; omega) (fun z35895 h35896 => ?_)
  have h35896 : z35895.toInt = (pI P a0 4).toInt - z35893.toInt := h35896
  refine g_istore (lv' := [(4, .int z35895), (0, .ref a0), (1, .int a1), (2, .int a2), (3, .int a3)]) C dX2_seek_22 (by decide) rfl ?_
  refine g_iload_n C dX2_seek_24 rfl 4 rfl ?_
  refine g_iload C dX2_seek_25 0 rfl ?_
  refine s_iadd C dX2_seek_27 (by show -2147483648 ≤ a3.toInt + z35895.toInt ∧ a3.toInt + z35895.toInt ≤ 2147483647; omega) (fun z35897 h35898 => ?_)
  have h35898 : z35897.toInt = a3.toInt + z35895.toInt := h35898
  refine g_aload_n C dX2_seek_28 rfl 1 rfl ?_
  refine g_getI C fi_X2_45 (by decide) (ha0).1 (ha0).2 dX2_seek_29 ?_
  have h35899 := I.rg (ha0) 5 rfl
  refine b_icmp_lt C 36 dX2_seek_32 (by decide) (fun h35900 => ?_) (fun h35900 => ?_)
  · have h35900 : z35897.toInt < (pI P a0 5).toInt := h35900
    refine g_iload C dX2_seek_36 0 rfl ?_
    refine b_if_ne C 52 dX2_seek_38 (by decide) (fun h35901 => ?_) (fun h35901 => ?_)
    · have h35901 : z35895.toInt ≠ 0 := ti_ne h35901
      refine g_iload_n C dX2_seek_52 rfl 2 rfl ?_
      refine b_if_lt C 70 dX2_seek_53 (by decide) (fun h35902 => ?_) (fun h35902 => ?_)
      · have h35902 : a1.toInt < 0 := h35902
        omega
      · have h35902 : 0 ≤ a1.toInt := h35902
        refine g_iload_n C dX2_seek_56 rfl 2 rfl ?_
        refine g_bipush (v := 11) C dX2_seek_57 (by decide) ?_
        refine b_icmp_ge C 70 dX2_seek_59 (by decide) (fun h35903 => ?_) (fun h35903 => ?_)
        · have h35903 : 11 ≤ a1.toInt := h35903
          omega
        · have h35903 : a1.toInt < 11 := h35903
          refine g_iload C dX2_seek_62 0 rfl ?_
          refine g_iload_n C dX2_seek_64 rfl 2 rfl ?_
          refine g_iconst (v := 1) C dX2_seek_65 (by decide) ?_
          refine s_iadd C dX2_seek_66 (by show -2147483648 ≤ a1.toInt + 1 ∧ a1.toInt + 1 ≤ 2147483647; omega) (fun z35904 h35905 => ?_)
          have h35905 : z35904.toInt = a1.toInt + 1 := h35905
          refine b_icmp_le C 71 dX2_seek_67 (by decide) (fun h35906 => ?_) (fun h35906 => ?_)
          · have h35906 : z35895.toInt ≤ z35904.toInt := h35906
            refine g_aload_n C dX2_seek_71 rfl 1 rfl ?_
            refine g_iload_n C dX2_seek_72 rfl 2 rfl ?_
            refine g_iconst (v := 1) C dX2_seek_73 (by decide) ?_
            refine s_isub C dX2_seek_74 (by show -2147483648 ≤ a1.toInt - 1 ∧ a1.toInt - 1 ≤ 2147483647; omega) (fun z35907 h35908 => ?_)
            have h35908 : z35907.toInt = a1.toInt - 1 := h35908
            refine g_iload_n C dX2_seek_75 rfl 3 rfl ?_
            refine g_iload_n C dX2_seek_76 rfl 4 rfl ?_
            refine g_callVV (rest := []) C mv_X2_58 [.int z35907, .int a2, .int a3] (s_X2_seek_L6 I ha0 (by omega) (by omega)) (ha0).1 (ha0).2 rfl rfl (by decide) (Nat.le_of_ble_eq_true rfl) (by decide) dX2_seek_77 (fun Y35910 h35911 => ?_)
            obtain ⟨Iy35912, Xy35913⟩ := h35911
            have Xz35914 : EK [0, 2, 13] P Y35910 := Xy35913.mono (by decide)
            have h35915 := Xy35913.at ha0
            refine g_aload_n C dX2_seek_80 rfl 1 rfl ?_
            obtain ⟨b35916, e35917, h35918⟩ := Iy35912.fld (h35915) 2 0 0 rfl
            refine g_getR C fi_X2_21 rfl e35917 (h35915).1 (h35915).2 dX2_seek_81 ?_
            refine g_getI C fi_X2_62 (by decide) (h35918.at).1 (h35918.at).2 dX2_seek_84 ?_
            have h35919 := Iy35912.rg (h35918.at) 2 rfl
            refine g_topi (fun z35920 h35921 => ?_)
            have h35921 : z35920.toInt = (pI Y35910 b35916 2).toInt := congrArg Int32.toInt h35921
            refine g_istore (lv' := [(5, .int z35920), (4, .int z35895), (0, .ref a0), (1, .int a1), (2, .int a2), (3, .int a3)]) C dX2_seek_87 (by decide) rfl ?_
            refine g_aload_n C dX2_seek_89 rfl 2 rfl ?_
            obtain ⟨b35922, e35923, h35924⟩ := Iy35912.fld (h35915) 3 0 0 rfl
            refine g_getR C fi_X2_25 rfl e35923 (h35915).1 (h35915).2 dX2_seek_90 ?_
            refine g_getI C fi_X2_62 (by decide) (h35924.at).1 (h35924.at).2 dX2_seek_93 ?_
            have h35925 := Iy35912.rg (h35924.at) 2 rfl
            refine g_topi (fun z35926 h35927 => ?_)
            have h35927 : z35926.toInt = (pI Y35910 b35922 2).toInt := congrArg Int32.toInt h35927
            refine g_istore (lv' := [(6, .int z35926), (5, .int z35920), (4, .int z35895), (0, .ref a0), (1, .int a1), (2, .int a2), (3, .int a3)]) C dX2_seek_96 (by decide) rfl ?_
            refine g_aload_n C dX2_seek_98 rfl 3 rfl ?_
            refine g_getR C fi_X2_21 rfl e35917 (h35915).1 (h35915).2 dX2_seek_99 ?_
            refine g_aload_n C dX2_seek_102 rfl 3 rfl ?_
            obtain ⟨b35928, e35929, h35930⟩ := Iy35912.fld (h35915) 0 13 11 rfl
            refine g_getR C fi_X2_9 rfl e35929 (h35915).1 (h35915).2 dX2_seek_103 ?_
            refine g_iload_n C dX2_seek_106 rfl 4 rfl ?_
            refine g_iald (j := (a1.toInt.toNat)) C h35930.1 h35930.2.1 (ix_in h35930.2.2 (by omega)) dX2_seek_107 ?_
            refine g_topi (fun z35931 _ => ?_)
            refine g_callVV (rest := []) C mv_X2_71 [.int z35931] (s_X0_add Iy35912 h35918.at) (h35918.at).1 (h35918.at).2 rfl rfl (by decide) (Nat.le_of_ble_eq_true rfl) (by decide) dX2_seek_108 (fun Y35933 h35934 => ?_)
            obtain ⟨Iy35935, Xy35936⟩ := h35934
            have Xz35937 : EK [0, 2, 13] P Y35933 := Xz35914.tr (Xy35936.mono (by decide))
            have h35938 := Xy35936.at h35915
            refine g_aload_n C dX2_seek_111 rfl 3 rfl ?_
            obtain ⟨b35939, e35940, h35941⟩ := Iy35935.fld (h35938) 3 0 0 rfl
            refine g_getR C fi_X2_25 rfl e35940 (h35938).1 (h35938).2 dX2_seek_112 ?_
            refine g_aload_n C dX2_seek_115 rfl 3 rfl ?_
            obtain ⟨b35942, e35943, h35944⟩ := Iy35935.fld (h35938) 1 13 11 rfl
            refine g_getR C fi_X2_15 rfl e35943 (h35938).1 (h35938).2 dX2_seek_116 ?_
            refine g_iload_n C dX2_seek_119 rfl 4 rfl ?_
            refine g_iald (j := (a1.toInt.toNat)) C h35944.1 h35944.2.1 (ix_in h35944.2.2 (by omega)) dX2_seek_120 ?_
            refine g_topi (fun z35945 _ => ?_)
            refine g_callVV (rest := []) C mv_X2_71 [.int z35945] (s_X0_add Iy35935 h35941.at) (h35941.at).1 (h35941.at).2 rfl rfl (by decide) (Nat.le_of_ble_eq_true rfl) (by decide) dX2_seek_121 (fun Y35947 h35948 => ?_)
            obtain ⟨Iy35949, Xy35950⟩ := h35948
            have Xz35951 : EK [0, 2, 13] P Y35947 := Xz35937.tr (Xy35950.mono (by decide))
            have h35952 := Xy35950.at h35938
            refine g_aload_n C dX2_seek_124 rfl 3 rfl ?_
            obtain ⟨b35953, e35954, h35955⟩ := Iy35949.fld (h35952) 2 0 0 rfl
            refine g_getR C fi_X2_21 rfl e35954 (h35952).1 (h35952).2 dX2_seek_125 ?_
            refine g_getI C fi_X2_32 (by decide) (h35955.at).1 (h35955.at).2 dX2_seek_128 ?_
            have h35956 := Iy35949.rg (h35955.at) 3 rfl
            refine b_if_eq C 159 dX2_seek_131 (by decide) (fun h35957 => ?_) (fun h35957 => ?_)
            · have h35957 : (pI Y35947 b35953 3).toInt = 0 := congrArg Int32.toInt h35957
              refine g_lv (lv' := [(0, .ref a0), (5, .int z35920), (6, .int z35926)]) [3, 1, 0] rfl ?_
              exact J159 Y35947 z35920 z35926 Iy35949 Xz35951 (by omega) (by omega)
            · have h35957 : (pI Y35947 b35953 3).toInt ≠ 0 := ti_ne h35957
              refine g_aload_n C dX2_seek_134 rfl 3 rfl ?_
              obtain ⟨b35958, e35959, h35960⟩ := Iy35949.fld (h35952) 3 0 0 rfl
              refine g_getR C fi_X2_25 rfl e35959 (h35952).1 (h35952).2 dX2_seek_135 ?_
              refine g_getI C fi_X2_32 (by decide) (h35960.at).1 (h35960.at).2 dX2_seek_138 ?_
              have h35961 := Iy35949.rg (h35960.at) 3 rfl
              refine b_if_eq C 159 dX2_seek_141 (by decide) (fun h35962 => ?_) (fun h35962 => ?_)
              · have h35962 : (pI Y35947 b35958 3).toInt = 0 := congrArg Int32.toInt h35962
                refine g_lv (lv' := [(0, .ref a0), (5, .int z35920), (6, .int z35926)]) [3, 1, 0] rfl ?_
                exact J159 Y35947 z35920 z35926 Iy35949 Xz35951 (by omega) (by omega)
              · have h35962 : (pI Y35947 b35958 3).toInt ≠ 0 := ti_ne h35962
                refine g_aload_n C dX2_seek_144 rfl 3 rfl ?_
                refine g_iload_n C dX2_seek_145 rfl 4 rfl ?_
                refine g_iconst (v := 1) C dX2_seek_146 (by decide) ?_
                refine s_isub C dX2_seek_147 (by show -2147483648 ≤ a1.toInt - 1 ∧ a1.toInt - 1 ≤ 2147483647; omega) (fun z35963 h35964 => ?_)
                have h35964 : z35963.toInt = a1.toInt - 1 := h35964
                refine g_iload_n C dX2_seek_148 rfl 5 rfl ?_
                refine g_iconst (v := 1) C dX2_seek_149 (by decide) ?_
                refine g_iload_n C dX2_seek_150 rfl 4 rfl ?_
                refine a_ishl C dX2_seek_151 (fun z35965 => ?_)
                refine a_ior C dX2_seek_152 (fun z35967 => ?_)
                refine g_iload_n C dX2_seek_153 rfl 6 rfl ?_
                refine g_iconst (v := 1) C dX2_seek_154 (by decide) ?_
                refine s_iadd C dX2_seek_155 (by show -2147483648 ≤ a3.toInt + 1 ∧ a3.toInt + 1 ≤ 2147483647; omega) (fun z35969 h35970 => ?_)
                have h35970 : z35969.toInt = a3.toInt + 1 := h35970
                refine g_callVV (rest := []) C mv_X2_58 [.int z35963, .int z35967, .int z35969] (s_X2_seek_L6 Iy35949 h35952 (by omega) (by omega)) (h35952).1 (h35952).2 rfl rfl (by decide) (Nat.le_of_ble_eq_true rfl) (by decide) dX2_seek_156 (fun Y35972 h35973 => ?_)
                obtain ⟨Iy35974, Xy35975⟩ := h35973
                have Xz35976 : EK [0, 2, 13] P Y35972 := Xz35951.tr (Xy35975.mono (by decide))
                have h35977 := Xy35975.at h35952
                refine g_lv (lv' := [(0, .ref a0), (5, .int z35920), (6, .int z35926)]) [3, 1, 0] rfl ?_
                exact J159 Y35972 z35920 z35926 Iy35974 Xz35976 (by omega) (by omega)
          · have h35906 : z35904.toInt < z35895.toInt := h35906
            exact ret _ _ _ _ _ dX2_seek_70 (by decide) (by decide) ⟨I, EK.rf⟩
    · have h35901 : z35895.toInt = 0 := congrArg Int32.toInt h35901
      refine g_aload_n C dX2_seek_41 rfl 1 rfl ?_
      refine g_iload_n C dX2_seek_42 rfl 4 rfl ?_
      refine g_putI C fi_X2_45 rfl (ha0).1 (ha0).2 dX2_seek_43 ?_
      refine gpW (ks := [2]) (I.setI (ha0) (rgOk.of rfl (by omega))) (EK.setI (ha0).2 (by decide)) (fun Y35978 Iy35979 Xy35980 w35981 w35982 => ?_)
      have q35983 := w35981 4 (by decide)
      have q35984 := Xy35980.keep (h35887.at) (by decide) 2
      have q35985 := Xy35980.keep (h35891.at) (by decide) 2
      have Xz35986 : EK [0, 2, 13] P Y35978 := Xy35980.mono (by decide)
      have h35987 := Xy35980.at ha0
      refine g_aload_n C dX2_seek_46 rfl 1 rfl ?_
      refine g_iload_n C dX2_seek_47 rfl 3 rfl ?_
      refine g_putI C fi_X2_48 rfl (h35987).1 (h35987).2 dX2_seek_48 ?_
      refine gpW (ks := [2]) (Iy35979.setI (h35987) (rgOk.none rfl)) (EK.setI (h35987).2 (by decide)) (fun Y35988 Iy35989 Xy35990 w35991 w35992 => ?_)
      have q35993 := w35991 4 (by decide)
      have q35994 := w35991 5 (by decide)
      have Xz35995 : EK [0, 2, 13] P Y35988 := Xz35986.tr (Xy35990.mono (by decide))
      have h35996 := Xy35990.at h35987
      exact ret _ _ _ _ _ dX2_seek_51 (by decide) (by decide) ⟨Iy35989, Xz35995⟩
  · have h35900 : (pI P a0 5).toInt ≤ z35897.toInt := h35900
    exact ret _ _ _ _ _ dX2_seek_35 (by decide) (by decide) ⟨I, EK.rf⟩
set_option maxHeartbeats 4000000 in
set_option maxRecDepth 100000 in
theorem s_X2_seek_L8 {P : PP} {a0 : Nat} {a1 : Int32} {a2 : Int32} {a3 : Int32} (I : IV P) (ha0 : At P a0 2) (ha1 : 7 ≤ a1.toInt ∧ a1.toInt ≤ 7) (ha3 : 0 ≤ a3.toInt ∧ a3.toInt ≤ 3) : CtrV yX2_seek cX2_seek 7 none ({ frames := 10, cells := 0, slots := 0, locals := 640 } : Room) 0 0 P [.ref a0, .int a1, .int a2, .int a3] (fun P2 => IV P2 ∧ EK [0, 2, 13] P P2) := by
  refine enV (lv := [(0, .ref a0), (1, .int a1), (2, .int a2), (3, .int a3)]) (by decide) (Nat.le_of_ble_eq_true rfl) rfl (fun E D cy C Ci0 ret => ?_)
  have J159 : ∀ (P159 : PP) (v159_5 : Int32) (v159_6 : Int32), (IV P159) → (EK [0, 2, 13] P P159) → (0 ≤ v159_5.toInt ∧ v159_5.toInt ≤ 20) → (0 ≤ v159_6.toInt ∧ v159_6.toInt ≤ 20) → G E ({ frames := 10, cells := 0, slots := 0, locals := 640 } : Room) D cy 7 P159 0 0 159 [(0, .ref a0), (5, .int v159_5), (6, .int v159_6)] [] := by
    intro P159 v159_5 v159_6 I159 X159 hv159_5 hv159_6
    have h36131 := X159.at ha0
    refine g_aload_n C dX2_seek_159 rfl 0 rfl ?_
    obtain ⟨b36132, e36133, h36134⟩ := I159.fld (h36131) 2 0 0 rfl
    refine g_getR C fi_X2_21 rfl e36133 (h36131).1 (h36131).2 dX2_seek_160 ?_
    refine g_iload C dX2_seek_163 1 rfl ?_
    refine g_callVV (rest := []) C mv_X2_75 [.int v159_5] (s_X0_cut I159 h36134.at) (h36134.at).1 (h36134.at).2 rfl rfl (by decide) (Nat.le_of_ble_eq_true rfl) (by decide) dX2_seek_165 (fun Y36136 h36137 => ?_)
    obtain ⟨Iy36138, Xy36139⟩ := h36137
    have Xz36140 : EK [0, 2, 13] P Y36136 := X159.tr (Xy36139.mono (by decide))
    have h36141 := Xy36139.at h36131
    refine g_aload_n C dX2_seek_168 rfl 0 rfl ?_
    obtain ⟨b36142, e36143, h36144⟩ := Iy36138.fld (h36141) 3 0 0 rfl
    refine g_getR C fi_X2_25 rfl e36143 (h36141).1 (h36141).2 dX2_seek_169 ?_
    refine g_iload C dX2_seek_172 2 rfl ?_
    refine g_callVV (rest := []) C mv_X2_75 [.int v159_6] (s_X0_cut Iy36138 h36144.at) (h36144.at).1 (h36144.at).2 rfl rfl (by decide) (Nat.le_of_ble_eq_true rfl) (by decide) dX2_seek_174 (fun Y36146 h36147 => ?_)
    obtain ⟨Iy36148, Xy36149⟩ := h36147
    have Xz36150 : EK [0, 2, 13] P Y36146 := Xz36140.tr (Xy36149.mono (by decide))
    have h36151 := Xy36149.at h36141
    exact ret _ _ _ _ _ dX2_seek_177 (by decide) (by decide) ⟨Iy36148, Xz36150⟩
  refine g_aload_n C dX2_seek_0 rfl 0 rfl ?_
  refine g_getI C fi_X2_42 (by decide) (ha0).1 (ha0).2 dX2_seek_1 ?_
  have h36152 := I.rg (ha0) 4 rfl
  refine g_aload_n C dX2_seek_4 rfl 0 rfl ?_
  obtain ⟨b36153, e36154, h36155⟩ := I.fld (ha0) 2 0 0 rfl
  refine g_getR C fi_X2_21 rfl e36154 (ha0).1 (ha0).2 dX2_seek_5 ?_
  refine g_getI C fi_X2_62 (by decide) (h36155.at).1 (h36155.at).2 dX2_seek_8 ?_
  have h36156 := I.rg (h36155.at) 2 rfl
  refine g_aload_n C dX2_seek_11 rfl 0 rfl ?_
  obtain ⟨b36157, e36158, h36159⟩ := I.fld (ha0) 3 0 0 rfl
  refine g_getR C fi_X2_25 rfl e36158 (ha0).1 (ha0).2 dX2_seek_12 ?_
  refine g_getI C fi_X2_62 (by decide) (h36159.at).1 (h36159.at).2 dX2_seek_15 ?_
  have h36160 := I.rg (h36159.at) 2 rfl
  refine g_mmin C ms_X2_65 (by decide) (by decide) (Nat.le_of_ble_eq_true rfl) (by decide) dX2_seek_18 (fun z36161 h36162 => ?_)
  have h36162 : z36161.toInt ≤ (pI P b36153 2).toInt ∧ z36161.toInt ≤ (pI P b36157 2).toInt ∧ (z36161.toInt = (pI P b36153 2).toInt ∨ z36161.toInt = (pI P b36157 2).toInt) := h36162
  refine s_isub C dX2_seek_21 (by show -2147483648 ≤ (pI P a0 4).toInt - z36161.toInt ∧ (pI P a0 4).toInt - z36161.toInt ≤ 2147483647; omega) (fun z36163 h36164 => ?_)
  have h36164 : z36163.toInt = (pI P a0 4).toInt - z36161.toInt := h36164
  refine g_istore (lv' := [(4, .int z36163), (0, .ref a0), (1, .int a1), (2, .int a2), (3, .int a3)]) C dX2_seek_22 (by decide) rfl ?_
  refine g_iload_n C dX2_seek_24 rfl 4 rfl ?_
  refine g_iload C dX2_seek_25 0 rfl ?_
  refine s_iadd C dX2_seek_27 (by show -2147483648 ≤ a3.toInt + z36163.toInt ∧ a3.toInt + z36163.toInt ≤ 2147483647; omega) (fun z36165 h36166 => ?_)
  have h36166 : z36165.toInt = a3.toInt + z36163.toInt := h36166
  refine g_aload_n C dX2_seek_28 rfl 1 rfl ?_
  refine g_getI C fi_X2_45 (by decide) (ha0).1 (ha0).2 dX2_seek_29 ?_
  have h36167 := I.rg (ha0) 5 rfl
  refine b_icmp_lt C 36 dX2_seek_32 (by decide) (fun h36168 => ?_) (fun h36168 => ?_)
  · have h36168 : z36165.toInt < (pI P a0 5).toInt := h36168
    refine g_iload C dX2_seek_36 0 rfl ?_
    refine b_if_ne C 52 dX2_seek_38 (by decide) (fun h36169 => ?_) (fun h36169 => ?_)
    · have h36169 : z36163.toInt ≠ 0 := ti_ne h36169
      refine g_iload_n C dX2_seek_52 rfl 2 rfl ?_
      refine b_if_lt C 70 dX2_seek_53 (by decide) (fun h36170 => ?_) (fun h36170 => ?_)
      · have h36170 : a1.toInt < 0 := h36170
        omega
      · have h36170 : 0 ≤ a1.toInt := h36170
        refine g_iload_n C dX2_seek_56 rfl 2 rfl ?_
        refine g_bipush (v := 11) C dX2_seek_57 (by decide) ?_
        refine b_icmp_ge C 70 dX2_seek_59 (by decide) (fun h36171 => ?_) (fun h36171 => ?_)
        · have h36171 : 11 ≤ a1.toInt := h36171
          omega
        · have h36171 : a1.toInt < 11 := h36171
          refine g_iload C dX2_seek_62 0 rfl ?_
          refine g_iload_n C dX2_seek_64 rfl 2 rfl ?_
          refine g_iconst (v := 1) C dX2_seek_65 (by decide) ?_
          refine s_iadd C dX2_seek_66 (by show -2147483648 ≤ a1.toInt + 1 ∧ a1.toInt + 1 ≤ 2147483647; omega) (fun z36172 h36173 => ?_)
          have h36173 : z36172.toInt = a1.toInt + 1 := h36173
          refine b_icmp_le C 71 dX2_seek_67 (by decide) (fun h36174 => ?_) (fun h36174 => ?_)
          · have h36174 : z36163.toInt ≤ z36172.toInt := h36174
            refine g_aload_n C dX2_seek_71 rfl 1 rfl ?_
            refine g_iload_n C dX2_seek_72 rfl 2 rfl ?_
            refine g_iconst (v := 1) C dX2_seek_73 (by decide) ?_
            refine s_isub C dX2_seek_74 (by show -2147483648 ≤ a1.toInt - 1 ∧ a1.toInt - 1 ≤ 2147483647; omega) (fun z36175 h36176 => ?_)
            have h36176 : z36175.toInt = a1.toInt - 1 := h36176
            refine g_iload_n C dX2_seek_75 rfl 3 rfl ?_
            refine g_iload_n C dX2_seek_76 rfl 4 rfl ?_
            refine g_callVV (rest := []) C mv_X2_58 [.int z36175, .int a2, .int a3] (s_X2_seek_L7 I ha0 (by omega) (by omega)) (ha0).1 (ha0).2 rfl rfl (by decide) (Nat.le_of_ble_eq_true rfl) (by decide) dX2_seek_77 (fun Y36178 h36179 => ?_)
            obtain ⟨Iy36180, Xy36181⟩ := h36179
            have Xz36182 : EK [0, 2, 13] P Y36178 := Xy36181.mono (by decide)
            have h36183 := Xy36181.at ha0
            refine g_aload_n C dX2_seek_80 rfl 1 rfl ?_
            obtain ⟨b36184, e36185, h36186⟩ := Iy36180.fld (h36183) 2 0 0 rfl
            refine g_getR C fi_X2_21 rfl e36185 (h36183).1 (h36183).2 dX2_seek_81 ?_
            refine g_getI C fi_X2_62 (by decide) (h36186.at).1 (h36186.at).2 dX2_seek_84 ?_
            have h36187 := Iy36180.rg (h36186.at) 2 rfl
            refine g_topi (fun z36188 h36189 => ?_)
            have h36189 : z36188.toInt = (pI Y36178 b36184 2).toInt := congrArg Int32.toInt h36189
            refine g_istore (lv' := [(5, .int z36188), (4, .int z36163), (0, .ref a0), (1, .int a1), (2, .int a2), (3, .int a3)]) C dX2_seek_87 (by decide) rfl ?_
            refine g_aload_n C dX2_seek_89 rfl 2 rfl ?_
            obtain ⟨b36190, e36191, h36192⟩ := Iy36180.fld (h36183) 3 0 0 rfl
            refine g_getR C fi_X2_25 rfl e36191 (h36183).1 (h36183).2 dX2_seek_90 ?_
            refine g_getI C fi_X2_62 (by decide) (h36192.at).1 (h36192.at).2 dX2_seek_93 ?_
            have h36193 := Iy36180.rg (h36192.at) 2 rfl
            refine g_topi (fun z36194 h36195 => ?_)
            have h36195 : z36194.toInt = (pI Y36178 b36190 2).toInt := congrArg Int32.toInt h36195
            refine g_istore (lv' := [(6, .int z36194), (5, .int z36188), (4, .int z36163), (0, .ref a0), (1, .int a1), (2, .int a2), (3, .int a3)]) C dX2_seek_96 (by decide) rfl ?_
            refine g_aload_n C dX2_seek_98 rfl 3 rfl ?_
            refine g_getR C fi_X2_21 rfl e36185 (h36183).1 (h36183).2 dX2_seek_99 ?_
            refine g_aload_n C dX2_seek_102 rfl 3 rfl ?_
            obtain ⟨b36196, e36197, h36198⟩ := Iy36180.fld (h36183) 0 13 11 rfl
            refine g_getR C fi_X2_9 rfl e36197 (h36183).1 (h36183).2 dX2_seek_103 ?_
            refine g_iload_n C dX2_seek_106 rfl 4 rfl ?_
            refine g_iald (j := (a1.toInt.toNat)) C h36198.1 h36198.2.1 (ix_in h36198.2.2 (by omega)) dX2_seek_107 ?_
            refine g_topi (fun z36199 _ => ?_)
            refine g_callVV (rest := []) C mv_X2_71 [.int z36199] (s_X0_add Iy36180 h36186.at) (h36186.at).1 (h36186.at).2 rfl rfl (by decide) (Nat.le_of_ble_eq_true rfl) (by decide) dX2_seek_108 (fun Y36201 h36202 => ?_)
            obtain ⟨Iy36203, Xy36204⟩ := h36202
            have Xz36205 : EK [0, 2, 13] P Y36201 := Xz36182.tr (Xy36204.mono (by decide))
            have h36206 := Xy36204.at h36183
            refine g_aload_n C dX2_seek_111 rfl 3 rfl ?_
            obtain ⟨b36207, e36208, h36209⟩ := Iy36203.fld (h36206) 3 0 0 rfl
            refine g_getR C fi_X2_25 rfl e36208 (h36206).1 (h36206).2 dX2_seek_112 ?_
            refine g_aload_n C dX2_seek_115 rfl 3 rfl ?_
            obtain ⟨b36210, e36211, h36212⟩ := Iy36203.fld (h36206) 1 13 11 rfl
            refine g_getR C fi_X2_15 rfl e36211 (h36206).1 (h36206).2 dX2_seek_116 ?_
            refine g_iload_n C dX2_seek_119 rfl 4 rfl ?_
            refine g_iald (j := (a1.toInt.toNat)) C h36212.1 h36212.2.1 (ix_in h36212.2.2 (by omega)) dX2_seek_120 ?_
            refine g_topi (fun z36213 _ => ?_)
            refine g_callVV (rest := []) C mv_X2_71 [.int z36213] (s_X0_add Iy36203 h36209.at) (h36209.at).1 (h36209.at).2 rfl rfl (by decide) (Nat.le_of_ble_eq_true rfl) (by decide) dX2_seek_121 (fun Y36215 h36216 => ?_)
            obtain ⟨Iy36217, Xy36218⟩ := h36216
            have Xz36219 : EK [0, 2, 13] P Y36215 := Xz36205.tr (Xy36218.mono (by decide))
            have h36220 := Xy36218.at h36206
            refine g_aload_n C dX2_seek_124 rfl 3 rfl ?_
            obtain ⟨b36221, e36222, h36223⟩ := Iy36217.fld (h36220) 2 0 0 rfl
            refine g_getR C fi_X2_21 rfl e36222 (h36220).1 (h36220).2 dX2_seek_125 ?_
            refine g_getI C fi_X2_32 (by decide) (h36223.at).1 (h36223.at).2 dX2_seek_128 ?_
            have h36224 := Iy36217.rg (h36223.at) 3 rfl
            refine b_if_eq C 159 dX2_seek_131 (by decide) (fun h36225 => ?_) (fun h36225 => ?_)
            · have h36225 : (pI Y36215 b36221 3).toInt = 0 := congrArg Int32.toInt h36225
              refine g_lv (lv' := [(0, .ref a0), (5, .int z36188), (6, .int z36194)]) [3, 1, 0] rfl ?_
              exact J159 Y36215 z36188 z36194 Iy36217 Xz36219 (by omega) (by omega)
            · have h36225 : (pI Y36215 b36221 3).toInt ≠ 0 := ti_ne h36225
              refine g_aload_n C dX2_seek_134 rfl 3 rfl ?_
              obtain ⟨b36226, e36227, h36228⟩ := Iy36217.fld (h36220) 3 0 0 rfl
              refine g_getR C fi_X2_25 rfl e36227 (h36220).1 (h36220).2 dX2_seek_135 ?_
              refine g_getI C fi_X2_32 (by decide) (h36228.at).1 (h36228.at).2 dX2_seek_138 ?_
              have h36229 := Iy36217.rg (h36228.at) 3 rfl
              refine b_if_eq C 159 dX2_seek_141 (by decide) (fun h36230 => ?_) (fun h36230 => ?_)
              · have h36230 : (pI Y36215 b36226 3).toInt = 0 := congrArg Int32.toInt h36230
                refine g_lv (lv' := [(0, .ref a0), (5, .int z36188), (6, .int z36194)]) [3, 1, 0] rfl ?_
                exact J159 Y36215 z36188 z36194 Iy36217 Xz36219 (by omega) (by omega)
              · have h36230 : (pI Y36215 b36226 3).toInt ≠ 0 := ti_ne h36230
                refine g_aload_n C dX2_seek_144 rfl 3 rfl ?_
                refine g_iload_n C dX2_seek_145 rfl 4 rfl ?_
                refine g_iconst (v := 1) C dX2_seek_146 (by decide) ?_
                refine s_isub C dX2_seek_147 (by show -2147483648 ≤ a1.toInt - 1 ∧ a1.toInt - 1 ≤ 2147483647; omega) (fun z36231 h36232 => ?_)
                have h36232 : z36231.toInt = a1.toInt - 1 := h36232
                refine g_iload_n C dX2_seek_148 rfl 5 rfl ?_
                refine g_iconst (v := 1) C dX2_seek_149 (by decide) ?_
                refine g_iload_n C dX2_seek_150 rfl 4 rfl ?_
                refine a_ishl C dX2_seek_151 (fun z36233 => ?_)
                refine a_ior C dX2_seek_152 (fun z36235 => ?_)
                refine g_iload_n C dX2_seek_153 rfl 6 rfl ?_
                refine g_iconst (v := 1) C dX2_seek_154 (by decide) ?_
                refine s_iadd C dX2_seek_155 (by show -2147483648 ≤ a3.toInt + 1 ∧ a3.toInt + 1 ≤ 2147483647; omega) (fun z36237 h36238 => ?_)
                have h36238 : z36237.toInt = a3.toInt + 1 := h36238
                refine g_callVV (rest := []) C mv_X2_58 [.int z36231, .int z36235, .int z36237] (s_X2_seek_L7 Iy36217 h36220 (by omega) (by omega)) (h36220).1 (h36220).2 rfl rfl (by decide) (Nat.le_of_ble_eq_true rfl) (by decide) dX2_seek_156 (fun Y36240 h36241 => ?_)
                obtain ⟨Iy36242, Xy36243⟩ := h36241
                have Xz36244 : EK [0, 2, 13] P Y36240 := Xz36219.tr (Xy36243.mono (by decide))
                have h36245 := Xy36243.at h36220
                refine g_lv (lv' := [(0, .ref a0), (5, .int z36188), (6, .int z36194)]) [3, 1, 0] rfl ?_
                exact J159 Y36240 z36188 z36194 Iy36242 Xz36244 (by omega) (by omega)
          · have h36174 : z36172.toInt < z36163.toInt := h36174
            exact ret _ _ _ _ _ dX2_seek_70 (by decide) (by decide) ⟨I, EK.rf⟩
    · have h36169 : z36163.toInt = 0 := congrArg Int32.toInt h36169
      refine g_aload_n C dX2_seek_41 rfl 1 rfl ?_
      refine g_iload_n C dX2_seek_42 rfl 4 rfl ?_
      refine g_putI C fi_X2_45 rfl (ha0).1 (ha0).2 dX2_seek_43 ?_
      refine gpW (ks := [2]) (I.setI (ha0) (rgOk.of rfl (by omega))) (EK.setI (ha0).2 (by decide)) (fun Y36246 Iy36247 Xy36248 w36249 w36250 => ?_)
      have q36251 := w36249 4 (by decide)
      have q36252 := Xy36248.keep (h36155.at) (by decide) 2
      have q36253 := Xy36248.keep (h36159.at) (by decide) 2
      have Xz36254 : EK [0, 2, 13] P Y36246 := Xy36248.mono (by decide)
      have h36255 := Xy36248.at ha0
      refine g_aload_n C dX2_seek_46 rfl 1 rfl ?_
      refine g_iload_n C dX2_seek_47 rfl 3 rfl ?_
      refine g_putI C fi_X2_48 rfl (h36255).1 (h36255).2 dX2_seek_48 ?_
      refine gpW (ks := [2]) (Iy36247.setI (h36255) (rgOk.none rfl)) (EK.setI (h36255).2 (by decide)) (fun Y36256 Iy36257 Xy36258 w36259 w36260 => ?_)
      have q36261 := w36259 4 (by decide)
      have q36262 := w36259 5 (by decide)
      have Xz36263 : EK [0, 2, 13] P Y36256 := Xz36254.tr (Xy36258.mono (by decide))
      have h36264 := Xy36258.at h36255
      exact ret _ _ _ _ _ dX2_seek_51 (by decide) (by decide) ⟨Iy36257, Xz36263⟩
  · have h36168 : (pI P a0 5).toInt ≤ z36165.toInt := h36168
    exact ret _ _ _ _ _ dX2_seek_35 (by decide) (by decide) ⟨I, EK.rf⟩
set_option maxHeartbeats 4000000 in
set_option maxRecDepth 100000 in
theorem s_X2_seek_L9 {P : PP} {a0 : Nat} {a1 : Int32} {a2 : Int32} {a3 : Int32} (I : IV P) (ha0 : At P a0 2) (ha1 : 8 ≤ a1.toInt ∧ a1.toInt ≤ 8) (ha3 : 0 ≤ a3.toInt ∧ a3.toInt ≤ 2) : CtrV yX2_seek cX2_seek 7 none ({ frames := 11, cells := 0, slots := 0, locals := 704 } : Room) 0 0 P [.ref a0, .int a1, .int a2, .int a3] (fun P2 => IV P2 ∧ EK [0, 2, 13] P P2) := by
  refine enV (lv := [(0, .ref a0), (1, .int a1), (2, .int a2), (3, .int a3)]) (by decide) (Nat.le_of_ble_eq_true rfl) rfl (fun E D cy C Ci0 ret => ?_)
  have J159 : ∀ (P159 : PP) (v159_5 : Int32) (v159_6 : Int32), (IV P159) → (EK [0, 2, 13] P P159) → (0 ≤ v159_5.toInt ∧ v159_5.toInt ≤ 20) → (0 ≤ v159_6.toInt ∧ v159_6.toInt ≤ 20) → G E ({ frames := 11, cells := 0, slots := 0, locals := 704 } : Room) D cy 7 P159 0 0 159 [(0, .ref a0), (5, .int v159_5), (6, .int v159_6)] [] := by
    intro P159 v159_5 v159_6 I159 X159 hv159_5 hv159_6
    have h36399 := X159.at ha0
    refine g_aload_n C dX2_seek_159 rfl 0 rfl ?_
    obtain ⟨b36400, e36401, h36402⟩ := I159.fld (h36399) 2 0 0 rfl
    refine g_getR C fi_X2_21 rfl e36401 (h36399).1 (h36399).2 dX2_seek_160 ?_
    refine g_iload C dX2_seek_163 1 rfl ?_
    refine g_callVV (rest := []) C mv_X2_75 [.int v159_5] (s_X0_cut I159 h36402.at) (h36402.at).1 (h36402.at).2 rfl rfl (by decide) (Nat.le_of_ble_eq_true rfl) (by decide) dX2_seek_165 (fun Y36404 h36405 => ?_)
    obtain ⟨Iy36406, Xy36407⟩ := h36405
    have Xz36408 : EK [0, 2, 13] P Y36404 := X159.tr (Xy36407.mono (by decide))
    have h36409 := Xy36407.at h36399
    refine g_aload_n C dX2_seek_168 rfl 0 rfl ?_
    obtain ⟨b36410, e36411, h36412⟩ := Iy36406.fld (h36409) 3 0 0 rfl
    refine g_getR C fi_X2_25 rfl e36411 (h36409).1 (h36409).2 dX2_seek_169 ?_
    refine g_iload C dX2_seek_172 2 rfl ?_
    refine g_callVV (rest := []) C mv_X2_75 [.int v159_6] (s_X0_cut Iy36406 h36412.at) (h36412.at).1 (h36412.at).2 rfl rfl (by decide) (Nat.le_of_ble_eq_true rfl) (by decide) dX2_seek_174 (fun Y36414 h36415 => ?_)
    obtain ⟨Iy36416, Xy36417⟩ := h36415
    have Xz36418 : EK [0, 2, 13] P Y36414 := Xz36408.tr (Xy36417.mono (by decide))
    have h36419 := Xy36417.at h36409
    exact ret _ _ _ _ _ dX2_seek_177 (by decide) (by decide) ⟨Iy36416, Xz36418⟩
  refine g_aload_n C dX2_seek_0 rfl 0 rfl ?_
  refine g_getI C fi_X2_42 (by decide) (ha0).1 (ha0).2 dX2_seek_1 ?_
  have h36420 := I.rg (ha0) 4 rfl
  refine g_aload_n C dX2_seek_4 rfl 0 rfl ?_
  obtain ⟨b36421, e36422, h36423⟩ := I.fld (ha0) 2 0 0 rfl
  refine g_getR C fi_X2_21 rfl e36422 (ha0).1 (ha0).2 dX2_seek_5 ?_
  refine g_getI C fi_X2_62 (by decide) (h36423.at).1 (h36423.at).2 dX2_seek_8 ?_
  have h36424 := I.rg (h36423.at) 2 rfl
  refine g_aload_n C dX2_seek_11 rfl 0 rfl ?_
  obtain ⟨b36425, e36426, h36427⟩ := I.fld (ha0) 3 0 0 rfl
  refine g_getR C fi_X2_25 rfl e36426 (ha0).1 (ha0).2 dX2_seek_12 ?_
  refine g_getI C fi_X2_62 (by decide) (h36427.at).1 (h36427.at).2 dX2_seek_15 ?_
  have h36428 := I.rg (h36427.at) 2 rfl
  refine g_mmin C ms_X2_65 (by decide) (by decide) (Nat.le_of_ble_eq_true rfl) (by decide) dX2_seek_18 (fun z36429 h36430 => ?_)
  have h36430 : z36429.toInt ≤ (pI P b36421 2).toInt ∧ z36429.toInt ≤ (pI P b36425 2).toInt ∧ (z36429.toInt = (pI P b36421 2).toInt ∨ z36429.toInt = (pI P b36425 2).toInt) := h36430
  refine s_isub C dX2_seek_21 (by show -2147483648 ≤ (pI P a0 4).toInt - z36429.toInt ∧ (pI P a0 4).toInt - z36429.toInt ≤ 2147483647; omega) (fun z36431 h36432 => ?_)
  have h36432 : z36431.toInt = (pI P a0 4).toInt - z36429.toInt := h36432
  refine g_istore (lv' := [(4, .int z36431), (0, .ref a0), (1, .int a1), (2, .int a2), (3, .int a3)]) C dX2_seek_22 (by decide) rfl ?_
  refine g_iload_n C dX2_seek_24 rfl 4 rfl ?_
  refine g_iload C dX2_seek_25 0 rfl ?_
  refine s_iadd C dX2_seek_27 (by show -2147483648 ≤ a3.toInt + z36431.toInt ∧ a3.toInt + z36431.toInt ≤ 2147483647; omega) (fun z36433 h36434 => ?_)
  have h36434 : z36433.toInt = a3.toInt + z36431.toInt := h36434
  refine g_aload_n C dX2_seek_28 rfl 1 rfl ?_
  refine g_getI C fi_X2_45 (by decide) (ha0).1 (ha0).2 dX2_seek_29 ?_
  have h36435 := I.rg (ha0) 5 rfl
  refine b_icmp_lt C 36 dX2_seek_32 (by decide) (fun h36436 => ?_) (fun h36436 => ?_)
  · have h36436 : z36433.toInt < (pI P a0 5).toInt := h36436
    refine g_iload C dX2_seek_36 0 rfl ?_
    refine b_if_ne C 52 dX2_seek_38 (by decide) (fun h36437 => ?_) (fun h36437 => ?_)
    · have h36437 : z36431.toInt ≠ 0 := ti_ne h36437
      refine g_iload_n C dX2_seek_52 rfl 2 rfl ?_
      refine b_if_lt C 70 dX2_seek_53 (by decide) (fun h36438 => ?_) (fun h36438 => ?_)
      · have h36438 : a1.toInt < 0 := h36438
        omega
      · have h36438 : 0 ≤ a1.toInt := h36438
        refine g_iload_n C dX2_seek_56 rfl 2 rfl ?_
        refine g_bipush (v := 11) C dX2_seek_57 (by decide) ?_
        refine b_icmp_ge C 70 dX2_seek_59 (by decide) (fun h36439 => ?_) (fun h36439 => ?_)
        · have h36439 : 11 ≤ a1.toInt := h36439
          omega
        · have h36439 : a1.toInt < 11 := h36439
          refine g_iload C dX2_seek_62 0 rfl ?_
          refine g_iload_n C dX2_seek_64 rfl 2 rfl ?_
          refine g_iconst (v := 1) C dX2_seek_65 (by decide) ?_
          refine s_iadd C dX2_seek_66 (by show -2147483648 ≤ a1.toInt + 1 ∧ a1.toInt + 1 ≤ 2147483647; omega) (fun z36440 h36441 => ?_)
          have h36441 : z36440.toInt = a1.toInt + 1 := h36441
          refine b_icmp_le C 71 dX2_seek_67 (by decide) (fun h36442 => ?_) (fun h36442 => ?_)
          · have h36442 : z36431.toInt ≤ z36440.toInt := h36442
            refine g_aload_n C dX2_seek_71 rfl 1 rfl ?_
            refine g_iload_n C dX2_seek_72 rfl 2 rfl ?_
            refine g_iconst (v := 1) C dX2_seek_73 (by decide) ?_
            refine s_isub C dX2_seek_74 (by show -2147483648 ≤ a1.toInt - 1 ∧ a1.toInt - 1 ≤ 2147483647; omega) (fun z36443 h36444 => ?_)
            have h36444 : z36443.toInt = a1.toInt - 1 := h36444
            refine g_iload_n C dX2_seek_75 rfl 3 rfl ?_
            refine g_iload_n C dX2_seek_76 rfl 4 rfl ?_
            refine g_callVV (rest := []) C mv_X2_58 [.int z36443, .int a2, .int a3] (s_X2_seek_L8 I ha0 (by omega) (by omega)) (ha0).1 (ha0).2 rfl rfl (by decide) (Nat.le_of_ble_eq_true rfl) (by decide) dX2_seek_77 (fun Y36446 h36447 => ?_)
            obtain ⟨Iy36448, Xy36449⟩ := h36447
            have Xz36450 : EK [0, 2, 13] P Y36446 := Xy36449.mono (by decide)
            have h36451 := Xy36449.at ha0
            refine g_aload_n C dX2_seek_80 rfl 1 rfl ?_
            obtain ⟨b36452, e36453, h36454⟩ := Iy36448.fld (h36451) 2 0 0 rfl
            refine g_getR C fi_X2_21 rfl e36453 (h36451).1 (h36451).2 dX2_seek_81 ?_
            refine g_getI C fi_X2_62 (by decide) (h36454.at).1 (h36454.at).2 dX2_seek_84 ?_
            have h36455 := Iy36448.rg (h36454.at) 2 rfl
            refine g_topi (fun z36456 h36457 => ?_)
            have h36457 : z36456.toInt = (pI Y36446 b36452 2).toInt := congrArg Int32.toInt h36457
            refine g_istore (lv' := [(5, .int z36456), (4, .int z36431), (0, .ref a0), (1, .int a1), (2, .int a2), (3, .int a3)]) C dX2_seek_87 (by decide) rfl ?_
            refine g_aload_n C dX2_seek_89 rfl 2 rfl ?_
            obtain ⟨b36458, e36459, h36460⟩ := Iy36448.fld (h36451) 3 0 0 rfl
            refine g_getR C fi_X2_25 rfl e36459 (h36451).1 (h36451).2 dX2_seek_90 ?_
            refine g_getI C fi_X2_62 (by decide) (h36460.at).1 (h36460.at).2 dX2_seek_93 ?_
            have h36461 := Iy36448.rg (h36460.at) 2 rfl
            refine g_topi (fun z36462 h36463 => ?_)
            have h36463 : z36462.toInt = (pI Y36446 b36458 2).toInt := congrArg Int32.toInt h36463
            refine g_istore (lv' := [(6, .int z36462), (5, .int z36456), (4, .int z36431), (0, .ref a0), (1, .int a1), (2, .int a2), (3, .int a3)]) C dX2_seek_96 (by decide) rfl ?_
            refine g_aload_n C dX2_seek_98 rfl 3 rfl ?_
            refine g_getR C fi_X2_21 rfl e36453 (h36451).1 (h36451).2 dX2_seek_99 ?_
            refine g_aload_n C dX2_seek_102 rfl 3 rfl ?_
            obtain ⟨b36464, e36465, h36466⟩ := Iy36448.fld (h36451) 0 13 11 rfl
            refine g_getR C fi_X2_9 rfl e36465 (h36451).1 (h36451).2 dX2_seek_103 ?_
            refine g_iload_n C dX2_seek_106 rfl 4 rfl ?_
            refine g_iald (j := (a1.toInt.toNat)) C h36466.1 h36466.2.1 (ix_in h36466.2.2 (by omega)) dX2_seek_107 ?_
            refine g_topi (fun z36467 _ => ?_)
            refine g_callVV (rest := []) C mv_X2_71 [.int z36467] (s_X0_add Iy36448 h36454.at) (h36454.at).1 (h36454.at).2 rfl rfl (by decide) (Nat.le_of_ble_eq_true rfl) (by decide) dX2_seek_108 (fun Y36469 h36470 => ?_)
            obtain ⟨Iy36471, Xy36472⟩ := h36470
            have Xz36473 : EK [0, 2, 13] P Y36469 := Xz36450.tr (Xy36472.mono (by decide))
            have h36474 := Xy36472.at h36451
            refine g_aload_n C dX2_seek_111 rfl 3 rfl ?_
            obtain ⟨b36475, e36476, h36477⟩ := Iy36471.fld (h36474) 3 0 0 rfl
            refine g_getR C fi_X2_25 rfl e36476 (h36474).1 (h36474).2 dX2_seek_112 ?_
            refine g_aload_n C dX2_seek_115 rfl 3 rfl ?_
            obtain ⟨b36478, e36479, h36480⟩ := Iy36471.fld (h36474) 1 13 11 rfl
            refine g_getR C fi_X2_15 rfl e36479 (h36474).1 (h36474).2 dX2_seek_116 ?_
            refine g_iload_n C dX2_seek_119 rfl 4 rfl ?_
            refine g_iald (j := (a1.toInt.toNat)) C h36480.1 h36480.2.1 (ix_in h36480.2.2 (by omega)) dX2_seek_120 ?_
            refine g_topi (fun z36481 _ => ?_)
            refine g_callVV (rest := []) C mv_X2_71 [.int z36481] (s_X0_add Iy36471 h36477.at) (h36477.at).1 (h36477.at).2 rfl rfl (by decide) (Nat.le_of_ble_eq_true rfl) (by decide) dX2_seek_121 (fun Y36483 h36484 => ?_)
            obtain ⟨Iy36485, Xy36486⟩ := h36484
            have Xz36487 : EK [0, 2, 13] P Y36483 := Xz36473.tr (Xy36486.mono (by decide))
            have h36488 := Xy36486.at h36474
            refine g_aload_n C dX2_seek_124 rfl 3 rfl ?_
            obtain ⟨b36489, e36490, h36491⟩ := Iy36485.fld (h36488) 2 0 0 rfl
            refine g_getR C fi_X2_21 rfl e36490 (h36488).1 (h36488).2 dX2_seek_125 ?_
            refine g_getI C fi_X2_32 (by decide) (h36491.at).1 (h36491.at).2 dX2_seek_128 ?_
            have h36492 := Iy36485.rg (h36491.at) 3 rfl
            refine b_if_eq C 159 dX2_seek_131 (by decide) (fun h36493 => ?_) (fun h36493 => ?_)
            · have h36493 : (pI Y36483 b36489 3).toInt = 0 := congrArg Int32.toInt h36493
              refine g_lv (lv' := [(0, .ref a0), (5, .int z36456), (6, .int z36462)]) [3, 1, 0] rfl ?_
              exact J159 Y36483 z36456 z36462 Iy36485 Xz36487 (by omega) (by omega)
            · have h36493 : (pI Y36483 b36489 3).toInt ≠ 0 := ti_ne h36493
              refine g_aload_n C dX2_seek_134 rfl 3 rfl ?_
              obtain ⟨b36494, e36495, h36496⟩ := Iy36485.fld (h36488) 3 0 0 rfl
              refine g_getR C fi_X2_25 rfl e36495 (h36488).1 (h36488).2 dX2_seek_135 ?_
              refine g_getI C fi_X2_32 (by decide) (h36496.at).1 (h36496.at).2 dX2_seek_138 ?_
              have h36497 := Iy36485.rg (h36496.at) 3 rfl
              refine b_if_eq C 159 dX2_seek_141 (by decide) (fun h36498 => ?_) (fun h36498 => ?_)
              · have h36498 : (pI Y36483 b36494 3).toInt = 0 := congrArg Int32.toInt h36498
                refine g_lv (lv' := [(0, .ref a0), (5, .int z36456), (6, .int z36462)]) [3, 1, 0] rfl ?_
                exact J159 Y36483 z36456 z36462 Iy36485 Xz36487 (by omega) (by omega)
              · have h36498 : (pI Y36483 b36494 3).toInt ≠ 0 := ti_ne h36498
                refine g_aload_n C dX2_seek_144 rfl 3 rfl ?_
                refine g_iload_n C dX2_seek_145 rfl 4 rfl ?_
                refine g_iconst (v := 1) C dX2_seek_146 (by decide) ?_
                refine s_isub C dX2_seek_147 (by show -2147483648 ≤ a1.toInt - 1 ∧ a1.toInt - 1 ≤ 2147483647; omega) (fun z36499 h36500 => ?_)
                have h36500 : z36499.toInt = a1.toInt - 1 := h36500
                refine g_iload_n C dX2_seek_148 rfl 5 rfl ?_
                refine g_iconst (v := 1) C dX2_seek_149 (by decide) ?_
                refine g_iload_n C dX2_seek_150 rfl 4 rfl ?_
                refine a_ishl C dX2_seek_151 (fun z36501 => ?_)
                refine a_ior C dX2_seek_152 (fun z36503 => ?_)
                refine g_iload_n C dX2_seek_153 rfl 6 rfl ?_
                refine g_iconst (v := 1) C dX2_seek_154 (by decide) ?_
                refine s_iadd C dX2_seek_155 (by show -2147483648 ≤ a3.toInt + 1 ∧ a3.toInt + 1 ≤ 2147483647; omega) (fun z36505 h36506 => ?_)
                have h36506 : z36505.toInt = a3.toInt + 1 := h36506
                refine g_callVV (rest := []) C mv_X2_58 [.int z36499, .int z36503, .int z36505] (s_X2_seek_L8 Iy36485 h36488 (by omega) (by omega)) (h36488).1 (h36488).2 rfl rfl (by decide) (Nat.le_of_ble_eq_true rfl) (by decide) dX2_seek_156 (fun Y36508 h36509 => ?_)
                obtain ⟨Iy36510, Xy36511⟩ := h36509
                have Xz36512 : EK [0, 2, 13] P Y36508 := Xz36487.tr (Xy36511.mono (by decide))
                have h36513 := Xy36511.at h36488
                refine g_lv (lv' := [(0, .ref a0), (5, .int z36456), (6, .int z36462)]) [3, 1, 0] rfl ?_
                exact J159 Y36508 z36456 z36462 Iy36510 Xz36512 (by omega) (by omega)
          · have h36442 : z36440.toInt < z36431.toInt := h36442
            exact ret _ _ _ _ _ dX2_seek_70 (by decide) (by decide) ⟨I, EK.rf⟩
    · have h36437 : z36431.toInt = 0 := congrArg Int32.toInt h36437
      refine g_aload_n C dX2_seek_41 rfl 1 rfl ?_
      refine g_iload_n C dX2_seek_42 rfl 4 rfl ?_
      refine g_putI C fi_X2_45 rfl (ha0).1 (ha0).2 dX2_seek_43 ?_
      refine gpW (ks := [2]) (I.setI (ha0) (rgOk.of rfl (by omega))) (EK.setI (ha0).2 (by decide)) (fun Y36514 Iy36515 Xy36516 w36517 w36518 => ?_)
      have q36519 := w36517 4 (by decide)
      have q36520 := Xy36516.keep (h36423.at) (by decide) 2
      have q36521 := Xy36516.keep (h36427.at) (by decide) 2
      have Xz36522 : EK [0, 2, 13] P Y36514 := Xy36516.mono (by decide)
      have h36523 := Xy36516.at ha0
      refine g_aload_n C dX2_seek_46 rfl 1 rfl ?_
      refine g_iload_n C dX2_seek_47 rfl 3 rfl ?_
      refine g_putI C fi_X2_48 rfl (h36523).1 (h36523).2 dX2_seek_48 ?_
      refine gpW (ks := [2]) (Iy36515.setI (h36523) (rgOk.none rfl)) (EK.setI (h36523).2 (by decide)) (fun Y36524 Iy36525 Xy36526 w36527 w36528 => ?_)
      have q36529 := w36527 4 (by decide)
      have q36530 := w36527 5 (by decide)
      have Xz36531 : EK [0, 2, 13] P Y36524 := Xz36522.tr (Xy36526.mono (by decide))
      have h36532 := Xy36526.at h36523
      exact ret _ _ _ _ _ dX2_seek_51 (by decide) (by decide) ⟨Iy36525, Xz36531⟩
  · have h36436 : (pI P a0 5).toInt ≤ z36433.toInt := h36436
    exact ret _ _ _ _ _ dX2_seek_35 (by decide) (by decide) ⟨I, EK.rf⟩
set_option maxHeartbeats 4000000 in
set_option maxRecDepth 100000 in
theorem s_X2_seek_L10 {P : PP} {a0 : Nat} {a1 : Int32} {a2 : Int32} {a3 : Int32} (I : IV P) (ha0 : At P a0 2) (ha1 : 9 ≤ a1.toInt ∧ a1.toInt ≤ 9) (ha3 : 0 ≤ a3.toInt ∧ a3.toInt ≤ 1) : CtrV yX2_seek cX2_seek 7 none ({ frames := 12, cells := 0, slots := 0, locals := 768 } : Room) 0 0 P [.ref a0, .int a1, .int a2, .int a3] (fun P2 => IV P2 ∧ EK [0, 2, 13] P P2) := by
  refine enV (lv := [(0, .ref a0), (1, .int a1), (2, .int a2), (3, .int a3)]) (by decide) (Nat.le_of_ble_eq_true rfl) rfl (fun E D cy C Ci0 ret => ?_)
  have J159 : ∀ (P159 : PP) (v159_5 : Int32) (v159_6 : Int32), (IV P159) → (EK [0, 2, 13] P P159) → (0 ≤ v159_5.toInt ∧ v159_5.toInt ≤ 20) → (0 ≤ v159_6.toInt ∧ v159_6.toInt ≤ 20) → G E ({ frames := 12, cells := 0, slots := 0, locals := 768 } : Room) D cy 7 P159 0 0 159 [(0, .ref a0), (5, .int v159_5), (6, .int v159_6)] [] := by
    intro P159 v159_5 v159_6 I159 X159 hv159_5 hv159_6
    have h36667 := X159.at ha0
    refine g_aload_n C dX2_seek_159 rfl 0 rfl ?_
    obtain ⟨b36668, e36669, h36670⟩ := I159.fld (h36667) 2 0 0 rfl
    refine g_getR C fi_X2_21 rfl e36669 (h36667).1 (h36667).2 dX2_seek_160 ?_
    refine g_iload C dX2_seek_163 1 rfl ?_
    refine g_callVV (rest := []) C mv_X2_75 [.int v159_5] (s_X0_cut I159 h36670.at) (h36670.at).1 (h36670.at).2 rfl rfl (by decide) (Nat.le_of_ble_eq_true rfl) (by decide) dX2_seek_165 (fun Y36672 h36673 => ?_)
    obtain ⟨Iy36674, Xy36675⟩ := h36673
    have Xz36676 : EK [0, 2, 13] P Y36672 := X159.tr (Xy36675.mono (by decide))
    have h36677 := Xy36675.at h36667
    refine g_aload_n C dX2_seek_168 rfl 0 rfl ?_
    obtain ⟨b36678, e36679, h36680⟩ := Iy36674.fld (h36677) 3 0 0 rfl
    refine g_getR C fi_X2_25 rfl e36679 (h36677).1 (h36677).2 dX2_seek_169 ?_
    refine g_iload C dX2_seek_172 2 rfl ?_
    refine g_callVV (rest := []) C mv_X2_75 [.int v159_6] (s_X0_cut Iy36674 h36680.at) (h36680.at).1 (h36680.at).2 rfl rfl (by decide) (Nat.le_of_ble_eq_true rfl) (by decide) dX2_seek_174 (fun Y36682 h36683 => ?_)
    obtain ⟨Iy36684, Xy36685⟩ := h36683
    have Xz36686 : EK [0, 2, 13] P Y36682 := Xz36676.tr (Xy36685.mono (by decide))
    have h36687 := Xy36685.at h36677
    exact ret _ _ _ _ _ dX2_seek_177 (by decide) (by decide) ⟨Iy36684, Xz36686⟩
  refine g_aload_n C dX2_seek_0 rfl 0 rfl ?_
  refine g_getI C fi_X2_42 (by decide) (ha0).1 (ha0).2 dX2_seek_1 ?_
  have h36688 := I.rg (ha0) 4 rfl
  refine g_aload_n C dX2_seek_4 rfl 0 rfl ?_
  obtain ⟨b36689, e36690, h36691⟩ := I.fld (ha0) 2 0 0 rfl
  refine g_getR C fi_X2_21 rfl e36690 (ha0).1 (ha0).2 dX2_seek_5 ?_
  refine g_getI C fi_X2_62 (by decide) (h36691.at).1 (h36691.at).2 dX2_seek_8 ?_
  have h36692 := I.rg (h36691.at) 2 rfl
  refine g_aload_n C dX2_seek_11 rfl 0 rfl ?_
  obtain ⟨b36693, e36694, h36695⟩ := I.fld (ha0) 3 0 0 rfl
  refine g_getR C fi_X2_25 rfl e36694 (ha0).1 (ha0).2 dX2_seek_12 ?_
  refine g_getI C fi_X2_62 (by decide) (h36695.at).1 (h36695.at).2 dX2_seek_15 ?_
  have h36696 := I.rg (h36695.at) 2 rfl
  refine g_mmin C ms_X2_65 (by decide) (by decide) (Nat.le_of_ble_eq_true rfl) (by decide) dX2_seek_18 (fun z36697 h36698 => ?_)
  have h36698 : z36697.toInt ≤ (pI P b36689 2).toInt ∧ z36697.toInt ≤ (pI P b36693 2).toInt ∧ (z36697.toInt = (pI P b36689 2).toInt ∨ z36697.toInt = (pI P b36693 2).toInt) := h36698
  refine s_isub C dX2_seek_21 (by show -2147483648 ≤ (pI P a0 4).toInt - z36697.toInt ∧ (pI P a0 4).toInt - z36697.toInt ≤ 2147483647; omega) (fun z36699 h36700 => ?_)
  have h36700 : z36699.toInt = (pI P a0 4).toInt - z36697.toInt := h36700
  refine g_istore (lv' := [(4, .int z36699), (0, .ref a0), (1, .int a1), (2, .int a2), (3, .int a3)]) C dX2_seek_22 (by decide) rfl ?_
  refine g_iload_n C dX2_seek_24 rfl 4 rfl ?_
  refine g_iload C dX2_seek_25 0 rfl ?_
  refine s_iadd C dX2_seek_27 (by show -2147483648 ≤ a3.toInt + z36699.toInt ∧ a3.toInt + z36699.toInt ≤ 2147483647; omega) (fun z36701 h36702 => ?_)
  have h36702 : z36701.toInt = a3.toInt + z36699.toInt := h36702
  refine g_aload_n C dX2_seek_28 rfl 1 rfl ?_
  refine g_getI C fi_X2_45 (by decide) (ha0).1 (ha0).2 dX2_seek_29 ?_
  have h36703 := I.rg (ha0) 5 rfl
  refine b_icmp_lt C 36 dX2_seek_32 (by decide) (fun h36704 => ?_) (fun h36704 => ?_)
  · have h36704 : z36701.toInt < (pI P a0 5).toInt := h36704
    refine g_iload C dX2_seek_36 0 rfl ?_
    refine b_if_ne C 52 dX2_seek_38 (by decide) (fun h36705 => ?_) (fun h36705 => ?_)
    · have h36705 : z36699.toInt ≠ 0 := ti_ne h36705
      refine g_iload_n C dX2_seek_52 rfl 2 rfl ?_
      refine b_if_lt C 70 dX2_seek_53 (by decide) (fun h36706 => ?_) (fun h36706 => ?_)
      · have h36706 : a1.toInt < 0 := h36706
        omega
      · have h36706 : 0 ≤ a1.toInt := h36706
        refine g_iload_n C dX2_seek_56 rfl 2 rfl ?_
        refine g_bipush (v := 11) C dX2_seek_57 (by decide) ?_
        refine b_icmp_ge C 70 dX2_seek_59 (by decide) (fun h36707 => ?_) (fun h36707 => ?_)
        · have h36707 : 11 ≤ a1.toInt := h36707
          omega
        · have h36707 : a1.toInt < 11 := h36707
          refine g_iload C dX2_seek_62 0 rfl ?_
          refine g_iload_n C dX2_seek_64 rfl 2 rfl ?_
          refine g_iconst (v := 1) C dX2_seek_65 (by decide) ?_
          refine s_iadd C dX2_seek_66 (by show -2147483648 ≤ a1.toInt + 1 ∧ a1.toInt + 1 ≤ 2147483647; omega) (fun z36708 h36709 => ?_)
          have h36709 : z36708.toInt = a1.toInt + 1 := h36709
          refine b_icmp_le C 71 dX2_seek_67 (by decide) (fun h36710 => ?_) (fun h36710 => ?_)
          · have h36710 : z36699.toInt ≤ z36708.toInt := h36710
            refine g_aload_n C dX2_seek_71 rfl 1 rfl ?_
            refine g_iload_n C dX2_seek_72 rfl 2 rfl ?_
            refine g_iconst (v := 1) C dX2_seek_73 (by decide) ?_
            refine s_isub C dX2_seek_74 (by show -2147483648 ≤ a1.toInt - 1 ∧ a1.toInt - 1 ≤ 2147483647; omega) (fun z36711 h36712 => ?_)
            have h36712 : z36711.toInt = a1.toInt - 1 := h36712
            refine g_iload_n C dX2_seek_75 rfl 3 rfl ?_
            refine g_iload_n C dX2_seek_76 rfl 4 rfl ?_
            refine g_callVV (rest := []) C mv_X2_58 [.int z36711, .int a2, .int a3] (s_X2_seek_L9 I ha0 (by omega) (by omega)) (ha0).1 (ha0).2 rfl rfl (by decide) (Nat.le_of_ble_eq_true rfl) (by decide) dX2_seek_77 (fun Y36714 h36715 => ?_)
            obtain ⟨Iy36716, Xy36717⟩ := h36715
            have Xz36718 : EK [0, 2, 13] P Y36714 := Xy36717.mono (by decide)
            have h36719 := Xy36717.at ha0
            refine g_aload_n C dX2_seek_80 rfl 1 rfl ?_
            obtain ⟨b36720, e36721, h36722⟩ := Iy36716.fld (h36719) 2 0 0 rfl
            refine g_getR C fi_X2_21 rfl e36721 (h36719).1 (h36719).2 dX2_seek_81 ?_
            refine g_getI C fi_X2_62 (by decide) (h36722.at).1 (h36722.at).2 dX2_seek_84 ?_
            have h36723 := Iy36716.rg (h36722.at) 2 rfl
            refine g_topi (fun z36724 h36725 => ?_)
            have h36725 : z36724.toInt = (pI Y36714 b36720 2).toInt := congrArg Int32.toInt h36725
            refine g_istore (lv' := [(5, .int z36724), (4, .int z36699), (0, .ref a0), (1, .int a1), (2, .int a2), (3, .int a3)]) C dX2_seek_87 (by decide) rfl ?_
            refine g_aload_n C dX2_seek_89 rfl 2 rfl ?_
            obtain ⟨b36726, e36727, h36728⟩ := Iy36716.fld (h36719) 3 0 0 rfl
            refine g_getR C fi_X2_25 rfl e36727 (h36719).1 (h36719).2 dX2_seek_90 ?_
            refine g_getI C fi_X2_62 (by decide) (h36728.at).1 (h36728.at).2 dX2_seek_93 ?_
            have h36729 := Iy36716.rg (h36728.at) 2 rfl
            refine g_topi (fun z36730 h36731 => ?_)
            have h36731 : z36730.toInt = (pI Y36714 b36726 2).toInt := congrArg Int32.toInt h36731
            refine g_istore (lv' := [(6, .int z36730), (5, .int z36724), (4, .int z36699), (0, .ref a0), (1, .int a1), (2, .int a2), (3, .int a3)]) C dX2_seek_96 (by decide) rfl ?_
            refine g_aload_n C dX2_seek_98 rfl 3 rfl ?_
            refine g_getR C fi_X2_21 rfl e36721 (h36719).1 (h36719).2 dX2_seek_99 ?_
            refine g_aload_n C dX2_seek_102 rfl 3 rfl ?_
            obtain ⟨b36732, e36733, h36734⟩ := Iy36716.fld (h36719) 0 13 11 rfl
            refine g_getR C fi_X2_9 rfl e36733 (h36719).1 (h36719).2 dX2_seek_103 ?_
            refine g_iload_n C dX2_seek_106 rfl 4 rfl ?_
            refine g_iald (j := (a1.toInt.toNat)) C h36734.1 h36734.2.1 (ix_in h36734.2.2 (by omega)) dX2_seek_107 ?_
            refine g_topi (fun z36735 _ => ?_)
            refine g_callVV (rest := []) C mv_X2_71 [.int z36735] (s_X0_add Iy36716 h36722.at) (h36722.at).1 (h36722.at).2 rfl rfl (by decide) (Nat.le_of_ble_eq_true rfl) (by decide) dX2_seek_108 (fun Y36737 h36738 => ?_)
            obtain ⟨Iy36739, Xy36740⟩ := h36738
            have Xz36741 : EK [0, 2, 13] P Y36737 := Xz36718.tr (Xy36740.mono (by decide))
            have h36742 := Xy36740.at h36719
            refine g_aload_n C dX2_seek_111 rfl 3 rfl ?_
            obtain ⟨b36743, e36744, h36745⟩ := Iy36739.fld (h36742) 3 0 0 rfl
            refine g_getR C fi_X2_25 rfl e36744 (h36742).1 (h36742).2 dX2_seek_112 ?_
            refine g_aload_n C dX2_seek_115 rfl 3 rfl ?_
            obtain ⟨b36746, e36747, h36748⟩ := Iy36739.fld (h36742) 1 13 11 rfl
            refine g_getR C fi_X2_15 rfl e36747 (h36742).1 (h36742).2 dX2_seek_116 ?_
            refine g_iload_n C dX2_seek_119 rfl 4 rfl ?_
            refine g_iald (j := (a1.toInt.toNat)) C h36748.1 h36748.2.1 (ix_in h36748.2.2 (by omega)) dX2_seek_120 ?_
            refine g_topi (fun z36749 _ => ?_)
            refine g_callVV (rest := []) C mv_X2_71 [.int z36749] (s_X0_add Iy36739 h36745.at) (h36745.at).1 (h36745.at).2 rfl rfl (by decide) (Nat.le_of_ble_eq_true rfl) (by decide) dX2_seek_121 (fun Y36751 h36752 => ?_)
            obtain ⟨Iy36753, Xy36754⟩ := h36752
            have Xz36755 : EK [0, 2, 13] P Y36751 := Xz36741.tr (Xy36754.mono (by decide))
            have h36756 := Xy36754.at h36742
            refine g_aload_n C dX2_seek_124 rfl 3 rfl ?_
            obtain ⟨b36757, e36758, h36759⟩ := Iy36753.fld (h36756) 2 0 0 rfl
            refine g_getR C fi_X2_21 rfl e36758 (h36756).1 (h36756).2 dX2_seek_125 ?_
            refine g_getI C fi_X2_32 (by decide) (h36759.at).1 (h36759.at).2 dX2_seek_128 ?_
            have h36760 := Iy36753.rg (h36759.at) 3 rfl
            refine b_if_eq C 159 dX2_seek_131 (by decide) (fun h36761 => ?_) (fun h36761 => ?_)
            · have h36761 : (pI Y36751 b36757 3).toInt = 0 := congrArg Int32.toInt h36761
              refine g_lv (lv' := [(0, .ref a0), (5, .int z36724), (6, .int z36730)]) [3, 1, 0] rfl ?_
              exact J159 Y36751 z36724 z36730 Iy36753 Xz36755 (by omega) (by omega)
            · have h36761 : (pI Y36751 b36757 3).toInt ≠ 0 := ti_ne h36761
              refine g_aload_n C dX2_seek_134 rfl 3 rfl ?_
              obtain ⟨b36762, e36763, h36764⟩ := Iy36753.fld (h36756) 3 0 0 rfl
              refine g_getR C fi_X2_25 rfl e36763 (h36756).1 (h36756).2 dX2_seek_135 ?_
              refine g_getI C fi_X2_32 (by decide) (h36764.at).1 (h36764.at).2 dX2_seek_138 ?_
              have h36765 := Iy36753.rg (h36764.at) 3 rfl
              refine b_if_eq C 159 dX2_seek_141 (by decide) (fun h36766 => ?_) (fun h36766 => ?_)
              · have h36766 : (pI Y36751 b36762 3).toInt = 0 := congrArg Int32.toInt h36766
                refine g_lv (lv' := [(0, .ref a0), (5, .int z36724), (6, .int z36730)]) [3, 1, 0] rfl ?_
                exact J159 Y36751 z36724 z36730 Iy36753 Xz36755 (by omega) (by omega)
              · have h36766 : (pI Y36751 b36762 3).toInt ≠ 0 := ti_ne h36766
                refine g_aload_n C dX2_seek_144 rfl 3 rfl ?_
                refine g_iload_n C dX2_seek_145 rfl 4 rfl ?_
                refine g_iconst (v := 1) C dX2_seek_146 (by decide) ?_
                refine s_isub C dX2_seek_147 (by show -2147483648 ≤ a1.toInt - 1 ∧ a1.toInt - 1 ≤ 2147483647; omega) (fun z36767 h36768 => ?_)
                have h36768 : z36767.toInt = a1.toInt - 1 := h36768
                refine g_iload_n C dX2_seek_148 rfl 5 rfl ?_
                refine g_iconst (v := 1) C dX2_seek_149 (by decide) ?_
                refine g_iload_n C dX2_seek_150 rfl 4 rfl ?_
                refine a_ishl C dX2_seek_151 (fun z36769 => ?_)
                refine a_ior C dX2_seek_152 (fun z36771 => ?_)
                refine g_iload_n C dX2_seek_153 rfl 6 rfl ?_
                refine g_iconst (v := 1) C dX2_seek_154 (by decide) ?_
                refine s_iadd C dX2_seek_155 (by show -2147483648 ≤ a3.toInt + 1 ∧ a3.toInt + 1 ≤ 2147483647; omega) (fun z36773 h36774 => ?_)
                have h36774 : z36773.toInt = a3.toInt + 1 := h36774
                refine g_callVV (rest := []) C mv_X2_58 [.int z36767, .int z36771, .int z36773] (s_X2_seek_L9 Iy36753 h36756 (by omega) (by omega)) (h36756).1 (h36756).2 rfl rfl (by decide) (Nat.le_of_ble_eq_true rfl) (by decide) dX2_seek_156 (fun Y36776 h36777 => ?_)
                obtain ⟨Iy36778, Xy36779⟩ := h36777
                have Xz36780 : EK [0, 2, 13] P Y36776 := Xz36755.tr (Xy36779.mono (by decide))
                have h36781 := Xy36779.at h36756
                refine g_lv (lv' := [(0, .ref a0), (5, .int z36724), (6, .int z36730)]) [3, 1, 0] rfl ?_
                exact J159 Y36776 z36724 z36730 Iy36778 Xz36780 (by omega) (by omega)
          · have h36710 : z36708.toInt < z36699.toInt := h36710
            exact ret _ _ _ _ _ dX2_seek_70 (by decide) (by decide) ⟨I, EK.rf⟩
    · have h36705 : z36699.toInt = 0 := congrArg Int32.toInt h36705
      refine g_aload_n C dX2_seek_41 rfl 1 rfl ?_
      refine g_iload_n C dX2_seek_42 rfl 4 rfl ?_
      refine g_putI C fi_X2_45 rfl (ha0).1 (ha0).2 dX2_seek_43 ?_
      refine gpW (ks := [2]) (I.setI (ha0) (rgOk.of rfl (by omega))) (EK.setI (ha0).2 (by decide)) (fun Y36782 Iy36783 Xy36784 w36785 w36786 => ?_)
      have q36787 := w36785 4 (by decide)
      have q36788 := Xy36784.keep (h36691.at) (by decide) 2
      have q36789 := Xy36784.keep (h36695.at) (by decide) 2
      have Xz36790 : EK [0, 2, 13] P Y36782 := Xy36784.mono (by decide)
      have h36791 := Xy36784.at ha0
      refine g_aload_n C dX2_seek_46 rfl 1 rfl ?_
      refine g_iload_n C dX2_seek_47 rfl 3 rfl ?_
      refine g_putI C fi_X2_48 rfl (h36791).1 (h36791).2 dX2_seek_48 ?_
      refine gpW (ks := [2]) (Iy36783.setI (h36791) (rgOk.none rfl)) (EK.setI (h36791).2 (by decide)) (fun Y36792 Iy36793 Xy36794 w36795 w36796 => ?_)
      have q36797 := w36795 4 (by decide)
      have q36798 := w36795 5 (by decide)
      have Xz36799 : EK [0, 2, 13] P Y36792 := Xz36790.tr (Xy36794.mono (by decide))
      have h36800 := Xy36794.at h36791
      exact ret _ _ _ _ _ dX2_seek_51 (by decide) (by decide) ⟨Iy36793, Xz36799⟩
  · have h36704 : (pI P a0 5).toInt ≤ z36701.toInt := h36704
    exact ret _ _ _ _ _ dX2_seek_35 (by decide) (by decide) ⟨I, EK.rf⟩
set_option maxHeartbeats 4000000 in
set_option maxRecDepth 100000 in
theorem s_X2_seek_L11 {P : PP} {a0 : Nat} {a1 : Int32} {a2 : Int32} {a3 : Int32} (I : IV P) (ha0 : At P a0 2) (ha1 : 10 ≤ a1.toInt ∧ a1.toInt ≤ 10) (ha3 : 0 ≤ a3.toInt ∧ a3.toInt ≤ 0) : CtrV yX2_seek cX2_seek 7 none ({ frames := 13, cells := 0, slots := 0, locals := 832 } : Room) 0 0 P [.ref a0, .int a1, .int a2, .int a3] (fun P2 => IV P2 ∧ EK [0, 2, 13] P P2) := by
  refine enV (lv := [(0, .ref a0), (1, .int a1), (2, .int a2), (3, .int a3)]) (by decide) (Nat.le_of_ble_eq_true rfl) rfl (fun E D cy C Ci0 ret => ?_)
  have J159 : ∀ (P159 : PP) (v159_5 : Int32) (v159_6 : Int32), (IV P159) → (EK [0, 2, 13] P P159) → (0 ≤ v159_5.toInt ∧ v159_5.toInt ≤ 20) → (0 ≤ v159_6.toInt ∧ v159_6.toInt ≤ 20) → G E ({ frames := 13, cells := 0, slots := 0, locals := 832 } : Room) D cy 7 P159 0 0 159 [(0, .ref a0), (5, .int v159_5), (6, .int v159_6)] [] := by
    intro P159 v159_5 v159_6 I159 X159 hv159_5 hv159_6
    have h36935 := X159.at ha0
    refine g_aload_n C dX2_seek_159 rfl 0 rfl ?_
    obtain ⟨b36936, e36937, h36938⟩ := I159.fld (h36935) 2 0 0 rfl
    refine g_getR C fi_X2_21 rfl e36937 (h36935).1 (h36935).2 dX2_seek_160 ?_
    refine g_iload C dX2_seek_163 1 rfl ?_
    refine g_callVV (rest := []) C mv_X2_75 [.int v159_5] (s_X0_cut I159 h36938.at) (h36938.at).1 (h36938.at).2 rfl rfl (by decide) (Nat.le_of_ble_eq_true rfl) (by decide) dX2_seek_165 (fun Y36940 h36941 => ?_)
    obtain ⟨Iy36942, Xy36943⟩ := h36941
    have Xz36944 : EK [0, 2, 13] P Y36940 := X159.tr (Xy36943.mono (by decide))
    have h36945 := Xy36943.at h36935
    refine g_aload_n C dX2_seek_168 rfl 0 rfl ?_
    obtain ⟨b36946, e36947, h36948⟩ := Iy36942.fld (h36945) 3 0 0 rfl
    refine g_getR C fi_X2_25 rfl e36947 (h36945).1 (h36945).2 dX2_seek_169 ?_
    refine g_iload C dX2_seek_172 2 rfl ?_
    refine g_callVV (rest := []) C mv_X2_75 [.int v159_6] (s_X0_cut Iy36942 h36948.at) (h36948.at).1 (h36948.at).2 rfl rfl (by decide) (Nat.le_of_ble_eq_true rfl) (by decide) dX2_seek_174 (fun Y36950 h36951 => ?_)
    obtain ⟨Iy36952, Xy36953⟩ := h36951
    have Xz36954 : EK [0, 2, 13] P Y36950 := Xz36944.tr (Xy36953.mono (by decide))
    have h36955 := Xy36953.at h36945
    exact ret _ _ _ _ _ dX2_seek_177 (by decide) (by decide) ⟨Iy36952, Xz36954⟩
  refine g_aload_n C dX2_seek_0 rfl 0 rfl ?_
  refine g_getI C fi_X2_42 (by decide) (ha0).1 (ha0).2 dX2_seek_1 ?_
  have h36956 := I.rg (ha0) 4 rfl
  refine g_aload_n C dX2_seek_4 rfl 0 rfl ?_
  obtain ⟨b36957, e36958, h36959⟩ := I.fld (ha0) 2 0 0 rfl
  refine g_getR C fi_X2_21 rfl e36958 (ha0).1 (ha0).2 dX2_seek_5 ?_
  refine g_getI C fi_X2_62 (by decide) (h36959.at).1 (h36959.at).2 dX2_seek_8 ?_
  have h36960 := I.rg (h36959.at) 2 rfl
  refine g_aload_n C dX2_seek_11 rfl 0 rfl ?_
  obtain ⟨b36961, e36962, h36963⟩ := I.fld (ha0) 3 0 0 rfl
  refine g_getR C fi_X2_25 rfl e36962 (ha0).1 (ha0).2 dX2_seek_12 ?_
  refine g_getI C fi_X2_62 (by decide) (h36963.at).1 (h36963.at).2 dX2_seek_15 ?_
  have h36964 := I.rg (h36963.at) 2 rfl
  refine g_mmin C ms_X2_65 (by decide) (by decide) (Nat.le_of_ble_eq_true rfl) (by decide) dX2_seek_18 (fun z36965 h36966 => ?_)
  have h36966 : z36965.toInt ≤ (pI P b36957 2).toInt ∧ z36965.toInt ≤ (pI P b36961 2).toInt ∧ (z36965.toInt = (pI P b36957 2).toInt ∨ z36965.toInt = (pI P b36961 2).toInt) := h36966
  refine s_isub C dX2_seek_21 (by show -2147483648 ≤ (pI P a0 4).toInt - z36965.toInt ∧ (pI P a0 4).toInt - z36965.toInt ≤ 2147483647; omega) (fun z36967 h36968 => ?_)
  have h36968 : z36967.toInt = (pI P a0 4).toInt - z36965.toInt := h36968
  refine g_istore (lv' := [(4, .int z36967), (0, .ref a0), (1, .int a1), (2, .int a2), (3, .int a3)]) C dX2_seek_22 (by decide) rfl ?_
  refine g_iload_n C dX2_seek_24 rfl 4 rfl ?_
  refine g_iload C dX2_seek_25 0 rfl ?_
  refine s_iadd C dX2_seek_27 (by show -2147483648 ≤ a3.toInt + z36967.toInt ∧ a3.toInt + z36967.toInt ≤ 2147483647; omega) (fun z36969 h36970 => ?_)
  have h36970 : z36969.toInt = a3.toInt + z36967.toInt := h36970
  refine g_aload_n C dX2_seek_28 rfl 1 rfl ?_
  refine g_getI C fi_X2_45 (by decide) (ha0).1 (ha0).2 dX2_seek_29 ?_
  have h36971 := I.rg (ha0) 5 rfl
  refine b_icmp_lt C 36 dX2_seek_32 (by decide) (fun h36972 => ?_) (fun h36972 => ?_)
  · have h36972 : z36969.toInt < (pI P a0 5).toInt := h36972
    refine g_iload C dX2_seek_36 0 rfl ?_
    refine b_if_ne C 52 dX2_seek_38 (by decide) (fun h36973 => ?_) (fun h36973 => ?_)
    · have h36973 : z36967.toInt ≠ 0 := ti_ne h36973
      refine g_iload_n C dX2_seek_52 rfl 2 rfl ?_
      refine b_if_lt C 70 dX2_seek_53 (by decide) (fun h36974 => ?_) (fun h36974 => ?_)
      · have h36974 : a1.toInt < 0 := h36974
        omega
      · have h36974 : 0 ≤ a1.toInt := h36974
        refine g_iload_n C dX2_seek_56 rfl 2 rfl ?_
        refine g_bipush (v := 11) C dX2_seek_57 (by decide) ?_
        refine b_icmp_ge C 70 dX2_seek_59 (by decide) (fun h36975 => ?_) (fun h36975 => ?_)
        · have h36975 : 11 ≤ a1.toInt := h36975
          omega
        · have h36975 : a1.toInt < 11 := h36975
          refine g_iload C dX2_seek_62 0 rfl ?_
          refine g_iload_n C dX2_seek_64 rfl 2 rfl ?_
          refine g_iconst (v := 1) C dX2_seek_65 (by decide) ?_
          refine s_iadd C dX2_seek_66 (by show -2147483648 ≤ a1.toInt + 1 ∧ a1.toInt + 1 ≤ 2147483647; omega) (fun z36976 h36977 => ?_)
          have h36977 : z36976.toInt = a1.toInt + 1 := h36977
          refine b_icmp_le C 71 dX2_seek_67 (by decide) (fun h36978 => ?_) (fun h36978 => ?_)
          · have h36978 : z36967.toInt ≤ z36976.toInt := h36978
            refine g_aload_n C dX2_seek_71 rfl 1 rfl ?_
            refine g_iload_n C dX2_seek_72 rfl 2 rfl ?_
            refine g_iconst (v := 1) C dX2_seek_73 (by decide) ?_
            refine s_isub C dX2_seek_74 (by show -2147483648 ≤ a1.toInt - 1 ∧ a1.toInt - 1 ≤ 2147483647; omega) (fun z36979 h36980 => ?_)
            have h36980 : z36979.toInt = a1.toInt - 1 := h36980
            refine g_iload_n C dX2_seek_75 rfl 3 rfl ?_
            refine g_iload_n C dX2_seek_76 rfl 4 rfl ?_
            refine g_callVV (rest := []) C mv_X2_58 [.int z36979, .int a2, .int a3] (s_X2_seek_L10 I ha0 (by omega) (by omega)) (ha0).1 (ha0).2 rfl rfl (by decide) (Nat.le_of_ble_eq_true rfl) (by decide) dX2_seek_77 (fun Y36982 h36983 => ?_)
            obtain ⟨Iy36984, Xy36985⟩ := h36983
            have Xz36986 : EK [0, 2, 13] P Y36982 := Xy36985.mono (by decide)
            have h36987 := Xy36985.at ha0
            refine g_aload_n C dX2_seek_80 rfl 1 rfl ?_
            obtain ⟨b36988, e36989, h36990⟩ := Iy36984.fld (h36987) 2 0 0 rfl
            refine g_getR C fi_X2_21 rfl e36989 (h36987).1 (h36987).2 dX2_seek_81 ?_
            refine g_getI C fi_X2_62 (by decide) (h36990.at).1 (h36990.at).2 dX2_seek_84 ?_
            have h36991 := Iy36984.rg (h36990.at) 2 rfl
            refine g_topi (fun z36992 h36993 => ?_)
            have h36993 : z36992.toInt = (pI Y36982 b36988 2).toInt := congrArg Int32.toInt h36993
            refine g_istore (lv' := [(5, .int z36992), (4, .int z36967), (0, .ref a0), (1, .int a1), (2, .int a2), (3, .int a3)]) C dX2_seek_87 (by decide) rfl ?_
            refine g_aload_n C dX2_seek_89 rfl 2 rfl ?_
            obtain ⟨b36994, e36995, h36996⟩ := Iy36984.fld (h36987) 3 0 0 rfl
            refine g_getR C fi_X2_25 rfl e36995 (h36987).1 (h36987).2 dX2_seek_90 ?_
            refine g_getI C fi_X2_62 (by decide) (h36996.at).1 (h36996.at).2 dX2_seek_93 ?_
            have h36997 := Iy36984.rg (h36996.at) 2 rfl
            refine g_topi (fun z36998 h36999 => ?_)
            have h36999 : z36998.toInt = (pI Y36982 b36994 2).toInt := congrArg Int32.toInt h36999
            refine g_istore (lv' := [(6, .int z36998), (5, .int z36992), (4, .int z36967), (0, .ref a0), (1, .int a1), (2, .int a2), (3, .int a3)]) C dX2_seek_96 (by decide) rfl ?_
            refine g_aload_n C dX2_seek_98 rfl 3 rfl ?_
            refine g_getR C fi_X2_21 rfl e36989 (h36987).1 (h36987).2 dX2_seek_99 ?_
            refine g_aload_n C dX2_seek_102 rfl 3 rfl ?_
            obtain ⟨b37000, e37001, h37002⟩ := Iy36984.fld (h36987) 0 13 11 rfl
            refine g_getR C fi_X2_9 rfl e37001 (h36987).1 (h36987).2 dX2_seek_103 ?_
            refine g_iload_n C dX2_seek_106 rfl 4 rfl ?_
            refine g_iald (j := (a1.toInt.toNat)) C h37002.1 h37002.2.1 (ix_in h37002.2.2 (by omega)) dX2_seek_107 ?_
            refine g_topi (fun z37003 _ => ?_)
            refine g_callVV (rest := []) C mv_X2_71 [.int z37003] (s_X0_add Iy36984 h36990.at) (h36990.at).1 (h36990.at).2 rfl rfl (by decide) (Nat.le_of_ble_eq_true rfl) (by decide) dX2_seek_108 (fun Y37005 h37006 => ?_)
            obtain ⟨Iy37007, Xy37008⟩ := h37006
            have Xz37009 : EK [0, 2, 13] P Y37005 := Xz36986.tr (Xy37008.mono (by decide))
            have h37010 := Xy37008.at h36987
            refine g_aload_n C dX2_seek_111 rfl 3 rfl ?_
            obtain ⟨b37011, e37012, h37013⟩ := Iy37007.fld (h37010) 3 0 0 rfl
            refine g_getR C fi_X2_25 rfl e37012 (h37010).1 (h37010).2 dX2_seek_112 ?_
            refine g_aload_n C dX2_seek_115 rfl 3 rfl ?_
            obtain ⟨b37014, e37015, h37016⟩ := Iy37007.fld (h37010) 1 13 11 rfl
            refine g_getR C fi_X2_15 rfl e37015 (h37010).1 (h37010).2 dX2_seek_116 ?_
            refine g_iload_n C dX2_seek_119 rfl 4 rfl ?_
            refine g_iald (j := (a1.toInt.toNat)) C h37016.1 h37016.2.1 (ix_in h37016.2.2 (by omega)) dX2_seek_120 ?_
            refine g_topi (fun z37017 _ => ?_)
            refine g_callVV (rest := []) C mv_X2_71 [.int z37017] (s_X0_add Iy37007 h37013.at) (h37013.at).1 (h37013.at).2 rfl rfl (by decide) (Nat.le_of_ble_eq_true rfl) (by decide) dX2_seek_121 (fun Y37019 h37020 => ?_)
            obtain ⟨Iy37021, Xy37022⟩ := h37020
            have Xz37023 : EK [0, 2, 13] P Y37019 := Xz37009.tr (Xy37022.mono (by decide))
            have h37024 := Xy37022.at h37010
            refine g_aload_n C dX2_seek_124 rfl 3 rfl ?_
            obtain ⟨b37025, e37026, h37027⟩ := Iy37021.fld (h37024) 2 0 0 rfl
            refine g_getR C fi_X2_21 rfl e37026 (h37024).1 (h37024).2 dX2_seek_125 ?_
            refine g_getI C fi_X2_32 (by decide) (h37027.at).1 (h37027.at).2 dX2_seek_128 ?_
            have h37028 := Iy37021.rg (h37027.at) 3 rfl
            refine b_if_eq C 159 dX2_seek_131 (by decide) (fun h37029 => ?_) (fun h37029 => ?_)
            · have h37029 : (pI Y37019 b37025 3).toInt = 0 := congrArg Int32.toInt h37029
              refine g_lv (lv' := [(0, .ref a0), (5, .int z36992), (6, .int z36998)]) [3, 1, 0] rfl ?_
              exact J159 Y37019 z36992 z36998 Iy37021 Xz37023 (by omega) (by omega)
            · have h37029 : (pI Y37019 b37025 3).toInt ≠ 0 := ti_ne h37029
              refine g_aload_n C dX2_seek_134 rfl 3 rfl ?_
              obtain ⟨b37030, e37031, h37032⟩ := Iy37021.fld (h37024) 3 0 0 rfl
              refine g_getR C fi_X2_25 rfl e37031 (h37024).1 (h37024).2 dX2_seek_135 ?_
              refine g_getI C fi_X2_32 (by decide) (h37032.at).1 (h37032.at).2 dX2_seek_138 ?_
              have h37033 := Iy37021.rg (h37032.at) 3 rfl
              refine b_if_eq C 159 dX2_seek_141 (by decide) (fun h37034 => ?_) (fun h37034 => ?_)
              · have h37034 : (pI Y37019 b37030 3).toInt = 0 := congrArg Int32.toInt h37034
                refine g_lv (lv' := [(0, .ref a0), (5, .int z36992), (6, .int z36998)]) [3, 1, 0] rfl ?_
                exact J159 Y37019 z36992 z36998 Iy37021 Xz37023 (by omega) (by omega)
              · have h37034 : (pI Y37019 b37030 3).toInt ≠ 0 := ti_ne h37034
                refine g_aload_n C dX2_seek_144 rfl 3 rfl ?_
                refine g_iload_n C dX2_seek_145 rfl 4 rfl ?_
                refine g_iconst (v := 1) C dX2_seek_146 (by decide) ?_
                refine s_isub C dX2_seek_147 (by show -2147483648 ≤ a1.toInt - 1 ∧ a1.toInt - 1 ≤ 2147483647; omega) (fun z37035 h37036 => ?_)
                have h37036 : z37035.toInt = a1.toInt - 1 := h37036
                refine g_iload_n C dX2_seek_148 rfl 5 rfl ?_
                refine g_iconst (v := 1) C dX2_seek_149 (by decide) ?_
                refine g_iload_n C dX2_seek_150 rfl 4 rfl ?_
                refine a_ishl C dX2_seek_151 (fun z37037 => ?_)
                refine a_ior C dX2_seek_152 (fun z37039 => ?_)
                refine g_iload_n C dX2_seek_153 rfl 6 rfl ?_
                refine g_iconst (v := 1) C dX2_seek_154 (by decide) ?_
                refine s_iadd C dX2_seek_155 (by show -2147483648 ≤ a3.toInt + 1 ∧ a3.toInt + 1 ≤ 2147483647; omega) (fun z37041 h37042 => ?_)
                have h37042 : z37041.toInt = a3.toInt + 1 := h37042
                refine g_callVV (rest := []) C mv_X2_58 [.int z37035, .int z37039, .int z37041] (s_X2_seek_L10 Iy37021 h37024 (by omega) (by omega)) (h37024).1 (h37024).2 rfl rfl (by decide) (Nat.le_of_ble_eq_true rfl) (by decide) dX2_seek_156 (fun Y37044 h37045 => ?_)
                obtain ⟨Iy37046, Xy37047⟩ := h37045
                have Xz37048 : EK [0, 2, 13] P Y37044 := Xz37023.tr (Xy37047.mono (by decide))
                have h37049 := Xy37047.at h37024
                refine g_lv (lv' := [(0, .ref a0), (5, .int z36992), (6, .int z36998)]) [3, 1, 0] rfl ?_
                exact J159 Y37044 z36992 z36998 Iy37046 Xz37048 (by omega) (by omega)
          · have h36978 : z36976.toInt < z36967.toInt := h36978
            exact ret _ _ _ _ _ dX2_seek_70 (by decide) (by decide) ⟨I, EK.rf⟩
    · have h36973 : z36967.toInt = 0 := congrArg Int32.toInt h36973
      refine g_aload_n C dX2_seek_41 rfl 1 rfl ?_
      refine g_iload_n C dX2_seek_42 rfl 4 rfl ?_
      refine g_putI C fi_X2_45 rfl (ha0).1 (ha0).2 dX2_seek_43 ?_
      refine gpW (ks := [2]) (I.setI (ha0) (rgOk.of rfl (by omega))) (EK.setI (ha0).2 (by decide)) (fun Y37050 Iy37051 Xy37052 w37053 w37054 => ?_)
      have q37055 := w37053 4 (by decide)
      have q37056 := Xy37052.keep (h36959.at) (by decide) 2
      have q37057 := Xy37052.keep (h36963.at) (by decide) 2
      have Xz37058 : EK [0, 2, 13] P Y37050 := Xy37052.mono (by decide)
      have h37059 := Xy37052.at ha0
      refine g_aload_n C dX2_seek_46 rfl 1 rfl ?_
      refine g_iload_n C dX2_seek_47 rfl 3 rfl ?_
      refine g_putI C fi_X2_48 rfl (h37059).1 (h37059).2 dX2_seek_48 ?_
      refine gpW (ks := [2]) (Iy37051.setI (h37059) (rgOk.none rfl)) (EK.setI (h37059).2 (by decide)) (fun Y37060 Iy37061 Xy37062 w37063 w37064 => ?_)
      have q37065 := w37063 4 (by decide)
      have q37066 := w37063 5 (by decide)
      have Xz37067 : EK [0, 2, 13] P Y37060 := Xz37058.tr (Xy37062.mono (by decide))
      have h37068 := Xy37062.at h37059
      exact ret _ _ _ _ _ dX2_seek_51 (by decide) (by decide) ⟨Iy37061, Xz37067⟩
  · have h36972 : (pI P a0 5).toInt ≤ z36969.toInt := h36972
    exact ret _ _ _ _ _ dX2_seek_35 (by decide) (by decide) ⟨I, EK.rf⟩
