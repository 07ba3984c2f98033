theorem dX11_tocome_0 : decode cX11_tocome 0 = .ok (.iload_n 1, 1) := by decide +kernel
theorem dX11_tocome_1 : decode cX11_tocome 1 = .ok (.invokestatic 158, 3) := by decide +kernel
theorem dX11_tocome_4 : decode cX11_tocome 4 = .ok (.ifCond .eq 20, 3) := by decide +kernel
theorem dX11_tocome_7 : decode cX11_tocome 7 = .ok (.aload_n 0, 1) := by decide +kernel
theorem dX11_tocome_8 : decode cX11_tocome 8 = .ok (.iload_n 2, 1) := by decide +kernel
theorem dX11_tocome_9 : decode cX11_tocome 9 = .ok (.invokevirtual 97, 3) := by decide +kernel
theorem dX11_tocome_12 : decode cX11_tocome 12 = .ok (.ifCond .eq 12, 3) := by decide +kernel
theorem dX11_tocome_15 : decode cX11_tocome 15 = .ok (.iload_n 3, 1) := by decide +kernel
theorem dX11_tocome_16 : decode cX11_tocome 16 = .ok (.ifCond .lt 8, 3) := by decide +kernel
theorem dX11_tocome_19 : decode cX11_tocome 19 = .ok (.iload_n 3, 1) := by decide +kernel
theorem dX11_tocome_20 : decode cX11_tocome 20 = .ok (.iconst 1, 1) := by decide +kernel
theorem dX11_tocome_21 : decode cX11_tocome 21 = .ok (.if_icmp .le 5, 3) := by decide +kernel
theorem dX11_tocome_26 : decode cX11_tocome 26 = .ok (.aload_n 0, 1) := by decide +kernel
theorem dX11_tocome_27 : decode cX11_tocome 27 = .ok (.iload_n 1, 1) := by decide +kernel
theorem dX11_tocome_28 : decode cX11_tocome 28 = .ok (.iload_n 2, 1) := by decide +kernel
theorem dX11_tocome_29 : decode cX11_tocome 29 = .ok (.iconst 0, 1) := by decide +kernel
theorem dX11_tocome_30 : decode cX11_tocome 30 = .ok (.invokevirtual 216, 3) := by decide +kernel
theorem dX11_tocome_33 : decode cX11_tocome 33 = .ok (.astore 4, 2) := by decide +kernel
theorem dX11_tocome_35 : decode cX11_tocome 35 = .ok (.aload_n 0, 1) := by decide +kernel
theorem dX11_tocome_36 : decode cX11_tocome 36 = .ok (.iload_n 1, 1) := by decide +kernel
theorem dX11_tocome_37 : decode cX11_tocome 37 = .ok (.iload_n 2, 1) := by decide +kernel
theorem dX11_tocome_38 : decode cX11_tocome 38 = .ok (.iconst 1, 1) := by decide +kernel
theorem dX11_tocome_39 : decode cX11_tocome 39 = .ok (.invokevirtual 216, 3) := by decide +kernel
theorem dX11_tocome_42 : decode cX11_tocome 42 = .ok (.astore 5, 2) := by decide +kernel
theorem dX11_tocome_44 : decode cX11_tocome 44 = .ok (.aload_n 0, 1) := by decide +kernel
theorem dX11_tocome_45 : decode cX11_tocome 45 = .ok (.getfield 67, 3) := by decide +kernel
theorem dX11_tocome_48 : decode cX11_tocome 48 = .ok (.aload_n 0, 1) := by decide +kernel
theorem dX11_tocome_49 : decode cX11_tocome 49 = .ok (.getfield 11, 3) := by decide +kernel
theorem dX11_tocome_52 : decode cX11_tocome 52 = .ok (.iload_n 2, 1) := by decide +kernel
theorem dX11_tocome_53 : decode cX11_tocome 53 = .ok (.aaload, 1) := by decide +kernel
theorem dX11_tocome_54 : decode cX11_tocome 54 = .ok (.aload 4, 2) := by decide +kernel
theorem dX11_tocome_56 : decode cX11_tocome 56 = .ok (.aload 5, 2) := by decide +kernel
theorem dX11_tocome_58 : decode cX11_tocome 58 = .ok (.invokevirtual 279, 3) := by decide +kernel
theorem dX2_find_0 : decode cX2_find 0 = .ok (.aload_n 0, 1) := by decide +kernel
theorem dX2_find_1 : decode cX2_find 1 = .ok (.getfield 21, 3) := by decide +kernel
theorem dX2_find_4 : decode cX2_find 4 = .ok (.aload_n 2, 1) := by decide +kernel
theorem dX2_find_5 : decode cX2_find 5 = .ok (.iconst (-1), 1) := by decide +kernel
theorem dX2_find_6 : decode cX2_find 6 = .ok (.invokevirtual 28, 3) := by decide +kernel
theorem dX2_find_9 : decode cX2_find 9 = .ok (.aload_n 0, 1) := by decide +kernel
theorem dX2_find_10 : decode cX2_find 10 = .ok (.getfield 25, 3) := by decide +kernel
theorem dX2_find_13 : decode cX2_find 13 = .ok (.aload_n 3, 1) := by decide +kernel
theorem dX2_find_14 : decode cX2_find 14 = .ok (.iconst (-1), 1) := by decide +kernel
theorem dX2_find_15 : decode cX2_find 15 = .ok (.invokevirtual 28, 3) := by decide +kernel
theorem dX2_find_18 : decode cX2_find 18 = .ok (.aload_n 0, 1) := by decide +kernel
theorem dX2_find_19 : decode cX2_find 19 = .ok (.getfield 21, 3) := by decide +kernel
theorem dX2_find_22 : decode cX2_find 22 = .ok (.getfield 32, 3) := by decide +kernel
theorem dX2_find_25 : decode cX2_find 25 = .ok (.ifCond .eq 13, 3) := by decide +kernel
theorem dX2_find_28 : decode cX2_find 28 = .ok (.aload_n 0, 1) := by decide +kernel
theorem dX2_find_29 : decode cX2_find 29 = .ok (.getfield 25, 3) := by decide +kernel
theorem dX2_find_32 : decode cX2_find 32 = .ok (.getfield 32, 3) := by decide +kernel
theorem dX2_find_35 : decode cX2_find 35 = .ok (.ifCond .ne 5, 3) := by decide +kernel
theorem dX2_find_38 : decode cX2_find 38 = .ok (.iconst 0, 1) := by decide +kernel
theorem dX2_find_39 : decode cX2_find 39 = .ok (.ireturn, 1) := by decide +kernel
theorem dX2_find_40 : decode cX2_find 40 = .ok (.aload_n 0, 1) := by decide +kernel
theorem dX2_find_41 : decode cX2_find 41 = .ok (.aload_n 1, 1) := by decide +kernel
theorem dX2_find_42 : decode cX2_find 42 = .ok (.invokevirtual 36, 3) := by decide +kernel
theorem dX2_find_45 : decode cX2_find 45 = .ok (.putfield 42, 3) := by decide +kernel
theorem dX2_find_48 : decode cX2_find 48 = .ok (.aload_n 0, 1) := by decide +kernel
theorem dX2_find_49 : decode cX2_find 49 = .ok (.bipush 12, 2) := by decide +kernel
theorem dX2_find_51 : decode cX2_find 51 = .ok (.putfield 45, 3) := by decide +kernel
theorem dX2_find_54 : decode cX2_find 54 = .ok (.aload_n 0, 1) := by decide +kernel
theorem dX2_find_55 : decode cX2_find 55 = .ok (.iconst 0, 1) := by decide +kernel
theorem dX2_find_56 : decode cX2_find 56 = .ok (.putfield 48, 3) := by decide +kernel
theorem dX2_find_59 : decode cX2_find 59 = .ok (.iconst 0, 1) := by decide +kernel
theorem dX2_find_60 : decode cX2_find 60 = .ok (.istore 4, 2) := by decide +kernel
theorem dX2_find_62 : decode cX2_find 62 = .ok (.iload 4, 2) := by decide +kernel
theorem dX2_find_64 : decode cX2_find 64 = .ok (.bipush 11, 2) := by decide +kernel
theorem dX2_find_66 : decode cX2_find 66 = .ok (.if_icmp .ge 62, 3) := by decide +kernel
theorem dX2_find_69 : decode cX2_find 69 = .ok (.aload_n 1, 1) := by decide +kernel
theorem dX2_find_70 : decode cX2_find 70 = .ok (.iload 4, 2) := by decide +kernel
theorem dX2_find_72 : decode cX2_find 72 = .ok (.invokevirtual 51, 3) := by decide +kernel
theorem dX2_find_75 : decode cX2_find 75 = .ok (.istore 5, 2) := by decide +kernel
theorem dX2_find_77 : decode cX2_find 77 = .ok (.aload_n 1, 1) := by decide +kernel
theorem dX2_find_78 : decode cX2_find 78 = .ok (.iload 5, 2) := by decide +kernel
theorem dX2_find_80 : decode cX2_find 80 = .ok (.invokevirtual 55, 3) := by decide +kernel
theorem dX2_find_83 : decode cX2_find 83 = .ok (.istore 6, 2) := by decide +kernel
theorem dX2_find_85 : decode cX2_find 85 = .ok (.aload_n 0, 1) := by decide +kernel
theorem dX2_find_86 : decode cX2_find 86 = .ok (.getfield 9, 3) := by decide +kernel
theorem dX2_find_89 : decode cX2_find 89 = .ok (.iload 4, 2) := by decide +kernel
theorem dX2_find_91 : decode cX2_find 91 = .ok (.iload 5, 2) := by decide +kernel
theorem dX2_find_93 : decode cX2_find 93 = .ok (.iload 6, 2) := by decide +kernel
theorem dX2_find_95 : decode cX2_find 95 = .ok (.sipush 255, 3) := by decide +kernel
theorem dX2_find_98 : decode cX2_find 98 = .ok (.iand, 1) := by decide +kernel
theorem dX2_find_99 : decode cX2_find 99 = .ok (.bipush 20, 2) := by decide +kernel
theorem dX2_find_101 : decode cX2_find 101 = .ok (.ishl, 1) := by decide +kernel
theorem dX2_find_102 : decode cX2_find 102 = .ok (.ior, 1) := by decide +kernel
theorem dX2_find_103 : decode cX2_find 103 = .ok (.iastore, 1) := by decide +kernel
theorem dX2_find_104 : decode cX2_find 104 = .ok (.aload_n 0, 1) := by decide +kernel
theorem dX2_find_105 : decode cX2_find 105 = .ok (.getfield 15, 3) := by decide +kernel
theorem dX2_find_108 : decode cX2_find 108 = .ok (.iload 4, 2) := by decide +kernel
theorem dX2_find_110 : decode cX2_find 110 = .ok (.iload 5, 2) := by decide +kernel
theorem dX2_find_112 : decode cX2_find 112 = .ok (.iload 6, 2) := by decide +kernel
theorem dX2_find_114 : decode cX2_find 114 = .ok (.bipush 8, 2) := by decide +kernel
theorem dX2_find_116 : decode cX2_find 116 = .ok (.ishr, 1) := by decide +kernel
theorem dX2_find_117 : decode cX2_find 117 = .ok (.bipush 20, 2) := by decide +kernel
theorem dX2_find_119 : decode cX2_find 119 = .ok (.ishl, 1) := by decide +kernel
theorem dX2_find_120 : decode cX2_find 120 = .ok (.ior, 1) := by decide +kernel
theorem dX2_find_121 : decode cX2_find 121 = .ok (.iastore, 1) := by decide +kernel
theorem dX2_find_122 : decode cX2_find 122 = .ok (.iinc 4 1, 3) := by decide +kernel
theorem dX2_find_125 : decode cX2_find 125 = .ok (.goto (-63), 3) := by decide +kernel
theorem dX2_find_128 : decode cX2_find 128 = .ok (.aload_n 0, 1) := by decide +kernel
theorem dX2_find_129 : decode cX2_find 129 = .ok (.bipush 10, 2) := by decide +kernel
theorem dX2_find_131 : decode cX2_find 131 = .ok (.iconst 0, 1) := by decide +kernel
theorem dX2_find_132 : decode cX2_find 132 = .ok (.iconst 0, 1) := by decide +kernel
theorem dX2_find_133 : decode cX2_find 133 = .ok (.invokevirtual 58, 3) := by decide +kernel
theorem dX2_seek_0 : decode cX2_seek 0 = .ok (.aload_n 0, 1) := by decide +kernel
theorem dX2_seek_1 : decode cX2_seek 1 = .ok (.getfield 42, 3) := by decide +kernel
theorem dX2_seek_4 : decode cX2_seek 4 = .ok (.aload_n 0, 1) := by decide +kernel
theorem dX2_seek_5 : decode cX2_seek 5 = .ok (.getfield 21, 3) := by decide +kernel
theorem dX2_seek_8 : decode cX2_seek 8 = .ok (.getfield 62, 3) := by decide +kernel
theorem dX2_seek_11 : decode cX2_seek 11 = .ok (.aload_n 0, 1) := by decide +kernel
theorem dX2_seek_12 : decode cX2_seek 12 = .ok (.getfield 25, 3) := by decide +kernel
theorem dX2_seek_15 : decode cX2_seek 15 = .ok (.getfield 62, 3) := by decide +kernel
theorem dX2_seek_18 : decode cX2_seek 18 = .ok (.invokestatic 65, 3) := by decide +kernel
theorem dX2_seek_21 : decode cX2_seek 21 = .ok (.isub, 1) := by decide +kernel
theorem dX2_seek_22 : decode cX2_seek 22 = .ok (.istore 4, 2) := by decide +kernel
theorem dX2_seek_24 : decode cX2_seek 24 = .ok (.iload_n 3, 1) := by decide +kernel
theorem dX2_seek_25 : decode cX2_seek 25 = .ok (.iload 4, 2) := by decide +kernel
theorem dX2_seek_27 : decode cX2_seek 27 = .ok (.iadd, 1) := by decide +kernel
theorem dX2_seek_28 : decode cX2_seek 28 = .ok (.aload_n 0, 1) := by decide +kernel
theorem dX2_seek_29 : decode cX2_seek 29 = .ok (.getfield 45, 3) := by decide +kernel
theorem dX2_seek_32 : decode cX2_seek 32 = .ok (.if_icmp .lt 4, 3) := by decide +kernel
theorem dX2_seek_35 : decode cX2_seek 35 = .ok (.return_, 1) := by decide +kernel
theorem dX2_seek_36 : decode cX2_seek 36 = .ok (.iload 4, 2) := by decide +kernel
theorem dX2_seek_38 : decode cX2_seek 38 = .ok (.ifCond .ne 14, 3) := by decide +kernel
theorem dX2_seek_41 : decode cX2_seek 41 = .ok (.aload_n 0, 1) := by decide +kernel
theorem dX2_seek_42 : decode cX2_seek 42 = .ok (.iload_n 3, 1) := by decide +kernel
theorem dX2_seek_43 : decode cX2_seek 43 = .ok (.putfield 45, 3) := by decide +kernel
theorem dX2_seek_46 : decode cX2_seek 46 = .ok (.aload_n 0, 1) := by decide +kernel
theorem dX2_seek_47 : decode cX2_seek 47 = .ok (.iload_n 2, 1) := by decide +kernel
theorem dX2_seek_48 : decode cX2_seek 48 = .ok (.putfield 48, 3) := by decide +kernel
theorem dX2_seek_51 : decode cX2_seek 51 = .ok (.return_, 1) := by decide +kernel
theorem dX2_seek_52 : decode cX2_seek 52 = .ok (.iload_n 1, 1) := by decide +kernel
theorem dX2_seek_53 : decode cX2_seek 53 = .ok (.ifCond .lt 17, 3) := by decide +kernel
theorem dX2_seek_70 : decode cX2_seek 70 = .ok (.return_, 1) := by decide +kernel
set_option maxHeartbeats 4000000 in
set_option maxRecDepth 100000 in
theorem s_X2_seek_L0 {P : PP} {a0 : Nat} {a1 : Int32} {a2 : Int32} {a3 : Int32} (I : IV P) (ha0 : At P a0 2) (ha1 : -1 ≤ a1.toInt ∧ a1.toInt ≤ -1) (ha3 : 0 ≤ a3.toInt ∧ a3.toInt ≤ 11) : CtrV yX2_seek cX2_seek 7 none ({ frames := 2, cells := 0, slots := 0, locals := 128 } : Room) 0 0 P [.ref a0, .int a1, .int a2, .int a3] (fun P2 => IV P2 ∧ EK [2] P P2) := by
  refine enV (lv := [(0, .ref a0), (1, .int a1), (2, .int a2), (3, .int a3)]) (by decide) (Nat.le_of_ble_eq_true rfl) rfl (fun E D cy C Ci0 ret => ?_)
  refine g_aload_n C dX2_seek_0 rfl 0 rfl ?_
  refine g_getI C fi_X2_42 (by decide) (ha0).1 (ha0).2 dX2_seek_1 ?_
  have h38731 := I.rg (ha0) 4 rfl
  refine g_aload_n C dX2_seek_4 rfl 0 rfl ?_
  obtain ⟨b38732, e38733, h38734⟩ := I.fld (ha0) 2 0 0 rfl
  refine g_getR C fi_X2_21 rfl e38733 (ha0).1 (ha0).2 dX2_seek_5 ?_
  refine g_getI C fi_X2_62 (by decide) (h38734.at).1 (h38734.at).2 dX2_seek_8 ?_
  have h38735 := I.rg (h38734.at) 2 rfl
  refine g_aload_n C dX2_seek_11 rfl 0 rfl ?_
  obtain ⟨b38736, e38737, h38738⟩ := I.fld (ha0) 3 0 0 rfl
  refine g_getR C fi_X2_25 rfl e38737 (ha0).1 (ha0).2 dX2_seek_12 ?_
  refine g_getI C fi_X2_62 (by decide) (h38738.at).1 (h38738.at).2 dX2_seek_15 ?_
  have h38739 := I.rg (h38738.at) 2 rfl
  refine g_mmin C ms_X2_65 (by decide) (by decide) (Nat.le_of_ble_eq_true rfl) (by decide) dX2_seek_18 (fun z38740 h38741 => ?_)
  have h38741 : z38740.toInt ≤ (pI P b38732 2).toInt ∧ z38740.toInt ≤ (pI P b38736 2).toInt ∧ (z38740.toInt = (pI P b38732 2).toInt ∨ z38740.toInt = (pI P b38736 2).toInt) := h38741
  refine s_isub C dX2_seek_21 (by show -2147483648 ≤ (pI P a0 4).toInt - z38740.toInt ∧ (pI P a0 4).toInt - z38740.toInt ≤ 2147483647; omega) (fun z38742 h38743 => ?_)
  have h38743 : z38742.toInt = (pI P a0 4).toInt - z38740.toInt := h38743
  refine g_istore (lv' := [(4, .int z38742), (0, .ref a0), (1, .int a1), (2, .int a2), (3, .int a3)]) C dX2_seek_22 (by decide) rfl ?_
  refine g_iload_n C dX2_seek_24 rfl 4 rfl ?_
  refine g_iload C dX2_seek_25 0 rfl ?_
  refine s_iadd C dX2_seek_27 (by show -2147483648 ≤ a3.toInt + z38742.toInt ∧ a3.toInt + z38742.toInt ≤ 2147483647; omega) (fun z38744 h38745 => ?_)
  have h38745 : z38744.toInt = a3.toInt + z38742.toInt := h38745
  refine g_aload_n C dX2_seek_28 rfl 1 rfl ?_
  refine g_getI C fi_X2_45 (by decide) (ha0).1 (ha0).2 dX2_seek_29 ?_
  have h38746 := I.rg (ha0) 5 rfl
  refine b_icmp_lt C 36 dX2_seek_32 (by decide) (fun h38747 => ?_) (fun h38747 => ?_)
  · have h38747 : z38744.toInt < (pI P a0 5).toInt := h38747
    refine g_iload C dX2_seek_36 0 rfl ?_
    refine b_if_ne C 52 dX2_seek_38 (by decide) (fun h38748 => ?_) (fun h38748 => ?_)
    · have h38748 : z38742.toInt ≠ 0 := ti_ne h38748
      refine g_iload_n C dX2_seek_52 rfl 2 rfl ?_
      refine b_if_lt C 70 dX2_seek_53 (by decide) (fun h38749 => ?_) (fun h38749 => ?_)
      · have h38749 : a1.toInt < 0 := h38749
        exact ret _ _ _ _ _ dX2_seek_70 (by decide) (by decide) ⟨I, EK.rf⟩
      · have h38749 : 0 ≤ a1.toInt := h38749
        omega
    · have h38748 : z38742.toInt = 0 := congrArg Int32.toInt h38748
      refine g_aload_n C dX2_seek_41 rfl 1 rfl ?_
      refine g_iload_n C dX2_seek_42 rfl 4 rfl ?_
      refine g_putI C fi_X2_45 rfl (ha0).1 (ha0).2 dX2_seek_43 ?_
      refine gpW (ks := [2]) (I.setI (ha0) (rgOk.of rfl (by omega))) (EK.setI (ha0).2 (by decide)) (fun Y38750 Iy38751 Xy38752 w38753 w38754 => ?_)
      have q38755 := w38753 4 (by decide)
      have q38756 := Xy38752.keep (h38734.at) (by decide) 2
      have q38757 := Xy38752.keep (h38738.at) (by decide) 2
      have Xz38758 : EK [2] P Y38750 := Xy38752.mono (by decide)
      have h38759 := Xy38752.at ha0
      refine g_aload_n C dX2_seek_46 rfl 1 rfl ?_
      refine g_iload_n C dX2_seek_47 rfl 3 rfl ?_
      refine g_putI C fi_X2_48 rfl (h38759).1 (h38759).2 dX2_seek_48 ?_
      refine gpW (ks := [2]) (Iy38751.setI (h38759) (rgOk.none rfl)) (EK.setI (h38759).2 (by decide)) (fun Y38760 Iy38761 Xy38762 w38763 w38764 => ?_)
      have q38765 := w38763 4 (by decide)
      have q38766 := w38763 5 (by decide)
      have Xz38767 : EK [2] P Y38760 := Xz38758.tr (Xy38762.mono (by decide))
      have h38768 := Xy38762.at h38759
      exact ret _ _ _ _ _ dX2_seek_51 (by decide) (by decide) ⟨Iy38761, Xz38767⟩
  · have h38747 : (pI P a0 5).toInt ≤ z38744.toInt := h38747
    exact ret _ _ _ _ _ dX2_seek_35 (by decide) (by decide) ⟨I, EK.rf⟩
theorem dX2_seek_56 : decode cX2_seek 56 = .ok (.iload_n 1, 1) := by decide +kernel
theorem dX2_seek_57 : decode cX2_seek 57 = .ok (.bipush 11, 2) := by decide +kernel
theorem dX2_seek_59 : decode cX2_seek 59 = .ok (.if_icmp .ge 11, 3) := by decide +kernel
theorem dX2_seek_62 : decode cX2_seek 62 = .ok (.iload 4, 2) := by decide +kernel
theorem dX2_seek_64 : decode cX2_seek 64 = .ok (.iload_n 1, 1) := by decide +kernel
theorem dX2_seek_65 : decode cX2_seek 65 = .ok (.iconst 1, 1) := by decide +kernel
theorem dX2_seek_66 : decode cX2_seek 66 = .ok (.iadd, 1) := by decide +kernel
theorem dX2_seek_67 : decode cX2_seek 67 = .ok (.if_icmp .le 4, 3) := by decide +kernel
theorem dX2_seek_71 : decode cX2_seek 71 = .ok (.aload_n 0, 1) := by decide +kernel
theorem dX2_seek_72 : decode cX2_seek 72 = .ok (.iload_n 1, 1) := by decide +kernel
theorem dX2_seek_73 : decode cX2_seek 73 = .ok (.iconst 1, 1) := by decide +kernel
theorem dX2_seek_74 : decode cX2_seek 74 = .ok (.isub, 1) := by decide +kernel
theorem dX2_seek_75 : decode cX2_seek 75 = .ok (.iload_n 2, 1) := by decide +kernel
theorem dX2_seek_76 : decode cX2_seek 76 = .ok (.iload_n 3, 1) := by decide +kernel
theorem dX2_seek_77 : decode cX2_seek 77 = .ok (.invokevirtual 58, 3) := by decide +kernel
theorem dX2_seek_80 : decode cX2_seek 80 = .ok (.aload_n 0, 1) := by decide +kernel
theorem dX2_seek_81 : decode cX2_seek 81 = .ok (.getfield 21, 3) := by decide +kernel
theorem dX2_seek_84 : decode cX2_seek 84 = .ok (.getfield 62, 3) := by decide +kernel
theorem dX2_seek_87 : decode cX2_seek 87 = .ok (.istore 5, 2) := by decide +kernel
theorem dX2_seek_89 : decode cX2_seek 89 = .ok (.aload_n 0, 1) := by decide +kernel
theorem dX2_seek_90 : decode cX2_seek 90 = .ok (.getfield 25, 3) := by decide +kernel
theorem dX2_seek_93 : decode cX2_seek 93 = .ok (.getfield 62, 3) := by decide +kernel
theorem dX2_seek_96 : decode cX2_seek 96 = .ok (.istore 6, 2) := by decide +kernel
theorem dX2_seek_98 : decode cX2_seek 98 = .ok (.aload_n 0, 1) := by decide +kernel
theorem dX2_seek_99 : decode cX2_seek 99 = .ok (.getfield 21, 3) := by decide +kernel
theorem dX2_seek_102 : decode cX2_seek 102 = .ok (.aload_n 0, 1) := by decide +kernel
theorem dX2_seek_103 : decode cX2_seek 103 = .ok (.getfield 9, 3) := by decide +kernel
theorem dX2_seek_106 : decode cX2_seek 106 = .ok (.iload_n 1, 1) := by decide +kernel
theorem dX2_seek_107 : decode cX2_seek 107 = .ok (.iaload, 1) := by decide +kernel
theorem dX2_seek_108 : decode cX2_seek 108 = .ok (.invokevirtual 71, 3) := by decide +kernel
theorem dX2_seek_111 : decode cX2_seek 111 = .ok (.aload_n 0, 1) := by decide +kernel
theorem dX2_seek_112 : decode cX2_seek 112 = .ok (.getfield 25, 3) := by decide +kernel
theorem dX2_seek_115 : decode cX2_seek 115 = .ok (.aload_n 0, 1) := by decide +kernel
theorem dX2_seek_116 : decode cX2_seek 116 = .ok (.getfield 15, 3) := by decide +kernel
theorem dX2_seek_119 : decode cX2_seek 119 = .ok (.iload_n 1, 1) := by decide +kernel
theorem dX2_seek_120 : decode cX2_seek 120 = .ok (.iaload, 1) := by decide +kernel
theorem dX2_seek_121 : decode cX2_seek 121 = .ok (.invokevirtual 71, 3) := by decide +kernel
theorem dX2_seek_124 : decode cX2_seek 124 = .ok (.aload_n 0, 1) := by decide +kernel
theorem dX2_seek_125 : decode cX2_seek 125 = .ok (.getfield 21, 3) := by decide +kernel
theorem dX2_seek_128 : decode cX2_seek 128 = .ok (.getfield 32, 3) := by decide +kernel
theorem dX2_seek_131 : decode cX2_seek 131 = .ok (.ifCond .eq 28, 3) := by decide +kernel
theorem dX2_seek_134 : decode cX2_seek 134 = .ok (.aload_n 0, 1) := by decide +kernel
theorem dX2_seek_135 : decode cX2_seek 135 = .ok (.getfield 25, 3) := by decide +kernel
theorem dX2_seek_138 : decode cX2_seek 138 = .ok (.getfield 32, 3) := by decide +kernel
theorem dX2_seek_141 : decode cX2_seek 141 = .ok (.ifCond .eq 18, 3) := by decide +kernel
theorem dX2_seek_144 : decode cX2_seek 144 = .ok (.aload_n 0, 1) := by decide +kernel
theorem dX2_seek_145 : decode cX2_seek 145 = .ok (.iload_n 1, 1) := by decide +kernel
theorem dX2_seek_146 : decode cX2_seek 146 = .ok (.iconst 1, 1) := by decide +kernel
theorem dX2_seek_147 : decode cX2_seek 147 = .ok (.isub, 1) := by decide +kernel
theorem dX2_seek_148 : decode cX2_seek 148 = .ok (.iload_n 2, 1) := by decide +kernel
theorem dX2_seek_149 : decode cX2_seek 149 = .ok (.iconst 1, 1) := by decide +kernel
theorem dX2_seek_150 : decode cX2_seek 150 = .ok (.iload_n 1, 1) := by decide +kernel
theorem dX2_seek_151 : decode cX2_seek 151 = .ok (.ishl, 1) := by decide +kernel
theorem dX2_seek_152 : decode cX2_seek 152 = .ok (.ior, 1) := by decide +kernel
theorem dX2_seek_153 : decode cX2_seek 153 = .ok (.iload_n 3, 1) := by decide +kernel
theorem dX2_seek_154 : decode cX2_seek 154 = .ok (.iconst 1, 1) := by decide +kernel
theorem dX2_seek_155 : decode cX2_seek 155 = .ok (.iadd, 1) := by decide +kernel
theorem dX2_seek_156 : decode cX2_seek 156 = .ok (.invokevirtual 58, 3) := by decide +kernel
theorem dX2_seek_159 : decode cX2_seek 159 = .ok (.aload_n 0, 1) := by decide +kernel
theorem dX2_seek_160 : decode cX2_seek 160 = .ok (.getfield 21, 3) := by decide +kernel
theorem dX2_seek_163 : decode cX2_seek 163 = .ok (.iload 5, 2) := by decide +kernel
theorem dX2_seek_165 : decode cX2_seek 165 = .ok (.invokevirtual 75, 3) := by decide +kernel
theorem dX2_seek_168 : decode cX2_seek 168 = .ok (.aload_n 0, 1) := by decide +kernel
theorem dX2_seek_169 : decode cX2_seek 169 = .ok (.getfield 25, 3) := by decide +kernel
theorem dX2_seek_172 : decode cX2_seek 172 = .ok (.iload 6, 2) := by decide +kernel
theorem dX2_seek_174 : decode cX2_seek 174 = .ok (.invokevirtual 75, 3) := by decide +kernel
theorem dX2_seek_177 : decode cX2_seek 177 = .ok (.return_, 1) := by decide +kernel
set_option maxHeartbeats 4000000 in
set_option maxRecDepth 100000 in
theorem s_X2_seek_L1 {P : PP} {a0 : Nat} {a1 : Int32} {a2 : Int32} {a3 : Int32} (I : IV P) (ha0 : At P a0 2) (ha1 : 0 ≤ a1.toInt ∧ a1.toInt ≤ 0) (ha3 : 0 ≤ a3.toInt ∧ a3.toInt ≤ 10) : CtrV yX2_seek cX2_seek 7 none ({ frames := 3, cells := 0, slots := 0, locals := 192 } : Room) 0 0 P [.ref a0, .int a1, .int a2, .int a3] (fun P2 => IV P2 ∧ EK [0, 2, 13] P P2) := by
  refine enV (lv := [(0, .ref a0), (1, .int a1), (2, .int a2), (3, .int a3)]) (by decide) (Nat.le_of_ble_eq_true rfl) rfl (fun E D cy C Ci0 ret => ?_)
  have J159 : ∀ (P159 : PP) (v159_5 : Int32) (v159_6 : Int32), (IV P159) → (EK [0, 2, 13] P P159) → (0 ≤ v159_5.toInt ∧ v159_5.toInt ≤ 20) → (0 ≤ v159_6.toInt ∧ v159_6.toInt ≤ 20) → (∀ b, pR P159 a0 2 = some b → 0 ≤ (pI P159 b 3).toInt ∧ (pI P159 b 3).toInt ≤ 1) → G E ({ frames := 3, cells := 0, slots := 0, locals := 192 } : Room) D cy 7 P159 0 0 159 [(0, .ref a0), (5, .int v159_5), (6, .int v159_6)] [] := by
    intro P159 v159_5 v159_6 I159 X159 hv159_5 hv159_6 hq159_0
    have h38911 := X159.at ha0
    obtain ⟨b38912, e38913, h38914⟩ := I159.fld (h38911) 2 0 0 rfl
    have hq159_0 := hq159_0 b38912 e38913
    refine g_aload_n C dX2_seek_159 rfl 0 rfl ?_
    refine g_getR C fi_X2_21 rfl e38913 (h38911).1 (h38911).2 dX2_seek_160 ?_
    refine g_iload C dX2_seek_163 1 rfl ?_
    refine g_callVV (rest := []) C mv_X2_75 [.int v159_5] (s_X0_cut I159 h38914.at) (h38914.at).1 (h38914.at).2 rfl rfl (by decide) (Nat.le_of_ble_eq_true rfl) (by decide) dX2_seek_165 (fun Y38916 h38917 => ?_)
    obtain ⟨Iy38918, Xy38919⟩ := h38917
    have Xz38920 : EK [0, 2, 13] P Y38916 := X159.tr (Xy38919.mono (by decide))
    have h38921 := Xy38919.at h38911
    refine g_aload_n C dX2_seek_168 rfl 0 rfl ?_
    obtain ⟨b38922, e38923, h38924⟩ := Iy38918.fld (h38921) 3 0 0 rfl
    refine g_getR C fi_X2_25 rfl e38923 (h38921).1 (h38921).2 dX2_seek_169 ?_
    refine g_iload C dX2_seek_172 2 rfl ?_
    refine g_callVV (rest := []) C mv_X2_75 [.int v159_6] (s_X0_cut Iy38918 h38924.at) (h38924.at).1 (h38924.at).2 rfl rfl (by decide) (Nat.le_of_ble_eq_true rfl) (by decide) dX2_seek_174 (fun Y38926 h38927 => ?_)
    obtain ⟨Iy38928, Xy38929⟩ := h38927
    have Xz38930 : EK [0, 2, 13] P Y38926 := Xz38920.tr (Xy38929.mono (by decide))
    have h38931 := Xy38929.at h38921
    exact ret _ _ _ _ _ dX2_seek_177 (by decide) (by decide) ⟨Iy38928, Xz38930⟩
  refine g_aload_n C dX2_seek_0 rfl 0 rfl ?_
  refine g_getI C fi_X2_42 (by decide) (ha0).1 (ha0).2 dX2_seek_1 ?_
  have h38932 := I.rg (ha0) 4 rfl
  refine g_aload_n C dX2_seek_4 rfl 0 rfl ?_
  obtain ⟨b38933, e38934, h38935⟩ := I.fld (ha0) 2 0 0 rfl
  refine g_getR C fi_X2_21 rfl e38934 (ha0).1 (ha0).2 dX2_seek_5 ?_
  refine g_getI C fi_X2_62 (by decide) (h38935.at).1 (h38935.at).2 dX2_seek_8 ?_
  have h38936 := I.rg (h38935.at) 2 rfl
  refine g_aload_n C dX2_seek_11 rfl 0 rfl ?_
  obtain ⟨b38937, e38938, h38939⟩ := I.fld (ha0) 3 0 0 rfl
  refine g_getR C fi_X2_25 rfl e38938 (ha0).1 (ha0).2 dX2_seek_12 ?_
  refine g_getI C fi_X2_62 (by decide) (h38939.at).1 (h38939.at).2 dX2_seek_15 ?_
  have h38940 := I.rg (h38939.at) 2 rfl
  refine g_mmin C ms_X2_65 (by decide) (by decide) (Nat.le_of_ble_eq_true rfl) (by decide) dX2_seek_18 (fun z38941 h38942 => ?_)
  have h38942 : z38941.toInt ≤ (pI P b38933 2).toInt ∧ z38941.toInt ≤ (pI P b38937 2).toInt ∧ (z38941.toInt = (pI P b38933 2).toInt ∨ z38941.toInt = (pI P b38937 2).toInt) := h38942
  refine s_isub C dX2_seek_21 (by show -2147483648 ≤ (pI P a0 4).toInt - z38941.toInt ∧ (pI P a0 4).toInt - z38941.toInt ≤ 2147483647; omega) (fun z38943 h38944 => ?_)
  have h38944 : z38943.toInt = (pI P a0 4).toInt - z38941.toInt := h38944
  refine g_istore (lv' := [(4, .int z38943), (0, .ref a0), (1, .int a1), (2, .int a2), (3, .int a3)]) C dX2_seek_22 (by decide) rfl ?_
  refine g_iload_n C dX2_seek_24 rfl 4 rfl ?_
  refine g_iload C dX2_seek_25 0 rfl ?_
  refine s_iadd C dX2_seek_27 (by show -2147483648 ≤ a3.toInt + z38943.toInt ∧ a3.toInt + z38943.toInt ≤ 2147483647; omega) (fun z38945 h38946 => ?_)
  have h38946 : z38945.toInt = a3.toInt + z38943.toInt := h38946
  refine g_aload_n C dX2_seek_28 rfl 1 rfl ?_
  refine g_getI C fi_X2_45 (by decide) (ha0).1 (ha0).2 dX2_seek_29 ?_
  have h38947 := I.rg (ha0) 5 rfl
  refine b_icmp_lt C 36 dX2_seek_32 (by decide) (fun h38948 => ?_) (fun h38948 => ?_)
  · have h38948 : z38945.toInt < (pI P a0 5).toInt := h38948
    refine g_iload C dX2_seek_36 0 rfl ?_
    refine b_if_ne C 52 dX2_seek_38 (by decide) (fun h38949 => ?_) (fun h38949 => ?_)
    · have h38949 : z38943.toInt ≠ 0 := ti_ne h38949
      refine g_iload_n C dX2_seek_52 rfl 2 rfl ?_
      refine b_if_lt C 70 dX2_seek_53 (by decide) (fun h38950 => ?_) (fun h38950 => ?_)
      · have h38950 : a1.toInt < 0 := h38950
        omega
      · have h38950 : 0 ≤ a1.toInt := h38950
        refine g_iload_n C dX2_seek_56 rfl 2 rfl ?_
        refine g_bipush (v := 11) C dX2_seek_57 (by decide) ?_
        refine b_icmp_ge C 70 dX2_seek_59 (by decide) (fun h38951 => ?_) (fun h38951 => ?_)
        · have h38951 : 11 ≤ a1.toInt := h38951
          omega
        · have h38951 : a1.toInt < 11 := h38951
          refine g_iload C dX2_seek_62 0 rfl ?_
          refine g_iload_n C dX2_seek_64 rfl 2 rfl ?_
          refine g_iconst (v := 1) C dX2_seek_65 (by decide) ?_
          refine s_iadd C dX2_seek_66 (by show -2147483648 ≤ a1.toInt + 1 ∧ a1.toInt + 1 ≤ 2147483647; omega) (fun z38952 h38953 => ?_)
          have h38953 : z38952.toInt = a1.toInt + 1 := h38953
          refine b_icmp_le C 71 dX2_seek_67 (by decide) (fun h38954 => ?_) (fun h38954 => ?_)
          · have h38954 : z38943.toInt ≤ z38952.toInt := h38954
            refine g_aload_n C dX2_seek_71 rfl 1 rfl ?_
            refine g_iload_n C dX2_seek_72 rfl 2 rfl ?_
            refine g_iconst (v := 1) C dX2_seek_73 (by decide) ?_
            refine s_isub C dX2_seek_74 (by show -2147483648 ≤ a1.toInt - 1 ∧ a1.toInt - 1 ≤ 2147483647; omega) (fun z38955 h38956 => ?_)
            have h38956 : z38955.toInt = a1.toInt - 1 := h38956
            refine g_iload_n C dX2_seek_75 rfl 3 rfl ?_
            refine g_iload_n C dX2_seek_76 rfl 4 rfl ?_
            refine g_callVV (rest := []) C mv_X2_58 [.int z38955, .int a2, .int a3] (s_X2_seek_L0 I ha0 (by omega) (by omega)) (ha0).1 (ha0).2 rfl rfl (by decide) (Nat.le_of_ble_eq_true rfl) (by decide) dX2_seek_77 (fun Y38958 h38959 => ?_)
            obtain ⟨Iy38960, Xy38961⟩ := h38959
            have q38962 := Xy38961.keep (h38935.at) (by decide) 2
            have q38963 := Xy38961.keep (h38939.at) (by decide) 2
            have Xz38964 : EK [0, 2, 13] P Y38958 := Xy38961.mono (by decide)
            have h38965 := Xy38961.at ha0
            refine g_aload_n C dX2_seek_80 rfl 1 rfl ?_
            obtain ⟨b38966, e38967, h38968⟩ := Iy38960.fld (h38965) 2 0 0 rfl
            refine g_getR C fi_X2_21 rfl e38967 (h38965).1 (h38965).2 dX2_seek_81 ?_
            refine g_getI C fi_X2_62 (by decide) (h38968.at).1 (h38968.at).2 dX2_seek_84 ?_
            have h38969 := Iy38960.rg (h38968.at) 2 rfl
            refine g_topi (fun z38970 h38971 => ?_)
            have h38971 : z38970.toInt = (pI Y38958 b38966 2).toInt := congrArg Int32.toInt h38971
            refine g_istore (lv' := [(5, .int z38970), (4, .int z38943), (0, .ref a0), (1, .int a1), (2, .int a2), (3, .int a3)]) C dX2_seek_87 (by decide) rfl ?_
            refine g_aload_n C dX2_seek_89 rfl 2 rfl ?_
            obtain ⟨b38972, e38973, h38974⟩ := Iy38960.fld (h38965) 3 0 0 rfl
            refine g_getR C fi_X2_25 rfl e38973 (h38965).1 (h38965).2 dX2_seek_90 ?_
            refine g_getI C fi_X2_62 (by decide) (h38974.at).1 (h38974.at).2 dX2_seek_93 ?_
            have h38975 := Iy38960.rg (h38974.at) 2 rfl
            refine g_topi (fun z38976 h38977 => ?_)
            have h38977 : z38976.toInt = (pI Y38958 b38972 2).toInt := congrArg Int32.toInt h38977
            refine g_istore (lv' := [(6, .int z38976), (5, .int z38970), (4, .int z38943), (0, .ref a0), (1, .int a1), (2, .int a2), (3, .int a3)]) C dX2_seek_96 (by decide) rfl ?_
            refine g_aload_n C dX2_seek_98 rfl 3 rfl ?_
            refine g_getR C fi_X2_21 rfl e38967 (h38965).1 (h38965).2 dX2_seek_99 ?_
            refine g_aload_n C dX2_seek_102 rfl 3 rfl ?_
            obtain ⟨b38978, e38979, h38980⟩ := Iy38960.fld (h38965) 0 13 11 rfl
            refine g_getR C fi_X2_9 rfl e38979 (h38965).1 (h38965).2 dX2_seek_103 ?_
            refine g_iload_n C dX2_seek_106 rfl 4 rfl ?_
            refine g_iald (j := (a1.toInt.toNat)) C h38980.1 h38980.2.1 (ix_in h38980.2.2 (by omega)) dX2_seek_107 ?_
            refine g_topi (fun z38981 _ => ?_)
            refine g_callVV (rest := []) C mv_X2_71 [.int z38981] (s_X0_add Iy38960 h38968.at) (h38968.at).1 (h38968.at).2 rfl rfl (by decide) (Nat.le_of_ble_eq_true rfl) (by decide) dX2_seek_108 (fun Y38983 h38984 => ?_)
            obtain ⟨Iy38985, Xy38986⟩ := h38984
            have Xz38987 : EK [0, 2, 13] P Y38983 := Xz38964.tr (Xy38986.mono (by decide))
            have h38988 := Xy38986.at h38965
            refine g_aload_n C dX2_seek_111 rfl 3 rfl ?_
            obtain ⟨b38989, e38990, h38991⟩ := Iy38985.fld (h38988) 3 0 0 rfl
            refine g_getR C fi_X2_25 rfl e38990 (h38988).1 (h38988).2 dX2_seek_112 ?_
            refine g_aload_n C dX2_seek_115 rfl 3 rfl ?_
            obtain ⟨b38992, e38993, h38994⟩ := Iy38985.fld (h38988) 1 13 11 rfl
            refine g_getR C fi_X2_15 rfl e38993 (h38988).1 (h38988).2 dX2_seek_116 ?_
            refine g_iload_n C dX2_seek_119 rfl 4 rfl ?_
            refine g_iald (j := (a1.toInt.toNat)) C h38994.1 h38994.2.1 (ix_in h38994.2.2 (by omega)) dX2_seek_120 ?_
            refine g_topi (fun z38995 _ => ?_)
            refine g_callVV (rest := []) C mv_X2_71 [.int z38995] (s_X0_add Iy38985 h38991.at) (h38991.at).1 (h38991.at).2 rfl rfl (by decide) (Nat.le_of_ble_eq_true rfl) (by decide) dX2_seek_121 (fun Y38997 h38998 => ?_)
            obtain ⟨Iy38999, Xy39000⟩ := h38998
            have Xz39001 : EK [0, 2, 13] P Y38997 := Xz38987.tr (Xy39000.mono (by decide))
            have h39002 := Xy39000.at h38988
            refine g_aload_n C dX2_seek_124 rfl 3 rfl ?_
            obtain ⟨b39003, e39004, h39005⟩ := Iy38999.fld (h39002) 2 0 0 rfl
            refine g_getR C fi_X2_21 rfl e39004 (h39002).1 (h39002).2 dX2_seek_125 ?_
            refine g_getI C fi_X2_32 (by decide) (h39005.at).1 (h39005.at).2 dX2_seek_128 ?_
            have h39006 := Iy38999.rg (h39005.at) 3 rfl
            refine b_if_eq C 159 dX2_seek_131 (by decide) (fun h39007 => ?_) (fun h39007 => ?_)
            · have h39007 : (pI Y38997 b39003 3).toInt = 0 := congrArg Int32.toInt h39007
              refine g_lv (lv' := [(0, .ref a0), (5, .int z38970), (6, .int z38976)]) [3, 1, 0] rfl ?_
              exact J159 Y38997 z38970 z38976 Iy38999 Xz39001 (by omega) (by omega) (fun b9 e9 => by rw [e39004] at e9; cases e9; omega)
            · have h39007 : (pI Y38997 b39003 3).toInt ≠ 0 := ti_ne h39007
              refine g_aload_n C dX2_seek_134 rfl 3 rfl ?_
              obtain ⟨b39008, e39009, h39010⟩ := Iy38999.fld (h39002) 3 0 0 rfl
              refine g_getR C fi_X2_25 rfl e39009 (h39002).1 (h39002).2 dX2_seek_135 ?_
              refine g_getI C fi_X2_32 (by decide) (h39010.at).1 (h39010.at).2 dX2_seek_138 ?_
              have h39011 := Iy38999.rg (h39010.at) 3 rfl
              refine b_if_eq C 159 dX2_seek_141 (by decide) (fun h39012 => ?_) (fun h39012 => ?_)
              · have h39012 : (pI Y38997 b39008 3).toInt = 0 := congrArg Int32.toInt h39012
                refine g_lv (lv' := [(0, .ref a0), (5, .int z38970), (6, .int z38976)]) [3, 1, 0] rfl ?_
                exact J159 Y38997 z38970 z38976 Iy38999 Xz39001 (by omega) (by omega) (fun b9 e9 => by rw [e39004] at e9; cases e9; omega)
              · have h39012 : (pI Y38997 b39008 3).toInt ≠ 0 := ti_ne h39012
                refine g_aload_n C dX2_seek_144 rfl 3 rfl ?_
                refine g_iload_n C dX2_seek_145 rfl 4 rfl ?_
                refine g_iconst (v := 1) C dX2_seek_146 (by decide) ?_
                refine s_isub C dX2_seek_147 (by show -2147483648 ≤ a1.toInt - 1 ∧ a1.toInt - 1 ≤ 2147483647; omega) (fun z39013 h39014 => ?_)
                have h39014 : z39013.toInt = a1.toInt - 1 := h39014
                refine g_iload_n C dX2_seek_148 rfl 5 rfl ?_
                refine g_iconst (v := 1) C dX2_seek_149 (by decide) ?_
                refine g_iload_n C dX2_seek_150 rfl 4 rfl ?_
                refine a_ishl C dX2_seek_151 (fun z39015 => ?_)
                refine a_ior C dX2_seek_152 (fun z39017 => ?_)
                refine g_iload_n C dX2_seek_153 rfl 6 rfl ?_
                refine g_iconst (v := 1) C dX2_seek_154 (by decide) ?_
                refine s_iadd C dX2_seek_155 (by show -2147483648 ≤ a3.toInt + 1 ∧ a3.toInt + 1 ≤ 2147483647; omega) (fun z39019 h39020 => ?_)
                have h39020 : z39019.toInt = a3.toInt + 1 := h39020
                refine g_callVV (rest := []) C mv_X2_58 [.int z39013, .int z39017, .int z39019] (s_X2_seek_L0 Iy38999 h39002 (by omega) (by omega)) (h39002).1 (h39002).2 rfl rfl (by decide) (Nat.le_of_ble_eq_true rfl) (by decide) dX2_seek_156 (fun Y39022 h39023 => ?_)
                obtain ⟨Iy39024, Xy39025⟩ := h39023
                have q39026 := Xy39025.keep (h39005.at) (by decide) 3
                have q39027 := Xy39025.keep (h39010.at) (by decide) 3
                have Xz39028 : EK [0, 2, 13] P Y39022 := Xz39001.tr (Xy39025.mono (by decide))
                have e39029 := Xy39025.ref h39002 (by decide) e39004
                have e39030 := Xy39025.ref h39002 (by decide) e39009
                have h39031 := Xy39025.at h39002
                have h39032 := Xy39025.ar h39005
                have h39033 := Xy39025.ar h39010
                refine g_lv (lv' := [(0, .ref a0), (5, .int z38970), (6, .int z38976)]) [3, 1, 0] rfl ?_
                exact J159 Y39022 z38970 z38976 Iy39024 Xz39028 (by omega) (by omega) (fun b9 e9 => by rw [e39029] at e9; cases e9; omega)
          · have h38954 : z38952.toInt < z38943.toInt := h38954
            exact ret _ _ _ _ _ dX2_seek_70 (by decide) (by decide) ⟨I, EK.rf⟩
    · have h38949 : z38943.toInt = 0 := congrArg Int32.toInt h38949
      refine g_aload_n C dX2_seek_41 rfl 1 rfl ?_
      refine g_iload_n C dX2_seek_42 rfl 4 rfl ?_
      refine g_putI C fi_X2_45 rfl (ha0).1 (ha0).2 dX2_seek_43 ?_
      refine gpW (ks := [2]) (I.setI (ha0) (rgOk.of rfl (by omega))) (EK.setI (ha0).2 (by decide)) (fun Y39034 Iy39035 Xy39036 w39037 w39038 => ?_)
      have q39039 := w39037 4 (by decide)
      have q39040 := Xy39036.keep (h38935.at) (by decide) 2
      have q39041 := Xy39036.keep (h38939.at) (by decide) 2
      have Xz39042 : EK [0, 2, 13] P Y39034 := Xy39036.mono (by decide)
      have h39043 := Xy39036.at ha0
      refine g_aload_n C dX2_seek_46 rfl 1 rfl ?_
      refine g_iload_n C dX2_seek_47 rfl 3 rfl ?_
      refine g_putI C fi_X2_48 rfl (h39043).1 (h39043).2 dX2_seek_48 ?_
      refine gpW (ks := [2]) (Iy39035.setI (h39043) (rgOk.none rfl)) (EK.setI (h39043).2 (by decide)) (fun Y39044 Iy39045 Xy39046 w39047 w39048 => ?_)
      have q39049 := w39047 4 (by decide)
      have q39050 := w39047 5 (by decide)
      have Xz39051 : EK [0, 2, 13] P Y39044 := Xz39042.tr (Xy39046.mono (by decide))
      have h39052 := Xy39046.at h39043
      exact ret _ _ _ _ _ dX2_seek_51 (by decide) (by decide) ⟨Iy39045, Xz39051⟩
  · have h38948 : (pI P a0 5).toInt ≤ z38945.toInt := h38948
    exact ret _ _ _ _ _ dX2_seek_35 (by decide) (by decide) ⟨I, EK.rf⟩
set_option maxHeartbeats 4000000 in
set_option maxRecDepth 100000 in
theorem s_X2_seek_L2 {P : PP} {a0 : Nat} {a1 : Int32} {a2 : Int32} {a3 : Int32} (I : IV P) (ha0 : At P a0 2) (ha1 : 1 ≤ a1.toInt ∧ a1.toInt ≤ 1) (ha3 : 0 ≤ a3.toInt ∧ a3.toInt ≤ 9) : CtrV yX2_seek cX2_seek 7 none ({ frames := 4, cells := 0, slots := 0, locals := 256 } : Room) 0 0 P [.ref a0, .int a1, .int a2, .int a3] (fun P2 => IV P2 ∧ EK [0, 2, 13] P P2) := by
  refine enV (lv := [(0, .ref a0), (1, .int a1), (2, .int a2), (3, .int a3)]) (by decide) (Nat.le_of_ble_eq_true rfl) rfl (fun E D cy C Ci0 ret => ?_)
  have J159 : ∀ (P159 : PP) (v159_5 : Int32) (v159_6 : Int32), (IV P159) → (EK [0, 2, 13] P P159) → (0 ≤ v159_5.toInt ∧ v159_5.toInt ≤ 20) → (0 ≤ v159_6.toInt ∧ v159_6.toInt ≤ 20) → G E ({ frames := 4, cells := 0, slots := 0, locals := 256 } : Room) D cy 7 P159 0 0 159 [(0, .ref a0), (5, .int v159_5), (6, .int v159_6)] [] := by
    intro P159 v159_5 v159_6 I159 X159 hv159_5 hv159_6
    have h39187 := X159.at ha0
    refine g_aload_n C dX2_seek_159 rfl 0 rfl ?_
    obtain ⟨b39188, e39189, h39190⟩ := I159.fld (h39187) 2 0 0 rfl
    refine g_getR C fi_X2_21 rfl e39189 (h39187).1 (h39187).2 dX2_seek_160 ?_
    refine g_iload C dX2_seek_163 1 rfl ?_
    refine g_callVV (rest := []) C mv_X2_75 [.int v159_5] (s_X0_cut I159 h39190.at) (h39190.at).1 (h39190.at).2 rfl rfl (by decide) (Nat.le_of_ble_eq_true rfl) (by decide) dX2_seek_165 (fun Y39192 h39193 => ?_)
    obtain ⟨Iy39194, Xy39195⟩ := h39193
    have Xz39196 : EK [0, 2, 13] P Y39192 := X159.tr (Xy39195.mono (by decide))
    have h39197 := Xy39195.at h39187
    refine g_aload_n C dX2_seek_168 rfl 0 rfl ?_
    obtain ⟨b39198, e39199, h39200⟩ := Iy39194.fld (h39197) 3 0 0 rfl
    refine g_getR C fi_X2_25 rfl e39199 (h39197).1 (h39197).2 dX2_seek_169 ?_
    refine g_iload C dX2_seek_172 2 rfl ?_
    refine g_callVV (rest := []) C mv_X2_75 [.int v159_6] (s_X0_cut Iy39194 h39200.at) (h39200.at).1 (h39200.at).2 rfl rfl (by decide) (Nat.le_of_ble_eq_true rfl) (by decide) dX2_seek_174 (fun Y39202 h39203 => ?_)
    obtain ⟨Iy39204, Xy39205⟩ := h39203
    have Xz39206 : EK [0, 2, 13] P Y39202 := Xz39196.tr (Xy39205.mono (by decide))
    have h39207 := Xy39205.at h39197
    exact ret _ _ _ _ _ dX2_seek_177 (by decide) (by decide) ⟨Iy39204, Xz39206⟩
  refine g_aload_n C dX2_seek_0 rfl 0 rfl ?_
  refine g_getI C fi_X2_42 (by decide) (ha0).1 (ha0).2 dX2_seek_1 ?_
  have h39208 := I.rg (ha0) 4 rfl
  refine g_aload_n C dX2_seek_4 rfl 0 rfl ?_
  obtain ⟨b39209, e39210, h39211⟩ := I.fld (ha0) 2 0 0 rfl
  refine g_getR C fi_X2_21 rfl e39210 (ha0).1 (ha0).2 dX2_seek_5 ?_
  refine g_getI C fi_X2_62 (by decide) (h39211.at).1 (h39211.at).2 dX2_seek_8 ?_
  have h39212 := I.rg (h39211.at) 2 rfl
  refine g_aload_n C dX2_seek_11 rfl 0 rfl ?_
  obtain ⟨b39213, e39214, h39215⟩ := I.fld (ha0) 3 0 0 rfl
  refine g_getR C fi_X2_25 rfl e39214 (ha0).1 (ha0).2 dX2_seek_12 ?_
  refine g_getI C fi_X2_62 (by decide) (h39215.at).1 (h39215.at).2 dX2_seek_15 ?_
  have h39216 := I.rg (h39215.at) 2 rfl
  refine g_mmin C ms_X2_65 (by decide) (by decide) (Nat.le_of_ble_eq_true rfl) (by decide) dX2_seek_18 (fun z39217 h39218 => ?_)
  have h39218 : z39217.toInt ≤ (pI P b39209 2).toInt ∧ z39217.toInt ≤ (pI P b39213 2).toInt ∧ (z39217.toInt = (pI P b39209 2).toInt ∨ z39217.toInt = (pI P b39213 2).toInt) := h39218
  refine s_isub C dX2_seek_21 (by show -2147483648 ≤ (pI P a0 4).toInt - z39217.toInt ∧ (pI P a0 4).toInt - z39217.toInt ≤ 2147483647; omega) (fun z39219 h39220 => ?_)
  have h39220 : z39219.toInt = (pI P a0 4).toInt - z39217.toInt := h39220
  refine g_istore (lv' := [(4, .int z39219), (0, .ref a0), (1, .int a1), (2, .int a2), (3, .int a3)]) C dX2_seek_22 (by decide) rfl ?_
  refine g_iload_n C dX2_seek_24 rfl 4 rfl ?_
  refine g_iload C dX2_seek_25 0 rfl ?_
  refine s_iadd C dX2_seek_27 (by show -2147483648 ≤ a3.toInt + z39219.toInt ∧ a3.toInt + z39219.toInt ≤ 2147483647; omega) (fun z39221 h39222 => ?_)
  have h39222 : z39221.toInt = a3.toInt + z39219.toInt := h39222
  refine g_aload_n C dX2_seek_28 rfl 1 rfl ?_
  refine g_getI C fi_X2_45 (by decide) (ha0).1 (ha0).2 dX2_seek_29 ?_
  have h39223 := I.rg (ha0) 5 rfl
  refine b_icmp_lt C 36 dX2_seek_32 (by decide) (fun h39224 => ?_) (fun h39224 => ?_)
  · have h39224 : z39221.toInt < (pI P a0 5).toInt := h39224
    refine g_iload C dX2_seek_36 0 rfl ?_
    refine b_if_ne C 52 dX2_seek_38 (by decide) (fun h39225 => ?_) (fun h39225 => ?_)
    · have h39225 : z39219.toInt ≠ 0 := ti_ne h39225
      refine g_iload_n C dX2_seek_52 rfl 2 rfl ?_
      refine b_if_lt C 70 dX2_seek_53 (by decide) (fun h39226 => ?_) (fun h39226 => ?_)
      · have h39226 : a1.toInt < 0 := h39226
        omega
      · have h39226 : 0 ≤ a1.toInt := h39226
        refine g_iload_n C dX2_seek_56 rfl 2 rfl ?_
        refine g_bipush (v := 11) C dX2_seek_57 (by decide) ?_
        refine b_icmp_ge C 70 dX2_seek_59 (by decide) (fun h39227 => ?_) (fun h39227 => ?_)
        · have h39227 : 11 ≤ a1.toInt := h39227
          omega
        · have h39227 : a1.toInt < 11 := h39227
          refine g_iload C dX2_seek_62 0 rfl ?_
          refine g_iload_n C dX2_seek_64 rfl 2 rfl ?_
          refine g_iconst (v := 1) C dX2_seek_65 (by decide) ?_
          refine s_iadd C dX2_seek_66 (by show -2147483648 ≤ a1.toInt + 1 ∧ a1.toInt + 1 ≤ 2147483647; omega) (fun z39228 h39229 => ?_)
          have h39229 : z39228.toInt = a1.toInt + 1 := h39229
          refine b_icmp_le C 71 dX2_seek_67 (by decide) (fun h39230 => ?_) (fun h39230 => ?_)
          · have h39230 : z39219.toInt ≤ z39228.toInt := h39230
            refine g_aload_n C dX2_seek_71 rfl 1 rfl ?_
            refine g_iload_n C dX2_seek_72 rfl 2 rfl ?_
            refine g_iconst (v := 1) C dX2_seek_73 (by decide) ?_
            refine s_isub C dX2_seek_74 (by show -2147483648 ≤ a1.toInt - 1 ∧ a1.toInt - 1 ≤ 2147483647; omega) (fun z39231 h39232 => ?_)
            have h39232 : z39231.toInt = a1.toInt - 1 := h39232
            refine g_iload_n C dX2_seek_75 rfl 3 rfl ?_
            refine g_iload_n C dX2_seek_76 rfl 4 rfl ?_
            refine g_callVV (rest := []) C mv_X2_58 [.int z39231, .int a2, .int a3] (s_X2_seek_L1 I ha0 (by omega) (by omega)) (ha0).1 (ha0).2 rfl rfl (by decide) (Nat.le_of_ble_eq_true rfl) (by decide) dX2_seek_77 (fun Y39234 h39235 => ?_)
            obtain ⟨Iy39236, Xy39237⟩ := h39235
            have Xz39238 : EK [0, 2, 13] P Y39234 := Xy39237.mono (by decide)
            have h39239 := Xy39237.at ha0
            refine g_aload_n C dX2_seek_80 rfl 1 rfl ?_
            obtain ⟨b39240, e39241, h39242⟩ := Iy39236.fld (h39239) 2 0 0 rfl
            refine g_getR C fi_X2_21 rfl e39241 (h39239).1 (h39239).2 dX2_seek_81 ?_
            refine g_getI C fi_X2_62 (by decide) (h39242.at).1 (h39242.at).2 dX2_seek_84 ?_
            have h39243 := Iy39236.rg (h39242.at) 2 rfl
            refine g_topi (fun z39244 h39245 => ?_)
            have h39245 : z39244.toInt = (pI Y39234 b39240 2).toInt := congrArg Int32.toInt h39245
            refine g_istore (lv' := [(5, .int z39244), (4, .int z39219), (0, .ref a0), (1, .int a1), (2, .int a2), (3, .int a3)]) C dX2_seek_87 (by decide) rfl ?_
            refine g_aload_n C dX2_seek_89 rfl 2 rfl ?_
            obtain ⟨b39246, e39247, h39248⟩ := Iy39236.fld (h39239) 3 0 0 rfl
            refine g_getR C fi_X2_25 rfl e39247 (h39239).1 (h39239).2 dX2_seek_90 ?_
            refine g_getI C fi_X2_62 (by decide) (h39248.at).1 (h39248.at).2 dX2_seek_93 ?_
            have h39249 := Iy39236.rg (h39248.at) 2 rfl
            refine g_topi (fun z39250 h39251 => ?_)
            have h39251 : z39250.toInt = (pI Y39234 b39246 2).toInt := congrArg Int32.toInt h39251
            refine g_istore (lv' := [(6, .int z39250), (5, .int z39244), (4, .int z39219), (0, .ref a0), (1, .int a1), (2, .int a2), (3, .int a3)]) C dX2_seek_96 (by decide) rfl ?_
            refine g_aload_n C dX2_seek_98 rfl 3 rfl ?_
            refine g_getR C fi_X2_21 rfl e39241 (h39239).1 (h39239).2 dX2_seek_99 ?_
            refine g_aload_n C dX2_seek_102 rfl 3 rfl ?_
            obtain ⟨b39252, e39253, h39254⟩ := Iy39236.fld (h39239) 0 13 11 rfl
            refine g_getR C fi_X2_9 rfl e39253 (h39239).1 (h39239).2 dX2_seek_103 ?_
            refine g_iload_n C dX2_seek_106 rfl 4 rfl ?_
            refine g_iald (j := (a1.toInt.toNat)) C h39254.1 h39254.2.1 (ix_in h39254.2.2 (by omega)) dX2_seek_107 ?_
            refine g_topi (fun z39255 _ => ?_)
            refine g_callVV (rest := []) C mv_X2_71 [.int z39255] (s_X0_add Iy39236 h39242.at) (h39242.at).1 (h39242.at).2 rfl rfl (by decide) (Nat.le_of_ble_eq_true rfl) (by decide) dX2_seek_108 (fun Y39257 h39258 => ?_)
            obtain ⟨Iy39259, Xy39260⟩ := h39258
            have Xz39261 : EK [0, 2, 13] P Y39257 := Xz39238.tr (Xy39260.mono (by decide))
            have h39262 := Xy39260.at h39239
            refine g_aload_n C dX2_seek_111 rfl 3 rfl ?_
            obtain ⟨b39263, e39264, h39265⟩ := Iy39259.fld (h39262) 3 0 0 rfl
            refine g_getR C fi_X2_25 rfl e39264 (h39262).1 (h39262).2 dX2_seek_112 ?_
            refine g_aload_n C dX2_seek_115 rfl 3 rfl ?_
            obtain ⟨b39266, e39267, h39268⟩ := Iy39259.fld (h39262) 1 13 11 rfl
            refine g_getR C fi_X2_15 rfl e39267 (h39262).1 (h39262).2 dX2_seek_116 ?_
            refine g_iload_n C dX2_seek_119 rfl 4 rfl ?_
            refine g_iald (j := (a1.toInt.toNat)) C h39268.1 h39268.2.1 (ix_in h39268.2.2 (by omega)) dX2_seek_120 ?_
            refine g_topi (fun z39269 _ => ?_)
            refine g_callVV (rest := []) C mv_X2_71 [.int z39269] (s_X0_add Iy39259 h39265.at) (h39265.at).1 (h39265.at).2 rfl rfl (by decide) (Nat.le_of_ble_eq_true rfl) (by decide) dX2_seek_121 (fun Y39271 h39272 => ?_)
            obtain ⟨Iy39273, Xy39274⟩ := h39272
            have Xz39275 : EK [0, 2, 13] P Y39271 := Xz39261.tr (Xy39274.mono (by decide))
            have h39276 := Xy39274.at h39262
            refine g_aload_n C dX2_seek_124 rfl 3 rfl ?_
            obtain ⟨b39277, e39278, h39279⟩ := Iy39273.fld (h39276) 2 0 0 rfl
            refine g_getR C fi_X2_21 rfl e39278 (h39276).1 (h39276).2 dX2_seek_125 ?_
            refine g_getI C fi_X2_32 (by decide) (h39279.at).1 (h39279.at).2 dX2_seek_128 ?_
            have h39280 := Iy39273.rg (h39279.at) 3 rfl
            refine b_if_eq C 159 dX2_seek_131 (by decide) (fun h39281 => ?_) (fun h39281 => ?_)
            · have h39281 : (pI Y39271 b39277 3).toInt = 0 := congrArg Int32.toInt h39281
              refine g_lv (lv' := [(0, .ref a0), (5, .int z39244), (6, .int z39250)]) [3, 1, 0] rfl ?_
              exact J159 Y39271 z39244 z39250 Iy39273 Xz39275 (by omega) (by omega)
            · have h39281 : (pI Y39271 b39277 3).toInt ≠ 0 := ti_ne h39281
              refine g_aload_n C dX2_seek_134 rfl 3 rfl ?_
              obtain ⟨b39282, e39283, h39284⟩ := Iy39273.fld (h39276) 3 0 0 rfl
              refine g_getR C fi_X2_25 rfl e39283 (h39276).1 (h39276).2 dX2_seek_135 ?_
              refine g_getI C fi_X2_32 (by decide) (h39284.at).1 (h39284.at).2 dX2_seek_138 ?_
              have h39285 := Iy39273.rg (h39284.at) 3 rfl
              refine b_if_eq C 159 dX2_seek_141 (by decide) (fun h39286 => ?_) (fun h39286 => ?_)
              · have h39286 : (pI Y39271 b39282 3).toInt = 0 := congrArg Int32.toInt h39286
                refine g_lv (lv' := [(0, .ref a0), (5, .int z39244), (6, .int z39250)]) [3, 1, 0] rfl ?_
                exact J159 Y39271 z39244 z39250 Iy39273 Xz39275 (by omega) (by omega)
              · have h39286 : (pI Y39271 b39282 3).toInt ≠ 0 := ti_ne h39286
                refine g_aload_n C dX2_seek_144 rfl 3 rfl ?_
                refine g_iload_n C dX2_seek_145 rfl 4 rfl ?_
                refine g_iconst (v := 1) C dX2_seek_146 (by decide) ?_
                refine s_isub C dX2_seek_147 (by show -2147483648 ≤ a1.toInt - 1 ∧ a1.toInt - 1 ≤ 2147483647; omega) (fun z39287 h39288 => ?_)
                have h39288 : z39287.toInt = a1.toInt - 1 := h39288
                refine g_iload_n C dX2_seek_148 rfl 5 rfl ?_
                refine g_iconst (v := 1) C dX2_seek_149 (by decide) ?_
                refine g_iload_n C dX2_seek_150 rfl 4 rfl ?_
                refine a_ishl C dX2_seek_151 (fun z39289 => ?_)
                refine a_ior C dX2_seek_152 (fun z39291 => ?_)
                refine g_iload_n C dX2_seek_153 rfl 6 rfl ?_
                refine g_iconst (v := 1) C dX2_seek_154 (by decide) ?_
                refine s_iadd C dX2_seek_155 (by show -2147483648 ≤ a3.toInt + 1 ∧ a3.toInt + 1 ≤ 2147483647; omega) (fun z39293 h39294 => ?_)
                have h39294 : z39293.toInt = a3.toInt + 1 := h39294
                refine g_callVV (rest := []) C mv_X2_58 [.int z39287, .int z39291, .int z39293] (s_X2_seek_L1 Iy39273 h39276 (by omega) (by omega)) (h39276).1 (h39276).2 rfl rfl (by decide) (Nat.le_of_ble_eq_true rfl) (by decide) dX2_seek_156 (fun Y39296 h39297 => ?_)
                obtain ⟨Iy39298, Xy39299⟩ := h39297
                have Xz39300 : EK [0, 2, 13] P Y39296 := Xz39275.tr (Xy39299.mono (by decide))
                have h39301 := Xy39299.at h39276
                refine g_lv (lv' := [(0, .ref a0), (5, .int z39244), (6, .int z39250)]) [3, 1, 0] rfl ?_
                exact J159 Y39296 z39244 z39250 Iy39298 Xz39300 (by omega) (by omega)
          · have h39230 : z39228.toInt < z39219.toInt := h39230
            exact ret _ _ _ _ _ dX2_seek_70 (by decide) (by decide) ⟨I, EK.rf⟩
    · have h39225 : z39219.toInt = 0 := congrArg Int32.toInt h39225
      refine g_aload_n C dX2_seek_41 rfl 1 rfl ?_
      refine g_iload_n C dX2_seek_42 rfl 4 rfl ?_
      refine g_putI C fi_X2_45 rfl (ha0).1 (ha0).2 dX2_seek_43 ?_
      refine gpW (ks := [2]) (I.setI (ha0) (rgOk.of rfl (by omega))) (EK.setI (ha0).2 (by decide)) (fun Y39302 Iy39303 Xy39304 w39305 w39306 => ?_)
      have q39307 := w39305 4 (by decide)
      have q39308 := Xy39304.keep (h39211.at) (by decide) 2
      have q39309 := Xy39304.keep (h39215.at) (by decide) 2
      have Xz39310 : EK [0, 2, 13] P Y39302 := Xy39304.mono (by decide)
      have h39311 := Xy39304.at ha0
      refine g_aload_n C dX2_seek_46 rfl 1 rfl ?_
      refine g_iload_n C dX2_seek_47 rfl 3 rfl ?_
      refine g_putI C fi_X2_48 rfl (h39311).1 (h39311).2 dX2_seek_48 ?_
      refine gpW (ks := [2]) (Iy39303.setI (h39311) (rgOk.none rfl)) (EK.setI (h39311).2 (by decide)) (fun Y39312 Iy39313 Xy39314 w39315 w39316 => ?_)
      have q39317 := w39315 4 (by decide)
      have q39318 := w39315 5 (by decide)
      have Xz39319 : EK [0, 2, 13] P Y39312 := Xz39310.tr (Xy39314.mono (by decide))
      have h39320 := Xy39314.at h39311
      exact ret _ _ _ _ _ dX2_seek_51 (by decide) (by decide) ⟨Iy39313, Xz39319⟩
  · have h39224 : (pI P a0 5).toInt ≤ z39221.toInt := h39224
    exact ret _ _ _ _ _ dX2_seek_35 (by decide) (by decide) ⟨I, EK.rf⟩
set_option maxHeartbeats 4000000 in
set_option maxRecDepth 100000 in
theorem s_X2_seek_L3 {P : PP} {a0 : Nat} {a1 : Int32} {a2 : Int32} {a3 : Int32} (I : IV P) (ha0 : At P a0 2) (ha1 : 2 ≤ a1.toInt ∧ a1.toInt ≤ 2) (ha3 : 0 ≤ a3.toInt ∧ a3.toInt ≤ 8) : CtrV yX2_seek cX2_seek 7 none ({ frames := 5, cells := 0, slots := 0, locals := 320 } : Room) 0 0 P [.ref a0, .int a1, .int a2, .int a3] (fun P2 => IV P2 ∧ EK [0, 2, 13] P P2) := by
  refine enV (lv := [(0, .ref a0), (1, .int a1), (2, .int a2), (3, .int a3)]) (by decide) (Nat.le_of_ble_eq_true rfl) rfl (fun E D cy C Ci0 ret => ?_)
  have J159 : ∀ (P159 : PP) (v159_5 : Int32) (v159_6 : Int32), (IV P159) → (EK [0, 2, 13] P P159) → (0 ≤ v159_5.toInt ∧ v159_5.toInt ≤ 20) → (0 ≤ v159_6.toInt ∧ v159_6.toInt ≤ 20) → G E ({ frames := 5, cells := 0, slots := 0, locals := 320 } : Room) D cy 7 P159 0 0 159 [(0, .ref a0), (5, .int v159_5), (6, .int v159_6)] [] := by
    intro P159 v159_5 v159_6 I159 X159 hv159_5 hv159_6
    have h39455 := X159.at ha0
    refine g_aload_n C dX2_seek_159 rfl 0 rfl ?_
    obtain ⟨b39456, e39457, h39458⟩ := I159.fld (h39455) 2 0 0 rfl
    refine g_getR C fi_X2_21 rfl e39457 (h39455).1 (h39455).2 dX2_seek_160 ?_
    refine g_iload C dX2_seek_163 1 rfl ?_
    refine g_callVV (rest := []) C mv_X2_75 [.int v159_5] (s_X0_cut I159 h39458.at) (h39458.at).1 (h39458.at).2 rfl rfl (by decide) (Nat.le_of_ble_eq_true rfl) (by decide) dX2_seek_165 (fun Y39460 h39461 => ?_)
    obtain ⟨Iy39462, Xy39463⟩ := h39461
    have Xz39464 : EK [0, 2, 13] P Y39460 := X159.tr (Xy39463.mono (by decide))
    have h39465 := Xy39463.at h39455
    refine g_aload_n C dX2_seek_168 rfl 0 rfl ?_
    obtain ⟨b39466, e39467, h39468⟩ := Iy39462.fld (h39465) 3 0 0 rfl
    refine g_getR C fi_X2_25 rfl e39467 (h39465).1 (h39465).2 dX2_seek_169 ?_
    refine g_iload C dX2_seek_172 2 rfl ?_
    refine g_callVV (rest := []) C mv_X2_75 [.int v159_6] (s_X0_cut Iy39462 h39468.at) (h39468.at).1 (h39468.at).2 rfl rfl (by decide) (Nat.le_of_ble_eq_true rfl) (by decide) dX2_seek_174 (fun Y39470 h39471 => ?_)
    obtain ⟨Iy39472, Xy39473⟩ := h39471
    have Xz39474 : EK [0, 2, 13] P Y39470 := Xz39464.tr (Xy39473.mono (by decide))
    have h39475 := Xy39473.at h39465
    exact ret _ _ _ _ _ dX2_seek_177 (by decide) (by decide) ⟨Iy39472, Xz39474⟩
  refine g_aload_n C dX2_seek_0 rfl 0 rfl ?_
  refine g_getI C fi_X2_42 (by decide) (ha0).1 (ha0).2 dX2_seek_1 ?_
  have h39476 := I.rg (ha0) 4 rfl
  refine g_aload_n C dX2_seek_4 rfl 0 rfl ?_
  obtain ⟨b39477, e39478, h39479⟩ := I.fld (ha0) 2 0 0 rfl
  refine g_getR C fi_X2_21 rfl e39478 (ha0).1 (ha0).2 dX2_seek_5 ?_
  refine g_getI C fi_X2_62 (by decide) (h39479.at).1 (h39479.at).2 dX2_seek_8 ?_
  have h39480 := I.rg (h39479.at) 2 rfl
  refine g_aload_n C dX2_seek_11 rfl 0 rfl ?_
  obtain ⟨b39481, e39482, h39483⟩ := I.fld (ha0) 3 0 0 rfl
  refine g_getR C fi_X2_25 rfl e39482 (ha0).1 (ha0).2 dX2_seek_12 ?_
  refine g_getI C fi_X2_62 (by decide) (h39483.at).1 (h39483.at).2 dX2_seek_15 ?_
  have h39484 := I.rg (h39483.at) 2 rfl
  refine g_mmin C ms_X2_65 (by decide) (by decide) (Nat.le_of_ble_eq_true rfl) (by decide) dX2_seek_18 (fun z39485 h39486 => ?_)
  have h39486 : z39485.toInt ≤ (pI P b39477 2).toInt ∧ z39485.toInt ≤ (pI P b39481 2).toInt ∧ (z39485.toInt = (pI P b39477 2).toInt ∨ z39485.toInt = (pI P b39481 2).toInt) := h39486
  refine s_isub C dX2_seek_21 (by show -2147483648 ≤ (pI P a0 4).toInt - z39485.toInt ∧ (pI P a0 4).toInt - z39485.toInt ≤ 2147483647; omega) (fun z39487 h39488 => ?_)
  have h39488 : z39487.toInt = (pI P a0 4).toInt - z39485.toInt := h39488
  refine g_istore (lv' := [(4, .int z39487), (0, .ref a0), (1, .int a1), (2, .int a2), (3, .int a3)]) C dX2_seek_22 (by decide) rfl ?_
  refine g_iload_n C dX2_seek_24 rfl 4 rfl ?_
  refine g_iload C dX2_seek_25 0 rfl ?_
  refine s_iadd C dX2_seek_27 (by show -2147483648 ≤ a3.toInt + z39487.toInt ∧ a3.toInt + z39487.toInt ≤ 2147483647; omega) (fun z39489 h39490 => ?_)
  have h39490 : z39489.toInt = a3.toInt + z39487.toInt := h39490
  refine g_aload_n C dX2_seek_28 rfl 1 rfl ?_
  refine g_getI C fi_X2_45 (by decide) (ha0).1 (ha0).2 dX2_seek_29 ?_
  have h39491 := I.rg (ha0) 5 rfl
  refine b_icmp_lt C 36 dX2_seek_32 (by decide) (fun h39492 => ?_) (fun h39492 => ?_)
  · have h39492 : z39489.toInt < (pI P a0 5).toInt := h39492
    refine g_iload C dX2_seek_36 0 rfl ?_
    refine b_if_ne C 52 dX2_seek_38 (by decide) (fun h39493 => ?_) (fun h39493 => ?_)
    · have h39493 : z39487.toInt ≠ 0 := ti_ne h39493
      refine g_iload_n C dX2_seek_52 rfl 2 rfl ?_
      refine b_if_lt C 70 dX2_seek_53 (by decide) (fun h39494 => ?_) (fun h39494 => ?_)
      · have h39494 : a1.toInt < 0 := h39494
        omega
      · have h39494 : 0 ≤ a1.toInt := h39494
        refine g_iload_n C dX2_seek_56 rfl 2 rfl ?_
        refine g_bipush (v := 11) C dX2_seek_57 (by decide) ?_
        refine b_icmp_ge C 70 dX2_seek_59 (by decide) (fun h39495 => ?_) (fun h39495 => ?_)
        · have h39495 : 11 ≤ a1.toInt := h39495
          omega
        · have h39495 : a1.toInt < 11 := h39495
          refine g_iload C dX2_seek_62 0 rfl ?_
          refine g_iload_n C dX2_seek_64 rfl 2 rfl ?_
          refine g_iconst (v := 1) C dX2_seek_65 (by decide) ?_
          refine s_iadd C dX2_seek_66 (by show -2147483648 ≤ a1.toInt + 1 ∧ a1.toInt + 1 ≤ 2147483647; omega) (fun z39496 h39497 => ?_)
          have h39497 : z39496.toInt = a1.toInt + 1 := h39497
          refine b_icmp_le C 71 dX2_seek_67 (by decide) (fun h39498 => ?_) (fun h39498 => ?_)
          · have h39498 : z39487.toInt ≤ z39496.toInt := h39498
            refine g_aload_n C dX2_seek_71 rfl 1 rfl ?_
            refine g_iload_n C dX2_seek_72 rfl 2 rfl ?_
            refine g_iconst (v := 1) C dX2_seek_73 (by decide) ?_
            refine s_isub C dX2_seek_74 (by show -2147483648 ≤ a1.toInt - 1 ∧ a1.toInt - 1 ≤ 2147483647; omega) (fun z39499 h39500 => ?_)
            have h39500 : z39499.toInt = a1.toInt - 1 := h39500
            refine g_iload_n C dX2_seek_75 rfl 3 rfl ?_
            refine g_iload_n C dX2_seek_76 rfl 4 rfl ?_
            refine g_callVV (rest := []) C mv_X2_58 [.int z39499, .int a2, .int a3] (s_X2_seek_L2 I ha0 (by omega) (by omega)) (ha0).1 (ha0).2 rfl rfl (by decide) (Nat.le_of_ble_eq_true rfl) (by decide) dX2_seek_77 (fun Y39502 h39503 => ?_)
            obtain ⟨Iy39504, Xy39505⟩ := h39503
            have Xz39506 : EK [0, 2, 13] P Y39502 := Xy39505.mono (by decide)
            have h39507 := Xy39505.at ha0
            refine g_aload_n C dX2_seek_80 rfl 1 rfl ?_
            obtain ⟨b39508, e39509, h39510⟩ := Iy39504.fld (h39507) 2 0 0 rfl
            refine g_getR C fi_X2_21 rfl e39509 (h39507).1 (h39507).2 dX2_seek_81 ?_
            refine g_getI C fi_X2_62 (by decide) (h39510.at).1 (h39510.at).2 dX2_seek_84 ?_
            have h39511 := Iy39504.rg (h39510.at) 2 rfl
            refine g_topi (fun z39512 h39513 => ?_)
            have h39513 : z39512.toInt = (pI Y39502 b39508 2).toInt := congrArg Int32.toInt h39513
            refine g_istore (lv' := [(5, .int z39512), (4, .int z39487), (0, .ref a0), (1, .int a1), (2, .int a2), (3, .int a3)]) C dX2_seek_87 (by decide) rfl ?_
            refine g_aload_n C dX2_seek_89 rfl 2 rfl ?_
            obtain ⟨b39514, e39515, h39516⟩ := Iy39504.fld (h39507) 3 0 0 rfl
            refine g_getR C fi_X2_25 rfl e39515 (h39507).1 (h39507).2 dX2_seek_90 ?_
            refine g_getI C fi_X2_62 (by decide) (h39516.at).1 (h39516.at).2 dX2_seek_93 ?_
            have h39517 := Iy39504.rg (h39516.at) 2 rfl
            refine g_topi (fun z39518 h39519 => ?_)
            have h39519 : z39518.toInt = (pI Y39502 b39514 2).toInt := congrArg Int32.toInt h39519
            refine g_istore (lv' := [(6, .int z39518), (5, .int z39512), (4, .int z39487), (0, .ref a0), (1, .int a1), (2, .int a2), (3, .int a3)]) C dX2_seek_96 (by decide) rfl ?_
            refine g_aload_n C dX2_seek_98 rfl 3 rfl ?_
            refine g_getR C fi_X2_21 rfl e39509 (h39507).1 (h39507).2 dX2_seek_99 ?_
            refine g_aload_n C dX2_seek_102 rfl 3 rfl ?_
            obtain ⟨b39520, e39521, h39522⟩ := Iy39504.fld (h39507) 0 13 11 rfl
            refine g_getR C fi_X2_9 rfl e39521 (h39507).1 (h39507).2 dX2_seek_103 ?_
            refine g_iload_n C dX2_seek_106 rfl 4 rfl ?_
            refine g_iald (j := (a1.toInt.toNat)) C h39522.1 h39522.2.1 (ix_in h39522.2.2 (by omega)) dX2_seek_107 ?_
            refine g_topi (fun z39523 _ => ?_)
            refine g_callVV (rest := []) C mv_X2_71 [.int z39523] (s_X0_add Iy39504 h39510.at) (h39510.at).1 (h39510.at).2 rfl rfl (by decide) (Nat.le_of_ble_eq_true rfl) (by decide) dX2_seek_108 (fun Y39525 h39526 => ?_)
            obtain ⟨Iy39527, Xy39528⟩ := h39526
            have Xz39529 : EK [0, 2, 13] P Y39525 := Xz39506.tr (Xy39528.mono (by decide))
            have h39530 := Xy39528.at h39507
            refine g_aload_n C dX2_seek_111 rfl 3 rfl ?_
            obtain ⟨b39531, e39532, h39533⟩ := Iy39527.fld (h39530) 3 0 0 rfl
            refine g_getR C fi_X2_25 rfl e39532 (h39530).1 (h39530).2 dX2_seek_112 ?_
            refine g_aload_n C dX2_seek_115 rfl 3 rfl ?_
            obtain ⟨b39534, e39535, h39536⟩ := Iy39527.fld (h39530) 1 13 11 rfl
            refine g_getR C fi_X2_15 rfl e39535 (h39530).1 (h39530).2 dX2_seek_116 ?_
            refine g_iload_n C dX2_seek_119 rfl 4 rfl ?_
            refine g_iald (j := (a1.toInt.toNat)) C h39536.1 h39536.2.1 (ix_in h39536.2.2 (by omega)) dX2_seek_120 ?_
            refine g_topi (fun z39537 _ => ?_)
            refine g_callVV (rest := []) C mv_X2_71 [.int z39537] (s_X0_add Iy39527 h39533.at) (h39533.at).1 (h39533.at).2 rfl rfl (by decide) (Nat.le_of_ble_eq_true rfl) (by decide) dX2_seek_121 (fun Y39539 h39540 => ?_)
            obtain ⟨Iy39541, Xy39542⟩ := h39540
            have Xz39543 : EK [0, 2, 13] P Y39539 := Xz39529.tr (Xy39542.mono (by decide))
            have h39544 := Xy39542.at h39530
            refine g_aload_n C dX2_seek_124 rfl 3 rfl ?_
            obtain ⟨b39545, e39546, h39547⟩ := Iy39541.fld (h39544) 2 0 0 rfl
            refine g_getR C fi_X2_21 rfl e39546 (h39544).1 (h39544).2 dX2_seek_125 ?_
            refine g_getI C fi_X2_32 (by decide) (h39547.at).1 (h39547.at).2 dX2_seek_128 ?_
            have h39548 := Iy39541.rg (h39547.at) 3 rfl
            refine b_if_eq C 159 dX2_seek_131 (by decide) (fun h39549 => ?_) (fun h39549 => ?_)
            · have h39549 : (pI Y39539 b39545 3).toInt = 0 := congrArg Int32.toInt h39549
              refine g_lv (lv' := [(0, .ref a0), (5, .int z39512), (6, .int z39518)]) [3, 1, 0] rfl ?_
              exact J159 Y39539 z39512 z39518 Iy39541 Xz39543 (by omega) (by omega)
            · have h39549 : (pI Y39539 b39545 3).toInt ≠ 0 := ti_ne h39549
              refine g_aload_n C dX2_seek_134 rfl 3 rfl ?_
              obtain ⟨b39550, e39551, h39552⟩ := Iy39541.fld (h39544) 3 0 0 rfl
              refine g_getR C fi_X2_25 rfl e39551 (h39544).1 (h39544).2 dX2_seek_135 ?_
              refine g_getI C fi_X2_32 (by decide) (h39552.at).1 (h39552.at).2 dX2_seek_138 ?_
              have h39553 := Iy39541.rg (h39552.at) 3 rfl
              refine b_if_eq C 159 dX2_seek_141 (by decide) (fun h39554 => ?_) (fun h39554 => ?_)
              · have h39554 : (pI Y39539 b39550 3).toInt = 0 := congrArg Int32.toInt h39554
                refine g_lv (lv' := [(0, .ref a0), (5, .int z39512), (6, .int z39518)]) [3, 1, 0] rfl ?_
                exact J159 Y39539 z39512 z39518 Iy39541 Xz39543 (by omega) (by omega)
              · have h39554 : (pI Y39539 b39550 3).toInt ≠ 0 := ti_ne h39554
                refine g_aload_n C dX2_seek_144 rfl 3 rfl ?_
                refine g_iload_n C dX2_seek_145 rfl 4 rfl ?_
                refine g_iconst (v := 1) C dX2_seek_146 (by decide) ?_
                refine s_isub C dX2_seek_147 (by show -2147483648 ≤ a1.toInt - 1 ∧ a1.toInt - 1 ≤ 2147483647; omega) (fun z39555 h39556 => ?_)
                have h39556 : z39555.toInt = a1.toInt - 1 := h39556
                refine g_iload_n C dX2_seek_148 rfl 5 rfl ?_
                refine g_iconst (v := 1) C dX2_seek_149 (by decide) ?_
                refine g_iload_n C dX2_seek_150 rfl 4 rfl ?_
                refine a_ishl C dX2_seek_151 (fun z39557 => ?_)
                refine a_ior C dX2_seek_152 (fun z39559 => ?_)
                refine g_iload_n C dX2_seek_153 rfl 6 rfl ?_
                refine g_iconst (v := 1) C dX2_seek_154 (by decide) ?_
                refine s_iadd C dX2_seek_155 (by show -2147483648 ≤ a3.toInt + 1 ∧ a3.toInt + 1 ≤ 2147483647; omega) (fun z39561 h39562 => ?_)
                have h39562 : z39561.toInt = a3.toInt + 1 := h39562
                refine g_callVV (rest := []) C mv_X2_58 [.int z39555, .int z39559, .int z39561] (s_X2_seek_L2 Iy39541 h39544 (by omega) (by omega)) (h39544).1 (h39544).2 rfl rfl (by decide) (Nat.le_of_ble_eq_true rfl) (by decide) dX2_seek_156 (fun Y39564 h39565 => ?_)
                obtain ⟨Iy39566, Xy39567⟩ := h39565
                have Xz39568 : EK [0, 2, 13] P Y39564 := Xz39543.tr (Xy39567.mono (by decide))
                have h39569 := Xy39567.at h39544
                refine g_lv (lv' := [(0, .ref a0), (5, .int z39512), (6, .int z39518)]) [3, 1, 0] rfl ?_
                exact J159 Y39564 z39512 z39518 Iy39566 Xz39568 (by omega) (by omega)
          · have h39498 : z39496.toInt < z39487.toInt := h39498
            exact ret _ _ _ _ _ dX2_seek_70 (by decide) (by decide) ⟨I, EK.rf⟩
    · have h39493 : z39487.toInt = 0 := congrArg Int32.toInt h39493
      refine g_aload_n C dX2_seek_41 rfl 1 rfl ?_
      refine g_iload_n C dX2_seek_42 rfl 4 rfl ?_
      refine g_putI C fi_X2_45 rfl (ha0).1 (ha0).2 dX2_seek_43 ?_
      refine gpW (ks := [2]) (I.setI (ha0) (rgOk.of rfl (by omega))) (EK.setI (ha0).2 (by decide)) (fun Y39570 Iy39571 Xy39572 w39573 w39574 => ?_)
      have q39575 := w39573 4 (by decide)
      have q39576 := Xy39572.keep (h39479.at) (by decide) 2
      have q39577 := Xy39572.keep (h39483.at) (by decide) 2
      have Xz39578 : EK [0, 2, 13] P Y39570 := Xy39572.mono (by decide)
      have h39579 := Xy39572.at ha0
      refine g_aload_n C dX2_seek_46 rfl 1 rfl ?_
      refine g_iload_n C dX2_seek_47 rfl 3 rfl ?_
      refine g_putI C fi_X2_48 rfl (h39579).1 (h39579).2 dX2_seek_48 ?_
      refine gpW (ks := [2]) (Iy39571.setI (h39579) (rgOk.none rfl)) (EK.setI (h39579).2 (by decide)) (fun Y39580 Iy39581 Xy39582 w39583 w39584 => ?_)
      have q39585 := w39583 4 (by decide)
      have q39586 := w39583 5 (by decide)
      have Xz39587 : EK [0, 2, 13] P Y39580 := Xz39578.tr (Xy39582.mono (by decide))
      have h39588 := Xy39582.at h39579
      exact ret _ _ _ _ _ dX2_seek_51 (by decide) (by decide) ⟨Iy39581, Xz39587⟩
  · have h39492 : (pI P a0 5).toInt ≤ z39489.toInt := h39492
    exact ret _ _ _ _ _ dX2_seek_35 (by decide) (by decide) ⟨I, EK.rf⟩
set_option maxHeartbeats 4000000 in
set_option maxRecDepth 100000 in
theorem s_X2_seek_L4 {P : PP} {a0 : Nat} {a1 : Int32} {a2 : Int32} {a3 : Int32} (I : IV P) (ha0 : At P a0 2) (ha1 : 3 ≤ a1.toInt ∧ a1.toInt ≤ 3) (ha3 : 0 ≤ a3.toInt ∧ a3.toInt ≤ 7) : CtrV yX2_seek cX2_seek 7 none ({ frames := 6, cells := 0, slots := 0, locals := 384 } : Room) 0 0 P [.ref a0, .int a1, .int a2, .int a3] (fun P2 => IV P2 ∧ EK [0, 2, 13] P P2) := by
  refine enV (lv := [(0, .ref a0), (1, .int a1), (2, .int a2), (3, .int a3)]) (by decide) (Nat.le_of_ble_eq_true rfl) rfl (fun E D cy C Ci0 ret => ?_)
  have J159 : ∀ (P159 : PP) (v159_5 : Int32) (v159_6 : Int32), (IV P159) → (EK [0, 2, 13] P P159) → (0 ≤ v159_5.toInt ∧ v159_5.toInt ≤ 20) → (0 ≤ v159_6.toInt ∧ v159_6.toInt ≤ 20) → G E ({ frames := 6, cells := 0, slots := 0, locals := 384 } : Room) D cy 7 P159 0 0 159 [(0, .ref a0), (5, .int v159_5), (6, .int v159_6)] [] := by
    intro P159 v159_5 v159_6 I159 X159 hv159_5 hv159_6
    have h39723 := X159.at ha0
    refine g_aload_n C dX2_seek_159 rfl 0 rfl ?_
    obtain ⟨b39724, e39725, h39726⟩ := I159.fld (h39723) 2 0 0 rfl
    refine g_getR C fi_X2_21 rfl e39725 (h39723).1 (h39723).2 dX2_seek_160 ?_
    refine g_iload C dX2_seek_163 1 rfl ?_
    refine g_callVV (rest := []) C mv_X2_75 [.int v159_5] (s_X0_cut I159 h39726.at) (h39726.at).1 (h39726.at).2 rfl rfl (by decide) (Nat.le_of_ble_eq_true rfl) (by decide) dX2_seek_165 (fun Y39728 h39729 => ?_)
    obtain ⟨Iy39730, Xy39731⟩ := h39729
    have Xz39732 : EK [0, 2, 13] P Y39728 := X159.tr (Xy39731.mono (by decide))
    have h39733 := Xy39731.at h39723
    refine g_aload_n C dX2_seek_168 rfl 0 rfl ?_
    obtain ⟨b39734, e39735, h39736⟩ := Iy39730.fld (h39733) 3 0 0 rfl
    refine g_getR C fi_X2_25 rfl e39735 (h39733).1 (h39733).2 dX2_seek_169 ?_
    refine g_iload C dX2_seek_172 2 rfl ?_
    refine g_callVV (rest := []) C mv_X2_75 [.int v159_6] (s_X0_cut Iy39730 h39736.at) (h39736.at).1 (h39736.at).2 rfl rfl (by decide) (Nat.le_of_ble_eq_true rfl) (by decide) dX2_seek_174 (fun Y39738 h39739 => ?_)
    obtain ⟨Iy39740, Xy39741⟩ := h39739
    have Xz39742 : EK [0, 2, 13] P Y39738 := Xz39732.tr (Xy39741.mono (by decide))
    have h39743 := Xy39741.at h39733
    exact ret _ _ _ _ _ dX2_seek_177 (by decide) (by decide) ⟨Iy39740, Xz39742⟩
  refine g_aload_n C dX2_seek_0 rfl 0 rfl ?_
  refine g_getI C fi_X2_42 (by decide) (ha0).1 (ha0).2 dX2_seek_1 ?_
  have h39744 := I.rg (ha0) 4 rfl
  refine g_aload_n C dX2_seek_4 rfl 0 rfl ?_
  obtain ⟨b39745, e39746, h39747⟩ := I.fld (ha0) 2 0 0 rfl
  refine g_getR C fi_X2_21 rfl e39746 (ha0).1 (ha0).2 dX2_seek_5 ?_
  refine g_getI C fi_X2_62 (by decide) (h39747.at).1 (h39747.at).2 dX2_seek_8 ?_
  have h39748 := I.rg (h39747.at) 2 rfl
  refine g_aload_n C dX2_seek_11 rfl 0 rfl ?_
  obtain ⟨b39749, e39750, h39751⟩ := I.fld (ha0) 3 0 0 rfl
  refine g_getR C fi_X2_25 rfl e39750 (ha0).1 (ha0).2 dX2_seek_12 ?_
  refine g_getI C fi_X2_62 (by decide) (h39751.at).1 (h39751.at).2 dX2_seek_15 ?_
  have h39752 := I.rg (h39751.at) 2 rfl
  refine g_mmin C ms_X2_65 (by decide) (by decide) (Nat.le_of_ble_eq_true rfl) (by decide) dX2_seek_18 (fun z39753 h39754 => ?_)
  have h39754 : z39753.toInt ≤ (pI P b39745 2).toInt ∧ z39753.toInt ≤ (pI P b39749 2).toInt ∧ (z39753.toInt = (pI P b39745 2).toInt ∨ z39753.toInt = (pI P b39749 2).toInt) := h39754
  refine s_isub C dX2_seek_21 (by show -2147483648 ≤ (pI P a0 4).toInt - z39753.toInt ∧ (pI P a0 4).toInt - z39753.toInt ≤ 2147483647; omega) (fun z39755 h39756 => ?_)
  have h39756 : z39755.toInt = (pI P a0 4).toInt - z39753.toInt := h39756
  refine g_istore (lv' := [(4, .int z39755), (0, .ref a0), (1, .int a1), (2, .int a2), (3, .int a3)]) C dX2_seek_22 (by decide) rfl ?_
  refine g_iload_n C dX2_seek_24 rfl 4 rfl ?_
  refine g_iload C dX2_seek_25 0 rfl ?_
  refine s_iadd C dX2_seek_27 (by show -2147483648 ≤ a3.toInt + z39755.toInt ∧ a3.toInt + z39755.toInt ≤ 2147483647; omega) (fun z39757 h39758 => ?_)
  have h39758 : z39757.toInt = a3.toInt + z39755.toInt := h39758
  refine g_aload_n C dX2_seek_28 rfl 1 rfl ?_
  refine g_getI C fi_X2_45 (by decide) (ha0).1 (ha0).2 dX2_seek_29 ?_
  have h39759 := I.rg (ha0) 5 rfl
  refine b_icmp_lt C 36 dX2_seek_32 (by decide) (fun h39760 => ?_) (fun h39760 => ?_)
  · have h39760 : z39757.toInt < (pI P a0 5).toInt := h39760
    refine g_iload C dX2_seek_36 0 rfl ?_
    refine b_if_ne C 52 dX2_seek_38 (by decide) (fun h39761 => ?_) (fun h39761 => ?_)
    · have h39761 : z39755.toInt ≠ 0 := ti_ne h39761
      refine g_iload_n C dX2_seek_52 rfl 2 rfl ?_
      refine b_if_lt C 70 dX2_seek_53 (by decide) (fun h39762 => ?_) (fun h39762 => ?_)
      · have h39762 : a1.toInt < 0 := h39762
        omega
      · have h39762 : 0 ≤ a1.toInt := h39762
        refine g_iload_n C dX2_seek_56 rfl 2 rfl ?_
        refine g_bipush (v := 11) C dX2_seek_57 (by decide) ?_
        refine b_icmp_ge C 70 dX2_seek_59 (by decide) (fun h39763 => ?_) (fun h39763 => ?_)
        · have h39763 : 11 ≤ a1.toInt := h39763
          omega
        · have h39763 : a1.toInt < 11 := h39763
          refine g_iload C dX2_seek_62 0 rfl ?_
          refine g_iload_n C dX2_seek_64 rfl 2 rfl ?_
          refine g_iconst (v := 1) C dX2_seek_65 (by decide) ?_
          refine s_iadd C dX2_seek_66 (by show -2147483648 ≤ a1.toInt + 1 ∧ a1.toInt + 1 ≤ 2147483647; omega) (fun z39764 h39765 => ?_)
          have h39765 : z39764.toInt = a1.toInt + 1 := h39765
          refine b_icmp_le C 71 dX2_seek_67 (by decide) (fun h39766 => ?_) (fun h39766 => ?_)
          · have h39766 : z39755.toInt ≤ z39764.toInt := h39766
            refine g_aload_n C dX2_seek_71 rfl 1 rfl ?_
            refine g_iload_n C dX2_seek_72 rfl 2 rfl ?_
            refine g_iconst (v := 1) C dX2_seek_73 (by decide) ?_
            refine s_isub C dX2_seek_74 (by show -2147483648 ≤ a1.toInt - 1 ∧ a1.toInt - 1 ≤ 2147483647; omega) (fun z39767 h39768 => ?_)
            have h39768 : z39767.toInt = a1.toInt - 1 := h39768
            refine g_iload_n C dX2_seek_75 rfl 3 rfl ?_
            refine g_iload_n C dX2_seek_76 rfl 4 rfl ?_
            refine g_callVV (rest := []) C mv_X2_58 [.int z39767, .int a2, .int a3] (s_X2_seek_L3 I ha0 (by omega) (by omega)) (ha0).1 (ha0).2 rfl rfl (by decide) (Nat.le_of_ble_eq_true rfl) (by decide) dX2_seek_77 (fun Y39770 h39771 => ?_)
            obtain ⟨Iy39772, Xy39773⟩ := h39771
            have Xz39774 : EK [0, 2, 13] P Y39770 := Xy39773.mono (by decide)
            have h39775 := Xy39773.at ha0
            refine g_aload_n C dX2_seek_80 rfl 1 rfl ?_
            obtain ⟨b39776, e39777, h39778⟩ := Iy39772.fld (h39775) 2 0 0 rfl
            refine g_getR C fi_X2_21 rfl e39777 (h39775).1 (h39775).2 dX2_seek_81 ?_
            refine g_getI C fi_X2_62 (by decide) (h39778.at).1 (h39778.at).2 dX2_seek_84 ?_
            have h39779 := Iy39772.rg (h39778.at) 2 rfl
            refine g_topi (fun z39780 h39781 => ?_)
            have h39781 : z39780.toInt = (pI Y39770 b39776 2).toInt := congrArg Int32.toInt h39781
            refine g_istore (lv' := [(5, .int z39780), (4, .int z39755), (0, .ref a0), (1, .int a1), (2, .int a2), (3, .int a3)]) C dX2_seek_87 (by decide) rfl ?_
            refine g_aload_n C dX2_seek_89 rfl 2 rfl ?_
            obtain ⟨b39782, e39783, h39784⟩ := Iy39772.fld (h39775) 3 0 0 rfl
            refine g_getR C fi_X2_25 rfl e39783 (h39775).1 (h39775).2 dX2_seek_90 ?_
            refine g_getI C fi_X2_62 (by decide) (h39784.at).1 (h39784.at).2 dX2_seek_93 ?_
            have h39785 := Iy39772.rg (h39784.at) 2 rfl
            refine g_topi (fun z39786 h39787 => ?_)
            have h39787 : z39786.toInt = (pI Y39770 b39782 2).toInt := congrArg Int32.toInt h39787
            refine g_istore (lv' := [(6, .int z39786), (5, .int z39780), (4, .int z39755), (0, .ref a0), (1, .int a1), (2, .int a2), (3, .int a3)]) C dX2_seek_96 (by decide) rfl ?_
            refine g_aload_n C dX2_seek_98 rfl 3 rfl ?_
            refine g_getR C fi_X2_21 rfl e39777 (h39775).1 (h39775).2 dX2_seek_99 ?_
            refine g_aload_n C dX2_seek_102 rfl 3 rfl ?_
            obtain ⟨b39788, e39789, h39790⟩ := Iy39772.fld (h39775) 0 13 11 rfl
            refine g_getR C fi_X2_9 rfl e39789 (h39775).1 (h39775).2 dX2_seek_103 ?_
            refine g_iload_n C dX2_seek_106 rfl 4 rfl ?_
            refine g_iald (j := (a1.toInt.toNat)) C h39790.1 h39790.2.1 (ix_in h39790.2.2 (by omega)) dX2_seek_107 ?_
            refine g_topi (fun z39791 _ => ?_)
            refine g_callVV (rest := []) C mv_X2_71 [.int z39791] (s_X0_add Iy39772 h39778.at) (h39778.at).1 (h39778.at).2 rfl rfl (by decide) (Nat.le_of_ble_eq_true rfl) (by decide) dX2_seek_108 (fun Y39793 h39794 => ?_)
            obtain ⟨Iy39795, Xy39796⟩ := h39794
            have Xz39797 : EK [0, 2, 13] P Y39793 := Xz39774.tr (Xy39796.mono (by decide))
            have h39798 := Xy39796.at h39775
            refine g_aload_n C dX2_seek_111 rfl 3 rfl ?_
            obtain ⟨b39799, e39800, h39801⟩ := Iy39795.fld (h39798) 3 0 0 rfl
            refine g_getR C fi_X2_25 rfl e39800 (h39798).1 (h39798).2 dX2_seek_112 ?_
            refine g_aload_n C dX2_seek_115 rfl 3 rfl ?_
            obtain ⟨b39802, e39803, h39804⟩ := Iy39795.fld (h39798) 1 13 11 rfl
            refine g_getR C fi_X2_15 rfl e39803 (h39798).1 (h39798).2 dX2_seek_116 ?_
            refine g_iload_n C dX2_seek_119 rfl 4 rfl ?_
            refine g_iald (j := (a1.toInt.toNat)) C h39804.1 h39804.2.1 (ix_in h39804.2.2 (by omega)) dX2_seek_120 ?_
            refine g_topi (fun z39805 _ => ?_)
            refine g_callVV (rest := []) C mv_X2_71 [.int z39805] (s_X0_add Iy39795 h39801.at) (h39801.at).1 (h39801.at).2 rfl rfl (by decide) (Nat.le_of_ble_eq_true rfl) (by decide) dX2_seek_121 (fun Y39807 h39808 => ?_)
            obtain ⟨Iy39809, Xy39810⟩ := h39808
            have Xz39811 : EK [0, 2, 13] P Y39807 := Xz39797.tr (Xy39810.mono (by decide))
            have h39812 := Xy39810.at h39798
            refine g_aload_n C dX2_seek_124 rfl 3 rfl ?_
            obtain ⟨b39813, e39814, h39815⟩ := Iy39809.fld (h39812) 2 0 0 rfl
            refine g_getR C fi_X2_21 rfl e39814 (h39812).1 (h39812).2 dX2_seek_125 ?_
            refine g_getI C fi_X2_32 (by decide) (h39815.at).1 (h39815.at).2 dX2_seek_128 ?_
            have h39816 := Iy39809.rg (h39815.at) 3 rfl
            refine b_if_eq C 159 dX2_seek_131 (by decide) (fun h39817 => ?_) (fun h39817 => ?_)
            · have h39817 : (pI Y39807 b39813 3).toInt = 0 := congrArg Int32.toInt h39817
              refine g_lv (lv' := [(0, .ref a0), (5, .int z39780), (6, .int z39786)]) [3, 1, 0] rfl ?_
              exact J159 Y39807 z39780 z39786 Iy39809 Xz39811 (by omega) (by omega)
            · have h39817 : (pI Y39807 b39813 3).toInt ≠ 0 := ti_ne h39817
              refine g_aload_n C dX2_seek_134 rfl 3 rfl ?_
              obtain ⟨b39818, e39819, h39820⟩ := Iy39809.fld (h39812) 3 0 0 rfl
              refine g_getR C fi_X2_25 rfl e39819 (h39812).1 (h39812).2 dX2_seek_135 ?_
              refine g_getI C fi_X2_32 (by decide) (h39820.at).1 (h39820.at).2 dX2_seek_138 ?_
              have h39821 := Iy39809.rg (h39820.at) 3 rfl
              refine b_if_eq C 159 dX2_seek_141 (by decide) (fun h39822 => ?_) (fun h39822 => ?_)
              · have h39822 : (pI Y39807 b39818 3).toInt = 0 := congrArg Int32.toInt h39822
                refine g_lv (lv' := [(0, .ref a0), (5, .int z39780), (6, .int z39786)]) [3, 1, 0] rfl ?_
                exact J159 Y39807 z39780 z39786 Iy39809 Xz39811 (by omega) (by omega)
              · have h39822 : (pI Y39807 b39818 3).toInt ≠ 0 := ti_ne h39822
                refine g_aload_n C dX2_seek_144 rfl 3 rfl ?_
                refine g_iload_n C dX2_seek_145 rfl 4 rfl ?_
                refine g_iconst (v := 1) C dX2_seek_146 (by decide) ?_
                refine s_isub C dX2_seek_147 (by show -2147483648 ≤ a1.toInt - 1 ∧ a1.toInt - 1 ≤ 2147483647; omega) (fun z39823 h39824 => ?_)
                have h39824 : z39823.toInt = a1.toInt - 1 := h39824
                refine g_iload_n C dX2_seek_148 rfl 5 rfl ?_
                refine g_iconst (v := 1) C dX2_seek_149 (by decide) ?_
                refine g_iload_n C dX2_seek_150 rfl 4 rfl ?_
                refine a_ishl C dX2_seek_151 (fun z39825 => ?_)
                refine a_ior C dX2_seek_152 (fun z39827 => ?_)
                refine g_iload_n C dX2_seek_153 rfl 6 rfl ?_
                refine g_iconst (v := 1) C dX2_seek_154 (by decide) ?_
                refine s_iadd C dX2_seek_155 (by show -2147483648 ≤ a3.toInt + 1 ∧ a3.toInt + 1 ≤ 2147483647; omega) (fun z39829 h39830 => ?_)
                have h39830 : z39829.toInt = a3.toInt + 1 := h39830
                refine g_callVV (rest := []) C mv_X2_58 [.int z39823, .int z39827, .int z39829] (s_X2_seek_L3 Iy39809 h39812 (by omega) (by omega)) (h39812).1 (h39812).2 rfl rfl (by decide) (Nat.le_of_ble_eq_true rfl) (by decide) dX2_seek_156 (fun Y39832 h39833 => ?_)
                obtain ⟨Iy39834, Xy39835⟩ := h39833
                have Xz39836 : EK [0, 2, 13] P Y39832 := Xz39811.tr (Xy39835.mono (by decide))
                have h39837 := Xy39835.at h39812
                refine g_lv (lv' := [(0, .ref a0), (5, .int z39780), (6, .int z39786)]) [3, 1, 0] rfl ?_
                exact J159 Y39832 z39780 z39786 Iy39834 Xz39836 (by omega) (by omega)
          · have h39766 : z39764.toInt < z39755.toInt := h39766
            exact ret _ _ _ _ _ dX2_seek_70 (by decide) (by decide) ⟨I, EK.rf⟩
    · have h39761 : z39755.toInt = 0 := congrArg Int32.toInt h39761
      refine g_aload_n C dX2_seek_41 rfl 1 rfl ?_
      refine g_iload_n C dX2_seek_42 rfl 4 rfl ?_
      refine g_putI C fi_X2_45 rfl (ha0).1 (ha0).2 dX2_seek_43 ?_
      refine gpW (ks := [2]) (I.setI (ha0) (rgOk.of rfl (by omega))) (EK.setI (ha0).2 (by decide)) (fun Y39838 Iy39839 Xy39840 w39841 w39842 => ?_)
      have q39843 := w39841 4 (by decide)
      have q39844 := Xy39840.keep (h39747.at) (by decide) 2
      have q39845 := Xy39840.keep (h39751.at) (by decide) 2
      have Xz39846 : EK [0, 2, 13] P Y39838 := Xy39840.mono (by decide)
      have h39847 := Xy39840.at ha0
      refine g_aload_n C dX2_seek_46 rfl 1 rfl ?_
      refine g_iload_n C dX2_seek_47 rfl 3 rfl ?_
      refine g_putI C fi_X2_48 rfl (h39847).1 (h39847).2 dX2_seek_48 ?_
      refine gpW (ks := [2]) (Iy39839.setI (h39847) (rgOk.none rfl)) (EK.setI (h39847).2 (by decide)) (fun Y39848 Iy39849 Xy39850 w39851 w39852 => ?_)
      have q39853 := w39851 4 (by decide)
      have q39854 := w39851 5 (by decide)
      have Xz39855 : EK [0, 2, 13] P Y39848 := Xz39846.tr (Xy39850.mono (by decide))
      have h39856 := Xy39850.at h39847
      exact ret _ _ _ _ _ dX2_seek_51 (by decide) (by decide) ⟨Iy39849, Xz39855⟩
  · have h39760 : (pI P a0 5).toInt ≤ z39757.toInt := h39760
    exact ret _ _ _ _ _ dX2_seek_35 (by decide) (by decide) ⟨I, EK.rf⟩
set_option maxHeartbeats 4000000 in
set_option maxRecDepth 100000 in
theorem s_X2_seek_L5 {P : PP} {a0 : Nat} {a1 : Int32} {a2 : Int32} {a3 : Int32} (I : IV P) (ha0 : At P a0 2) (ha1 : 4 ≤ a1.toInt ∧ a1.toInt ≤ 4) (ha3 : 0 ≤ a3.toInt ∧ a3.toInt ≤ 6) : CtrV yX2_seek cX2_seek 7 none ({ frames := 7, cells := 0, slots := 0, locals := 448 } : Room) 0 0 P [.ref a0, .int a1, .int a2, .int a3] (fun P2 => IV P2 ∧ EK [0, 2, 13] P P2) := by
  refine enV (lv := [(0, .ref a0), (1, .int a1), (2, .int a2), (3, .int a3)]) (by decide) (Nat.le_of_ble_eq_true rfl) rfl (fun E D cy C Ci0 ret => ?_)
  have J159 : ∀ (P159 : PP) (v159_5 : Int32) (v159_6 : Int32), (IV P159) → (EK [0, 2, 13] P P159) → (0 ≤ v159_5.toInt ∧ v159_5.toInt ≤ 20) → (0 ≤ v159_6.toInt ∧ v159_6.toInt ≤ 20) → G E ({ frames := 7, cells := 0, slots := 0, locals := 448 } : Room) D cy 7 P159 0 0 159 [(0, .ref a0), (5, .int v159_5), (6, .int v159_6)] [] := by
    intro P159 v159_5 v159_6 I159 X159 hv159_5 hv159_6
    have h39991 := X159.at ha0
    refine g_aload_n C dX2_seek_159 rfl 0 rfl ?_
    obtain ⟨b39992, e39993, h39994⟩ := I159.fld (h39991) 2 0 0 rfl
    refine g_getR C fi_X2_21 rfl e39993 (h39991).1 (h39991).2 dX2_seek_160 ?_
    refine g_iload C dX2_seek_163 1 rfl ?_
    refine g_callVV (rest := []) C mv_X2_75 [.int v159_5] (s_X0_cut I159 h39994.at) (h39994.at).1 (h39994.at).2 rfl rfl (by decide) (Nat.le_of_ble_eq_true rfl) (by decide) dX2_seek_165 (fun Y39996 h39997 => ?_)
    obtain ⟨Iy39998, Xy39999⟩ := h39997
    have Xz40000 : EK [0, 2, 13] P Y39996 := X159.tr (Xy39999.mono (by decide))
    have h40001 := Xy39999.at h39991
    refine g_aload_n C dX2_seek_168 rfl 0 rfl ?_
    obtain ⟨b40002, e40003, h40004⟩ := Iy39998.fld (h40001) 3 0 0 rfl
    refine g_getR C fi_X2_25 rfl e40003 (h40001).1 (h40001).2 dX2_seek_169 ?_
    refine g_iload C dX2_seek_172 2 rfl ?_
    refine g_callVV (rest := []) C mv_X2_75 [.int v159_6] (s_X0_cut Iy39998 h40004.at) (h40004.at).1 (h40004.at).2 rfl rfl (by decide) (Nat.le_of_ble_eq_true rfl) (by decide) dX2_seek_174 (fun Y40006 h40007 => ?_)
    obtain ⟨Iy40008, Xy40009⟩ := h40007
    have Xz40010 : EK [0, 2, 13] P Y40006 := Xz40000.tr (Xy40009.mono (by decide))
    have h40011 := Xy40009.at h40001
    exact ret _ _ _ _ _ dX2_seek_177 (by decide) (by decide) ⟨Iy40008, Xz40010⟩
  refine g_aload_n C dX2_seek_0 rfl 0 rfl ?_
  refine g_getI C fi_X2_42 (by decide) (ha0).1 (ha0).2 dX2_seek_1 ?_
  have h40012 := I.rg (ha0) 4 rfl
  refine g_aload_n C dX2_seek_4 rfl 0 rfl ?_
  obtain ⟨b40013, e40014, h40015⟩ := I.fld (ha0) 2 0 0 rfl
  refine g_getR C fi_X2_21 rfl e40014 (ha0).1 (ha0).2 dX2_seek_5 ?_
  refine g_getI C fi_X2_62 (by decide) (h40015.at).1 (h40015.at).2 dX2_seek_8 ?_
  have h40016 := I.rg (h40015.at) 2 rfl
  refine g_aload_n C dX2_seek_11 rfl 0 rfl ?_
  obtain ⟨b40017, e40018, h40019⟩ := I.fld (ha0) 3 0 0 rfl
  refine g_getR C fi_X2_25 rfl e40018 (ha0).1 (ha0).2 dX2_seek_12 ?_
  refine g_getI C fi_X2_62 (by decide) (h40019.at).1 (h40019.at).2 dX2_seek_15 ?_
  have h40020 := I.rg (h40019.at) 2 rfl
  refine g_mmin C ms_X2_65 (by decide) (by decide) (Nat.le_of_ble_eq_true rfl) (by decide) dX2_seek_18 (fun z40021 h40022 => ?_)
  have h40022 : z40021.toInt ≤ (pI P b40013 2).toInt ∧ z40021.toInt ≤ (pI P b40017 2).toInt ∧ (z40021.toInt = (pI P b40013 2).toInt ∨ z40021.toInt = (pI P b40017 2).toInt) := h40022
  refine s_isub C dX2_seek_21 (by show -2147483648 ≤ (pI P a0 4).toInt - z40021.toInt ∧ (pI P a0 4).toInt - z40021.toInt ≤ 2147483647; omega) (fun z40023 h40024 => ?_)
  have h40024 : z40023.toInt = (pI P a0 4).toInt - z40021.toInt := h40024
  refine g_istore (lv' := [(4, .int z40023), (0, .ref a0), (1, .int a1), (2, .int a2), (3, .int a3)]) C dX2_seek_22 (by decide) rfl ?_
  refine g_iload_n C dX2_seek_24 rfl 4 rfl ?_
  refine g_iload C dX2_seek_25 0 rfl ?_
  refine s_iadd C dX2_seek_27 (by show -2147483648 ≤ a3.toInt + z40023.toInt ∧ a3.toInt + z40023.toInt ≤ 2147483647; omega) (fun z40025 h40026 => ?_)
  have h40026 : z40025.toInt = a3.toInt + z40023.toInt := h40026
  refine g_aload_n C dX2_seek_28 rfl 1 rfl ?_
  refine g_getI C fi_X2_45 (by decide) (ha0).1 (ha0).2 dX2_seek_29 ?_
  have h40027 := I.rg (ha0) 5 rfl
  refine b_icmp_lt C 36 dX2_seek_32 (by decide) (fun h40028 => ?_) (fun h40028 => ?_)
  · have h40028 : z40025.toInt < (pI P a0 5).toInt := h40028
    refine g_iload C dX2_seek_36 0 rfl ?_
    refine b_if_ne C 52 dX2_seek_38 (by decide) (fun h40029 => ?_) (fun h40029 => ?_)
    · have h40029 : z40023.toInt ≠ 0 := ti_ne h40029
      refine g_iload_n C dX2_seek_52 rfl 2 rfl ?_
      refine b_if_lt C 70 dX2_seek_53 (by decide) (fun h40030 => ?_) (fun h40030 => ?_)
      · have h40030 : a1.toInt < 0 := h40030
        omega
      · have h40030 : 0 ≤ a1.toInt := h40030
        refine g_iload_n C dX2_seek_56 rfl 2 rfl ?_
        refine g_bipush (v := 11) C dX2_seek_57 (by decide) ?_
        refine b_icmp_ge C 70 dX2_seek_59 (by decide) (fun h40031 => ?_) (fun h40031 => ?_)
        · have h40031 : 11 ≤ a1.toInt := h40031
          omega
        · have h40031 : a1.toInt < 11 := h40031
          refine g_iload C dX2_seek_62 0 rfl ?_
          refine g_iload_n C dX2_seek_64 rfl 2 rfl ?_
          refine g_iconst (v := 1) C dX2_seek_65 (by decide) ?_
          refine s_iadd C dX2_seek_66 (by show -2147483648 ≤ a1.toInt + 1 ∧ a1.toInt + 1 ≤ 2147483647; omega) (fun z40032 h40033 => ?_)
          have h40033 : z40032.toInt = a1.toInt + 1 := h40033
          refine b_icmp_le C 71 dX2_seek_67 (by decide) (fun h40034 => ?_) (fun h40034 => ?_)
          · have h40034 : z40023.toInt ≤ z40032.toInt := h40034
            refine g_aload_n C dX2_seek_71 rfl 1 rfl ?_
            refine g_iload_n C dX2_seek_72 rfl 2 rfl ?_
            refine g_iconst (v := 1) C dX2_seek_73 (by decide) ?_
            refine s_isub C dX2_seek_74 (by show -2147483648 ≤ a1.toInt - 1 ∧ a1.toInt - 1 ≤ 2147483647; omega) (fun z40035 h40036 => ?_)
            have h40036 : z40035.toInt = a1.toInt - 1 := h40036
            refine g_iload_n C dX2_seek_75 rfl 3 rfl ?_
            refine g_iload_n C dX2_seek_76 rfl 4 rfl ?_
            refine g_callVV (rest := []) C mv_X2_58 [.int z40035, .int a2, .int a3] (s_X2_seek_L4 I ha0 (by omega) (by omega)) (ha0).1 (ha0).2 rfl rfl (by decide) (Nat.le_of_ble_eq_true rfl) (by decide) dX2_seek_77 (fun Y40038 h40039 => ?_)
            obtain ⟨Iy40040, Xy40041⟩ := h40039
            have Xz40042 : EK [0, 2, 13] P Y40038 := Xy40041.mono (by decide)
            have h40043 := Xy40041.at ha0
            refine g_aload_n C dX2_seek_80 rfl 1 rfl ?_
            obtain ⟨b40044, e40045, h40046⟩ := Iy40040.fld (h40043) 2 0 0 rfl
            refine g_getR C fi_X2_21 rfl e40045 (h40043).1 (h40043).2 dX2_seek_81 ?_
            refine g_getI C fi_X2_62 (by decide) (h40046.at).1 (h40046.at).2 dX2_seek_84 ?_
            have h40047 := Iy40040.rg (h40046.at) 2 rfl
            refine g_topi (fun z40048 h40049 => ?_)
            have h40049 : z40048.toInt = (pI Y40038 b40044 2).toInt := congrArg Int32.toInt h40049
            refine g_istore (lv' := [(5, .int z40048), (4, .int z40023), (0, .ref a0), (1, .int a1), (2, .int a2), (3, .int a3)]) C dX2_seek_87 (by decide) rfl ?_
            refine g_aload_n C dX2_seek_89 rfl 2 rfl ?_
            obtain ⟨b40050, e40051, h40052⟩ := Iy40040.fld (h40043) 3 0 0 rfl
            refine g_getR C fi_X2_25 rfl e40051 (h40043).1 (h40043).2 dX2_seek_90 ?_
            refine g_getI C fi_X2_62 (by decide) (h40052.at).1 (h40052.at).2 dX2_seek_93 ?_
            have h40053 := Iy40040.rg (h40052.at) 2 rfl
            refine g_topi (fun z40054 h40055 => ?_)
            have h40055 : z40054.toInt = (pI Y40038 b40050 2).toInt := congrArg Int32.toInt h40055
            refine g_istore (lv' := [(6, .int z40054), (5, .int z40048), (4, .int z40023), (0, .ref a0), (1, .int a1), (2, .int a2), (3, .int a3)]) C dX2_seek_96 (by decide) rfl ?_
            refine g_aload_n C dX2_seek_98 rfl 3 rfl ?_
            refine g_getR C fi_X2_21 rfl e40045 (h40043).1 (h40043).2 dX2_seek_99 ?_
            refine g_aload_n C dX2_seek_102 rfl 3 rfl ?_
            obtain ⟨b40056, e40057, h40058⟩ := Iy40040.fld (h40043) 0 13 11 rfl
            refine g_getR C fi_X2_9 rfl e40057 (h40043).1 (h40043).2 dX2_seek_103 ?_
            refine g_iload_n C dX2_seek_106 rfl 4 rfl ?_
            refine g_iald (j := (a1.toInt.toNat)) C h40058.1 h40058.2.1 (ix_in h40058.2.2 (by omega)) dX2_seek_107 ?_
            refine g_topi (fun z40059 _ => ?_)
            refine g_callVV (rest := []) C mv_X2_71 [.int z40059] (s_X0_add Iy40040 h40046.at) (h40046.at).1 (h40046.at).2 rfl rfl (by decide) (Nat.le_of_ble_eq_true rfl) (by decide) dX2_seek_108 (fun Y40061 h40062 => ?_)
            obtain ⟨Iy40063, Xy40064⟩ := h40062
            have Xz40065 : EK [0, 2, 13] P Y40061 := Xz40042.tr (Xy40064.mono (by decide))
            have h40066 := Xy40064.at h40043
            refine g_aload_n C dX2_seek_111 rfl 3 rfl ?_
            obtain ⟨b40067, e40068, h40069⟩ := Iy40063.fld (h40066) 3 0 0 rfl
            refine g_getR C fi_X2_25 rfl e40068 (h40066).1 (h40066).2 dX2_seek_112 ?_
            refine g_aload_n C dX2_seek_115 rfl 3 rfl ?_
            obtain ⟨b40070, e40071, h40072⟩ := Iy40063.fld (h40066) 1 13 11 rfl
            refine g_getR C fi_X2_15 rfl e40071 (h40066).1 (h40066).2 dX2_seek_116 ?_
            refine g_iload_n C dX2_seek_119 rfl 4 rfl ?_
            refine g_iald (j := (a1.toInt.toNat)) C h40072.1 h40072.2.1 (ix_in h40072.2.2 (by omega)) dX2_seek_120 ?_
            refine g_topi (fun z40073 _ => ?_)
            refine g_callVV (rest := []) C mv_X2_71 [.int z40073] (s_X0_add Iy40063 h40069.at) (h40069.at).1 (h40069.at).2 rfl rfl (by decide) (Nat.le_of_ble_eq_true rfl) (by decide) dX2_seek_121 (fun Y40075 h40076 => ?_)
            obtain ⟨Iy40077, Xy40078⟩ := h40076
            have Xz40079 : EK [0, 2, 13] P Y40075 := Xz40065.tr (Xy40078.mono (by decide))
            have h40080 := Xy40078.at h40066
            refine g_aload_n C dX2_seek_124 rfl 3 rfl ?_
            obtain ⟨b40081, e40082, h40083⟩ := Iy40077.fld (h40080) 2 0 0 rfl
            refine g_getR C fi_X2_21 rfl e40082 (h40080).1 (h40080).2 dX2_seek_125 ?_
            refine g_getI C fi_X2_32 (by decide) (h40083.at).1 (h40083.at).2 dX2_seek_128 ?_
            have h40084 := Iy40077.rg (h40083.at) 3 rfl
            refine b_if_eq C 159 dX2_seek_131 (by decide) (fun h40085 => ?_) (fun h40085 => ?_)
            · have h40085 : (pI Y40075 b40081 3).toInt = 0 := congrArg Int32.toInt h40085
              refine g_lv (lv' := [(0, .ref a0), (5, .int z40048), (6, .int z40054)]) [3, 1, 0] rfl ?_
              exact J159 Y40075 z40048 z40054 Iy40077 Xz40079 (by omega) (by omega)
            · have h40085 : (pI Y40075 b40081 3).toInt ≠ 0 := ti_ne h40085
              refine g_aload_n C dX2_seek_134 rfl 3 rfl ?_
              obtain ⟨b40086, e40087, h40088⟩ := Iy40077.fld (h40080) 3 0 0 rfl
              refine g_getR C fi_X2_25 rfl e40087 (h40080).1 (h40080).2 dX2_seek_135 ?_
              refine g_getI C fi_X2_32 (by decide) (h40088.at).1 (h40088.at).2 dX2_seek_138 ?_
              have h40089 := Iy40077.rg (h40088.at) 3 rfl
              refine b_if_eq C 159 dX2_seek_141 (by decide) (fun h40090 => ?_) (fun h40090 => ?_)
              · have h40090 : (pI Y40075 b40086 3).toInt = 0 := congrArg Int32.toInt h40090
                refine g_lv (lv' := [(0, .ref a0), (5, .int z40048), (6, .int z40054)]) [3, 1, 0] rfl ?_
                exact J159 Y40075 z40048 z40054 Iy40077 Xz40079 (by omega) (by omega)
              · have h40090 : (pI Y40075 b40086 3).toInt ≠ 0 := ti_ne h40090
                refine g_aload_n C dX2_seek_144 rfl 3 rfl ?_
                refine g_iload_n C dX2_seek_145 rfl 4 rfl ?_
                refine g_iconst (v := 1) C dX2_seek_146 (by decide) ?_
                refine s_isub C dX2_seek_147 (by show -2147483648 ≤ a1.toInt - 1 ∧ a1.toInt - 1 ≤ 2147483647; omega) (fun z40091 h40092 => ?_)
                have h40092 : z40091.toInt = a1.toInt - 1 := h40092
                refine g_iload_n C dX2_seek_148 rfl 5 rfl ?_
                refine g_iconst (v := 1) C dX2_seek_149 (by decide) ?_
                refine g_iload_n C dX2_seek_150 rfl 4 rfl ?_
                refine a_ishl C dX2_seek_151 (fun z40093 => ?_)
                refine a_ior C dX2_seek_152 (fun z40095 => ?_)
                refine g_iload_n C dX2_seek_153 rfl 6 rfl ?_
                refine g_iconst (v := 1) C dX2_seek_154 (by decide) ?_
                refine s_iadd C dX2_seek_155 (by show -2147483648 ≤ a3.toInt + 1 ∧ a3.toInt + 1 ≤ 2147483647; omega) (fun z40097 h40098 => ?_)
                have h40098 : z40097.toInt = a3.toInt + 1 := h40098
                refine g_callVV (rest := []) C mv_X2_58 [.int z40091, .int z40095, .int z40097] (s_X2_seek_L4 Iy40077 h40080 (by omega) (by omega)) (h40080).1 (h40080).2 rfl rfl (by decide) (Nat.le_of_ble_eq_true rfl) (by decide) dX2_seek_156 (fun Y40100 h40101 => ?_)
                obtain ⟨Iy40102, Xy40103⟩ := h40101
                have Xz40104 : EK [0, 2, 13] P Y40100 := Xz40079.tr (Xy40103.mono (by decide))
                have h40105 := Xy40103.at h40080
                refine g_lv (lv' := [(0, .ref a0), (5, .int z40048), (6, .int z40054)]) [3, 1, 0] rfl ?_
                exact J159 Y40100 z40048 z40054 Iy40102 Xz40104 (by omega) (by omega)
          · have h40034 : z40032.toInt < z40023.toInt := h40034
            exact ret _ _ _ _ _ dX2_seek_70 (by decide) (by decide) ⟨I, EK.rf⟩
    · have h40029 : z40023.toInt = 0 := congrArg Int32.toInt h40029
      refine g_aload_n C dX2_seek_41 rfl 1 rfl ?_
      refine g_iload_n C dX2_seek_42 rfl 4 rfl ?_
      refine g_putI C fi_X2_45 rfl (ha0).1 (ha0).2 dX2_seek_43 ?_
      refine gpW (ks := [2]) (I.setI (ha0) (rgOk.of rfl (by omega))) (EK.setI (ha0).2 (by decide)) (fun Y40106 Iy40107 Xy40108 w40109 w40110 => ?_)
      have q40111 := w40109 4 (by decide)
      have q40112 := Xy40108.keep (h40015.at) (by decide) 2
      have q40113 := Xy40108.keep (h40019.at) (by decide) 2
      have Xz40114 : EK [0, 2, 13] P Y40106 := Xy40108.mono (by decide)
      have h40115 := Xy40108.at ha0
      refine g_aload_n C dX2_seek_46 rfl 1 rfl ?_
      refine g_iload_n C dX2_seek_47 rfl 3 rfl ?_
      refine g_putI C fi_X2_48 rfl (h40115).1 (h40115).2 dX2_seek_48 ?_
      refine gpW (ks := [2]) (Iy40107.setI (h40115) (rgOk.none rfl)) (EK.setI (h40115).2 (by decide)) (fun Y40116 Iy40117 Xy40118 w40119 w40120 => ?_)
      have q40121 := w40119 4 (by decide)
      have q40122 := w40119 5 (by decide)
      have Xz40123 : EK [0, 2, 13] P Y40116 := Xz40114.tr (Xy40118.mono (by decide))
      have h40124 := Xy40118.at h40115
      exact ret _ _ _ _ _ dX2_seek_51 (by decide) (by decide) ⟨Iy40117, Xz40123⟩
  · have h40028 : (pI P a0 5).toInt ≤ z40025.toInt := h40028
    exact ret _ _ _ _ _ dX2_seek_35 (by decide) (by decide) ⟨I, EK.rf⟩
set_option maxHeartbeats 4000000 in
set_option maxRecDepth 100000 in
theorem s_X2_seek_L6 {P : PP} {a0 : Nat} {a1 : Int32} {a2 : Int32} {a3 : Int32} (I : IV P) (ha0 : At P a0 2) (ha1 : 5 ≤ a1.toInt ∧ a1.toInt ≤ 5) (ha3 : 0 ≤ a3.toInt ∧ a3.toInt ≤ 5) : CtrV yX2_seek cX2_seek 7 none ({ frames := 8, cells := 0, slots := 0, locals := 512 } : Room) 0 0 P [.ref a0, .int a1, .int a2, .int a3] (fun P2 => IV P2 ∧ EK [0, 2, 13] P P2) := by
  refine enV (lv := [(0, .ref a0), (1, .int a1), (2, .int a2), (3, .int a3)]) (by decide) (Nat.le_of_ble_eq_true rfl) rfl (fun E D cy C Ci0 ret => ?_)
  have J159 : ∀ (P159 : PP) (v159_5 : Int32) (v159_6 : Int32), (IV P159) → (EK [0, 2, 13] P P159) → (0 ≤ v159_5.toInt ∧ v159_5.toInt ≤ 20) → (0 ≤ v159_6.toInt ∧ v159_6.toInt ≤ 20) → G E ({ frames := 8, cells := 0, slots := 0, locals := 512 } : Room) D cy 7 P159 0 0 159 [(0, .ref a0), (5, .int v159_5), (6, .int v159_6)] [] := by
    intro P159 v159_5 v159_6 I159 X159 hv159_5 hv159_6
    have h40259 := X159.at ha0
    refine g_aload_n C dX2_seek_159 rfl 0 rfl ?_
    obtain ⟨b40260, e40261, h40262⟩ := I159.fld (h40259) 2 0 0 rfl
    refine g_getR C fi_X2_21 rfl e40261 (h40259).1 (h40259).2 dX2_seek_160 ?_
    refine g_iload C dX2_seek_163 1 rfl ?_
    refine g_callVV (rest := []) C mv_X2_75 [.int v159_5] (s_X0_cut I159 h40262.at) (h40262.at).1 (h40262.at).2 rfl rfl (by decide) (Nat.le_of_ble_eq_true rfl) (by decide) dX2_seek_165 (fun Y40264 h40265 => ?_)
    obtain ⟨Iy40266, Xy40267⟩ := h40265
    have Xz40268 : EK [0, 2, 13] P Y40264 := X159.tr (Xy40267.mono (by decide))
    have h40269 := Xy40267.at h40259
    refine g_aload_n C dX2_seek_168 rfl 0 rfl ?_
    obtain ⟨b40270, e40271, h40272⟩ := Iy40266.fld (h40269) 3 0 0 rfl
    refine g_getR C fi_X2_25 rfl e40271 (h40269).1 (h40269).2 dX2_seek_169 ?_
    refine g_iload C dX2_seek_172 2 rfl ?_
    refine g_callVV (rest := []) C mv_X2_75 [.int v159_6] (s_X0_cut Iy40266 h40272.at) (h40272.at).1 (h40272.at).2 rfl rfl (by decide) (Nat.le_of_ble_eq_true rfl) (by decide) dX2_seek_174 (fun Y40274 h40275 => ?_)
    obtain ⟨Iy40276, Xy40277⟩ := h40275
    have Xz40278 : EK [0, 2, 13] P Y40274 := Xz40268.tr (Xy40277.mono (by decide))
    have h40279 := Xy40277.at h40269
    exact ret _ _ _ _ _ dX2_seek_177 (by decide) (by decide) ⟨Iy40276, Xz40278⟩
  refine g_aload_n C dX2_seek_0 rfl 0 rfl ?_
  refine g_getI C fi_X2_42 (by decide) (ha0).1 (ha0).2 dX2_seek_1 ?_
  have h40280 := I.rg (ha0) 4 rfl
  refine g_aload_n C dX2_seek_4 rfl 0 rfl ?_
  obtain ⟨b40281, e40282, h40283⟩ := I.fld (ha0) 2 0 0 rfl
  refine g_getR C fi_X2_21 rfl e40282 (ha0).1 (ha0).2 dX2_seek_5 ?_
  refine g_getI C fi_X2_62 (by decide) (h40283.at).1 (h40283.at).2 dX2_seek_8 ?_
  have h40284 := I.rg (h40283.at) 2 rfl
  refine g_aload_n C dX2_seek_11 rfl 0 rfl ?_
  obtain ⟨b40285, e40286, h40287⟩ := I.fld (ha0) 3 0 0 rfl
  refine g_getR C fi_X2_25 rfl e40286 (ha0).1 (ha0).2 dX2_seek_12 ?_
  refine g_getI C fi_X2_62 (by decide) (h40287.at).1 (h40287.at).2 dX2_seek_15 ?_
  have h40288 := I.rg (h40287.at) 2 rfl
  refine g_mmin C ms_X2_65 (by decide) (by decide) (Nat.le_of_ble_eq_true rfl) (by decide) dX2_seek_18 (fun z40289 h40290 => ?_)
  have h40290 : z40289.toInt ≤ (pI P b40281 2).toInt ∧ z40289.toInt ≤ (pI P b40285 2).toInt ∧ (z40289.toInt = (pI P b40281 2).toInt ∨ z40289.toInt = (pI P b40285 2).toInt) := h40290
  refine s_isub C dX2_seek_21 (by show -2147483648 ≤ (pI P a0 4).toInt - z40289.toInt ∧ (pI P a0 4).toInt - z40289.toInt ≤ 2147483647; omega) (fun z40291 h40292 => ?_)
  have h40292 : z40291.toInt = (pI P a0 4).toInt - z40289.toInt := h40292
  refine g_istore (lv' := [(4, .int z40291), (0, .ref a0), (1, .int a1), (2, .int a2), (3, .int a3)]) C dX2_seek_22 (by decide) rfl ?_
  refine g_iload_n C dX2_seek_24 rfl 4 rfl ?_
  refine g_iload C dX2_seek_25 0 rfl ?_
  refine s_iadd C dX2_seek_27 (by show -2147483648 ≤ a3.toInt + z40291.toInt ∧ a3.toInt + z40291.toInt ≤ 2147483647; omega) (fun z40293 h40294 => ?_)
  have h40294 : z40293.toInt = a3.toInt + z40291.toInt := h40294
  refine g_aload_n C dX2_seek_28 rfl 1 rfl ?_
  refine g_getI C fi_X2_45 (by decide) (ha0).1 (ha0).2 dX2_seek_29 ?_
  have h40295 := I.rg (ha0) 5 rfl
  refine b_icmp_lt C 36 dX2_seek_32 (by decide) (fun h40296 => ?_) (fun h40296 => ?_)
  · have h40296 : z40293.toInt < (pI P a0 5).toInt := h40296
    refine g_iload C dX2_seek_36 0 rfl ?_
    refine b_if_ne C 52 dX2_seek_38 (by decide) (fun h40297 => ?_) (fun h40297 => ?_)
    · have h40297 : z40291.toInt ≠ 0 := ti_ne h40297
      refine g_iload_n C dX2_seek_52 rfl 2 rfl ?_
      refine b_if_lt C 70 dX2_seek_53 (by decide) (fun h40298 => ?_) (fun h40298 => ?_)
      · have h40298 : a1.toInt < 0 := h40298
        omega
      · have h40298 : 0 ≤ a1.toInt := h40298
        refine g_iload_n C dX2_seek_56 rfl 2 rfl ?_
        refine g_bipush (v := 11) C dX2_seek_57 (by decide) ?_
        refine b_icmp_ge C 70 dX2_seek_59 (by decide) (fun h40299 => ?_) (fun h40299 => ?_)
        · have h40299 : 11 ≤ a1.toInt := h40299
          omega
        · have h40299 : a1.toInt < 11 := h40299
          refine g_iload C dX2_seek_62 0 rfl ?_
          refine g_iload_n C dX2_seek_64 rfl 2 rfl ?_
          refine g_iconst (v := 1) C dX2_seek_65 (by decide) ?_
          refine s_iadd C dX2_seek_66 (by show -2147483648 ≤ a1.toInt + 1 ∧ a1.toInt + 1 ≤ 2147483647; omega) (fun z40300 h40301 => ?_)
          have h40301 : z40300.toInt = a1.toInt + 1 := h40301
          refine b_icmp_le C 71 dX2_seek_67 (by decide) (fun h40302 => ?_) (fun h40302 => ?_)
          · have h40302 : z40291.toInt ≤ z40300.toInt := h40302
            refine g_aload_n C dX2_seek_71 rfl 1 rfl ?_
            refine g_iload_n C dX2_seek_72 rfl 2 rfl ?_
            refine g_iconst (v := 1) C dX2_seek_73 (by decide) ?_
            refine s_isub C dX2_seek_74 (by show -2147483648 ≤ a1.toInt - 1 ∧ a1.toInt - 1 ≤ 2147483647; omega) (fun z40303 h40304 => ?_)
            have h40304 : z40303.toInt = a1.toInt - 1 := h40304
            refine g_iload_n C dX2_seek_75 rfl 3 rfl ?_
            refine g_iload_n C dX2_seek_76 rfl 4 rfl ?_
            refine g_callVV (rest := []) C mv_X2_58 [.int z40303, .int a2, .int a3] (s_X2_seek_L5 I ha0 (by omega) (by omega)) (ha0).1 (ha0).2 rfl rfl (by decide) (Nat.le_of_ble_eq_true rfl) (by decide) dX2_seek_77 (fun Y40306 h40307 => ?_)
            obtain ⟨Iy40308, Xy40309⟩ := h40307
            have Xz40310 : EK [0, 2, 13] P Y40306 := Xy40309.mono (by decide)
            have h40311 := Xy40309.at ha0
            refine g_aload_n C dX2_seek_80 rfl 1 rfl ?_
            obtain ⟨b40312, e40313, h40314⟩ := Iy40308.fld (h40311) 2 0 0 rfl
            refine g_getR C fi_X2_21 rfl e40313 (h40311).1 (h40311).2 dX2_seek_81 ?_
            refine g_getI C fi_X2_62 (by decide) (h40314.at).1 (h40314.at).2 dX2_seek_84 ?_
            have h40315 := Iy40308.rg (h40314.at) 2 rfl
            refine g_topi (fun z40316 h40317 => ?_)
            have h40317 : z40316.toInt = (pI Y40306 b40312 2).toInt := congrArg Int32.toInt h40317
            refine g_istore (lv' := [(5, .int z40316), (4, .int z40291), (0, .ref a0), (1, .int a1), (2, .int a2), (3, .int a3)]) C dX2_seek_87 (by decide) rfl ?_
            refine g_aload_n C dX2_seek_89 rfl 2 rfl ?_
            obtain ⟨b40318, e40319, h40320⟩ := Iy40308.fld (h40311) 3 0 0 rfl
            refine g_getR C fi_X2_25 rfl e40319 (h40311).1 (h40311).2 dX2_seek_90 ?_
            refine g_getI C fi_X2_62 (by decide) (h40320.at).1 (h40320.at).2 dX2_seek_93 ?_
            have h40321 := Iy40308.rg (h40320.at) 2 rfl
            refine g_topi (fun z40322 h40323 => ?_)
            have h40323 : z40322.toInt = (pI Y40306 b40318 2).toInt := congrArg Int32.toInt h40323
            refine g_istore (lv' := [(6, .int z40322), (5, .int z40316), (4, .int z40291), (0, .ref a0), (1, .int a1), (2, .int a2), (3, .int a3)]) C dX2_seek_96 (by decide) rfl ?_
            refine g_aload_n C dX2_seek_98 rfl 3 rfl ?_
            refine g_getR C fi_X2_21 rfl e40313 (h40311).1 (h40311).2 dX2_seek_99 ?_
            refine g_aload_n C dX2_seek_102 rfl 3 rfl ?_
            obtain ⟨b40324, e40325, h40326⟩ := Iy40308.fld (h40311) 0 13 11 rfl
            refine g_getR C fi_X2_9 rfl e40325 (h40311).1 (h40311).2 dX2_seek_103 ?_
            refine g_iload_n C dX2_seek_106 rfl 4 rfl ?_
            refine g_iald (j := (a1.toInt.toNat)) C h40326.1 h40326.2.1 (ix_in h40326.2.2 (by omega)) dX2_seek_107 ?_
            refine g_topi (fun z40327 _ => ?_)
            refine g_callVV (rest := []) C mv_X2_71 [.int z40327] (s_X0_add Iy40308 h40314.at) (h40314.at).1 (h40314.at).2 rfl rfl (by decide) (Nat.le_of_ble_eq_true rfl) (by decide) dX2_seek_108 (fun Y40329 h40330 => ?_)
            obtain ⟨Iy40331, Xy40332⟩ := h40330
            have Xz40333 : EK [0, 2, 13] P Y40329 := Xz40310.tr (Xy40332.mono (by decide))
            have h40334 := Xy40332.at h40311
            refine g_aload_n C dX2_seek_111 rfl 3 rfl ?_
            obtain ⟨b40335, e40336, h40337⟩ := Iy40331.fld (h40334) 3 0 0 rfl
            refine g_getR C fi_X2_25 rfl e40336 (h40334).1 (h40334).2 dX2_seek_112 ?_
            refine g_aload_n C dX2_seek_115 rfl 3 rfl ?_
            obtain ⟨b40338, e40339, h40340⟩ := Iy40331.fld (h40334) 1 13 11 rfl
            refine g_getR C fi_X2_15 rfl e40339 (h40334).1 (h40334).2 dX2_seek_116 ?_
            refine g_iload_n C dX2_seek_119 rfl 4 rfl ?_
            refine g_iald (j := (a1.toInt.toNat)) C h40340.1 h40340.2.1 (ix_in h40340.2.2 (by omega)) dX2_seek_120 ?_
            refine g_topi (fun z40341 _ => ?_)
            refine g_callVV (rest := []) C mv_X2_71 [.int z40341] (s_X0_add Iy40331 h40337.at) (h40337.at).1 (h40337.at).2 rfl rfl (by decide) (Nat.le_of_ble_eq_true rfl) (by decide) dX2_seek_121 (fun Y40343 h40344 => ?_)
            obtain ⟨Iy40345, Xy40346⟩ := h40344
            have Xz40347 : EK [0, 2, 13] P Y40343 := Xz40333.tr (Xy40346.mono (by decide))
            have h40348 := Xy40346.at h40334
            refine g_aload_n C dX2_seek_124 rfl 3 rfl ?_
            obtain ⟨b40349, e40350, h40351⟩ := Iy40345.fld (h40348) 2 0 0 rfl
            refine g_getR C fi_X2_21 rfl e40350 (h40348).1 (h40348).2 dX2_seek_125 ?_
            refine g_getI C fi_X2_32 (by decide) (h40351.at).1 (h40351.at).2 dX2_seek_128 ?_
            have h40352 := Iy40345.rg (h40351.at) 3 rfl
            refine b_if_eq C 159 dX2_seek_131 (by decide) (fun h40353 => ?_) (fun h40353 => ?_)
            · have h40353 : (pI Y40343 b40349 3).toInt = 0 := congrArg Int32.toInt h40353
              refine g_lv (lv' := [(0, .ref a0), (5, .int z40316), (6, .int z40322)]) [3, 1, 0] rfl ?_
              exact J159 Y40343 z40316 z40322 Iy40345 Xz40347 (by omega) (by omega)
            · have h40353 : (pI Y40343 b40349 3).toInt ≠ 0 := ti_ne h40353
              refine g_aload_n C dX2_seek_134 rfl 3 rfl ?_
              obtain ⟨b40354, e40355, h40356⟩ := Iy40345.fld (h40348) 3 0 0 rfl
              refine g_getR C fi_X2_25 rfl e40355 (h40348).1 (h40348).2 dX2_seek_135 ?_
              refine g_getI C fi_X2_32 (by decide) (h40356.at).1 (h40356.at).2 dX2_seek_138 ?_
              have h40357 := Iy40345.rg (h40356.at) 3 rfl
              refine b_if_eq C 159 dX2_seek_141 (by decide) (fun h40358 => ?_) (fun h40358 => ?_)
              · have h40358 : (pI Y40343 b40354 3).toInt = 0 := congrArg Int32.toInt h40358
                refine g_lv (lv' := [(0, .ref a0), (5, .int z40316), (6, .int z40322)]) [3, 1, 0] rfl ?_
                exact J159 Y40343 z40316 z40322 Iy40345 Xz40347 (by omega) (by omega)
              · have h40358 : (pI Y40343 b40354 3).toInt ≠ 0 := ti_ne h40358
                refine g_aload_n C dX2_seek_144 rfl 3 rfl ?_
                refine g_iload_n C dX2_seek_145 rfl 4 rfl ?_
                refine g_iconst (v := 1) C dX2_seek_146 (by decide) ?_
                refine s_isub C dX2_seek_147 (by show -2147483648 ≤ a1.toInt - 1 ∧ a1.toInt - 1 ≤ 2147483647; omega) (fun z40359 h40360 => ?_)
                have h40360 : z40359.toInt = a1.toInt - 1 := h40360
                refine g_iload_n C dX2_seek_148 rfl 5 rfl ?_
                refine g_iconst (v := 1) C dX2_seek_149 (by decide) ?_
                refine g_iload_n C dX2_seek_150 rfl 4 rfl ?_
                refine a_ishl C dX2_seek_151 (fun z40361 => ?_)
                refine a_ior C dX2_seek_152 (fun z40363 => ?_)
                refine g_iload_n C dX2_seek_153 rfl 6 rfl ?_
                refine g_iconst (v := 1) C dX2_seek_154 (by decide) ?_
                refine s_iadd C dX2_seek_155 (by show -2147483648 ≤ a3.toInt + 1 ∧ a3.toInt + 1 ≤ 2147483647; omega) (fun z40365 h40366 => ?_)
                have h40366 : z40365.toInt = a3.toInt + 1 := h40366
                refine g_callVV (rest := []) C mv_X2_58 [.int z40359, .int z40363, .int z40365] (s_X2_seek_L5 Iy40345 h40348 (by omega) (by omega)) (h40348).1 (h40348).2 rfl rfl (by decide) (Nat.le_of_ble_eq_true rfl) (by decide) dX2_seek_156 (fun Y40368 h40369 => ?_)
                obtain ⟨Iy40370, Xy40371⟩ := h40369
                have Xz40372 : EK [0, 2, 13] P Y40368 := Xz40347.tr (Xy40371.mono (by decide))
                have h40373 := Xy40371.at h40348
                refine g_lv (lv' := [(0, .ref a0), (5, .int z40316), (6, .int z40322)]) [3, 1, 0] rfl ?_
                exact J159 Y40368 z40316 z40322 Iy40370 Xz40372 (by omega) (by omega)
          · have h40302 : z40300.toInt < z40291.toInt := h40302
            exact ret _ _ _ _ _ dX2_seek_70 (by decide) (by decide) ⟨I, EK.rf⟩
    · have h40297 : z40291.toInt = 0 := congrArg Int32.toInt h40297
      refine g_aload_n C dX2_seek_41 rfl 1 rfl ?_
      refine g_iload_n C dX2_seek_42 rfl 4 rfl ?_
      refine g_putI C fi_X2_45 rfl (ha0).1 (ha0).2 dX2_seek_43 ?_
      refine gpW (ks := [2]) (I.setI (ha0) (rgOk.of rfl (by omega))) (EK.setI (ha0).2 (by decide)) (fun Y40374 Iy40375 Xy40376 w40377 w40378 => ?_)
      have q40379 := w40377 4 (by decide)
      have q40380 := Xy40376.keep (h40283.at) (by decide) 2
      have q40381 := Xy40376.keep (h40287.at) (by decide) 2
      have Xz40382 : EK [0, 2, 13] P Y40374 := Xy40376.mono (by decide)
      have h40383 := Xy40376.at ha0
      refine g_aload_n C dX2_seek_46 rfl 1 rfl ?_
      refine g_iload_n C dX2_seek_47 rfl 3 rfl ?_
      refine g_putI C fi_X2_48 rfl (h40383).1 (h40383).2 dX2_seek_48 ?_
      refine gpW (ks := [2]) (Iy40375.setI (h40383) (rgOk.none rfl)) (EK.setI (h40383).2 (by decide)) (fun Y40384 Iy40385 Xy40386 w40387 w40388 => ?_)
      have q40389 := w40387 4 (by decide)
      have q40390 := w40387 5 (by decide)
      have Xz40391 : EK [0, 2, 13] P Y40384 := Xz40382.tr (Xy40386.mono (by decide))
      have h40392 := Xy40386.at h40383
      exact ret _ _ _ _ _ dX2_seek_51 (by decide) (by decide) ⟨Iy40385, Xz40391⟩
  · have h40296 : (pI P a0 5).toInt ≤ z40293.toInt := h40296
    exact ret _ _ _ _ _ dX2_seek_35 (by decide) (by decide) ⟨I, EK.rf⟩
set_option maxHeartbeats 4000000 in
set_option maxRecDepth 100000 in
theorem s_X2_seek_L7 {P : PP} {a0 : Nat} {a1 : Int32} {a2 : Int32} {a3 : Int32} (I : IV P) (ha0 : At P a0 2) (ha1 : 6 ≤ a1.toInt ∧ a1.toInt ≤ 6) (ha3 : 0 ≤ a3.toInt ∧ a3.toInt ≤ 4) : CtrV yX2_seek cX2_seek 7 none ({ frames := 9, cells := 0, slots := 0, locals := 576 } : Room) 0 0 P [.ref a0, .int a1, .int a2, .int a3] (fun P2 => IV P2 ∧ EK [0, 2, 13] P P2) := by
  refine enV (lv := [(0, .ref a0), (1, .int a1), (2, .int a2), (3, .int a3)]) (by decide) (Nat.le_of_ble_eq_true rfl) rfl (fun E D cy C Ci0 ret => ?_)
  have J159 : ∀ (P159 : PP) (v159_5 : Int32) (v159_6 : Int32), (IV P159) → (EK [0, 2, 13] P P159) → (0 ≤ v159_5.toInt ∧ v159_5.toInt ≤ 20) → (0 ≤ v159_6.toInt ∧ v159_6.toInt ≤ 20) → G E ({ frames := 9, cells := 0, slots := 0, locals := 576 } : Room) D cy 7 P159 0 0 159 [(0, .ref a0), (5, .int v159_5), (6, .int v159_6)] [] := by
    intro P159 v159_5 v159_6 I159 X159 hv159_5 hv159_6
    have h40527 := X159.at ha0
    refine g_aload_n C dX2_seek_159 rfl 0 rfl ?_
    obtain ⟨b40528, e40529, h40530⟩ := I159.fld (h40527) 2 0 0 rfl
    refine g_getR C fi_X2_21 rfl e40529 (h40527).1 (h40527).2 dX2_seek_160 ?_
    refine g_iload C dX2_seek_163 1 rfl ?_
    refine g_callVV (rest := []) C mv_X2_75 [.int v159_5] (s_X0_cut I159 h40530.at) (h40530.at).1 (h40530.at).2 rfl rfl (by decide) (Nat.le_of_ble_eq_true rfl) (by decide) dX2_seek_165 (fun Y40532 h40533 => ?_)
    obtain ⟨Iy40534, Xy40535⟩ := h40533
    have Xz40536 : EK [0, 2, 13] P Y40532 := X159.tr (Xy40535.mono (by decide))
    have h40537 := Xy40535.at h40527
    refine g_aload_n C dX2_seek_168 rfl 0 rfl ?_
    obtain ⟨b40538, e40539, h40540⟩ := Iy40534.fld (h40537) 3 0 0 rfl
    refine g_getR C fi_X2_25 rfl e40539 (h40537).1 (h40537).2 dX2_seek_169 ?_
    refine g_iload C dX2_seek_172 2 rfl ?_
    refine g_callVV (rest := []) C mv_X2_75 [.int v159_6] (s_X0_cut Iy40534 h40540.at) (h40540.at).1 (h40540.at).2 rfl rfl (by decide) (Nat.le_of_ble_eq_true rfl) (by decide) dX2_seek_174 (fun Y40542 h40543 => ?_)
    obtain ⟨Iy40544, Xy40545⟩ := h40543
    have Xz40546 : EK [0, 2, 13] P Y40542 := Xz40536.tr (Xy40545.mono (by decide))
    have h40547 := Xy40545.at h40537
    exact ret _ _ _ _ _ dX2_seek_177 (by decide) (by decide) ⟨Iy40544, Xz40546⟩
  refine g_aload_n C dX2_seek_0 rfl 0 rfl ?_
  refine g_getI C fi_X2_42 (by decide) (ha0).1 (ha0).2 dX2_seek_1 ?_
  have h40548 := I.rg (ha0) 4 rfl
  refine g_aload_n C dX2_seek_4 rfl 0 rfl ?_
  obtain ⟨b40549, e40550, h40551⟩ := I.fld (ha0) 2 0 0 rfl
  refine g_getR C fi_X2_21 rfl e40550 (ha0).1 (ha0).2 dX2_seek_5 ?_
  refine g_getI C fi_X2_62 (by decide) (h40551.at).1 (h40551.at).2 dX2_seek_8 ?_
  have h40552 := I.rg (h40551.at) 2 rfl
  refine g_aload_n C dX2_seek_11 rfl 0 rfl ?_
  obtain ⟨b40553, e40554, h40555⟩ := I.fld (ha0) 3 0 0 rfl
  refine g_getR C fi_X2_25 rfl e40554 (ha0).1 (ha0).2 dX2_seek_12 ?_
  refine g_getI C fi_X2_62 (by decide) (h40555.at).1 (h40555.at).2 dX2_seek_15 ?_
  have h40556 := I.rg (h40555.at) 2 rfl
  refine g_mmin C ms_X2_65 (by decide) (by decide) (Nat.le_of_ble_eq_true rfl) (by decide) dX2_seek_18 (fun z40557 h40558 => ?_)
  have h40558 : z40557.toInt ≤ (pI P b40549 2).toInt ∧ z40557.toInt ≤ (pI P b40553 2).toInt ∧ (z40557.toInt = (pI P b40549 2).toInt ∨ z40557.toInt = (pI P b40553 2).toInt) := h40558
  refine s_isub C dX2_seek_21 (by show -2147483648 ≤ (pI P a0 4).toInt - z40557.toInt ∧ (pI P a0 4).toInt - z40557.toInt ≤ 2147483647; omega) (fun z40559 h40560 => ?_)
  have h40560 : z40559.toInt = (pI P a0 4).toInt - z40557.toInt := h40560
  refine g_istore (lv' := [(4, .int z40559), (0, .ref a0), (1, .int a1), (2, .int a2), (3, .int a3)]) C dX2_seek_22 (by decide) rfl ?_
  refine g_iload_n C dX2_seek_24 rfl 4 rfl ?_
  refine g_iload C dX2_seek_25 0 rfl ?_
  refine s_iadd C dX2_seek_27 (by show -2147483648 ≤ a3.toInt + z40559.toInt ∧ a3.toInt + z40559.toInt ≤ 2147483647; omega) (fun z40561 h40562 => ?_)
  have h40562 : z40561.toInt = a3.toInt + z40559.toInt := h40562
  refine g_aload_n C dX2_seek_28 rfl 1 rfl ?_
  refine g_getI C fi_X2_45 (by decide) (ha0).1 (ha0).2 dX2_seek_29 ?_
  have h40563 := I.rg (ha0) 5 rfl
  refine b_icmp_lt C 36 dX2_seek_32 (by decide) (fun h40564 => ?_) (fun h40564 => ?_)
  · have h40564 : z40561.toInt < (pI P a0 5).toInt := h40564
    refine g_iload C dX2_seek_36 0 rfl ?_
    refine b_if_ne C 52 dX2_seek_38 (by decide) (fun h40565 => ?_) (fun h40565 => ?_)
    · have h40565 : z40559.toInt ≠ 0 := ti_ne h40565
      refine g_iload_n C dX2_seek_52 rfl 2 rfl ?_
      refine b_if_lt C 70 dX2_seek_53 (by decide) (fun h40566 => ?_) (fun h40566 => ?_)
      · have h40566 : a1.toInt < 0 := h40566
        omega
      · have h40566 : 0 ≤ a1.toInt := h40566
        refine g_iload_n C dX2_seek_56 rfl 2 rfl ?_
        refine g_bipush (v := 11) C dX2_seek_57 (by decide) ?_
        refine b_icmp_ge C 70 dX2_seek_59 (by decide) (fun h40567 => ?_) (fun h40567 => ?_)
        · have h40567 : 11 ≤ a1.toInt := h40567
          omega
        · have h40567 : a1.toInt < 11 := h40567
          refine g_iload C dX2_seek_62 0 rfl ?_
          refine g_iload_n C dX2_seek_64 rfl 2 rfl ?_
          refine g_iconst (v := 1) C dX2_seek_65 (by decide) ?_
          refine s_iadd C dX2_seek_66 (by show -2147483648 ≤ a1.toInt + 1 ∧ a1.toInt + 1 ≤ 2147483647; omega) (fun z40568 h40569 => ?_)
          have h40569 : z40568.toInt = a1.toInt + 1 := h40569
          refine b_icmp_le C 71 dX2_seek_67 (by decide) (fun h40570 => ?_) (fun h40570 => ?_)
          · have h40570 : z40559.toInt ≤ z40568.toInt := h40570
            refine g_aload_n C dX2_seek_71 rfl 1 rfl ?_
            refine g_iload_n C dX2_seek_72 rfl 2 rfl ?_
            refine g_iconst (v := 1) C dX2_seek_73 (by decide) ?_
            refine s_isub C dX2_seek_74 (by show -2147483648 ≤ a1.toInt - 1 ∧ a1.toInt - 1 ≤ 2147483647; omega) (fun z40571 h40572 => ?_)
            have h40572 : z40571.toInt = a1.toInt - 1 := h40572
            refine g_iload_n C dX2_seek_75 rfl 3 rfl ?_
            refine g_iload_n C dX2_seek_76 rfl 4 rfl ?_
            refine g_callVV (rest := []) C mv_X2_58 [.int z40571, .int a2, .int a3] (s_X2_seek_L6 I ha0 (by omega) (by omega)) (ha0).1 (ha0).2 rfl rfl (by decide) (Nat.le_of_ble_eq_true rfl) (by decide) dX2_seek_77 (fun Y40574 h40575 => ?_)
            obtain ⟨Iy40576, Xy40577⟩ := h40575
            have Xz40578 : EK [0, 2, 13] P Y40574 := Xy40577.mono (by decide)
            have h40579 := Xy40577.at ha0
            refine g_aload_n C dX2_seek_80 rfl 1 rfl ?_
            obtain ⟨b40580, e40581, h40582⟩ := Iy40576.fld (h40579) 2 0 0 rfl
            refine g_getR C fi_X2_21 rfl e40581 (h40579).1 (h40579).2 dX2_seek_81 ?_
            refine g_getI C fi_X2_62 (by decide) (h40582.at).1 (h40582.at).2 dX2_seek_84 ?_
            have h40583 := Iy40576.rg (h40582.at) 2 rfl
            refine g_topi (fun z40584 h40585 => ?_)
            have h40585 : z40584.toInt = (pI Y40574 b40580 2).toInt := congrArg Int32.toInt h40585
            refine g_istore (lv' := [(5, .int z40584), (4, .int z40559), (0, .ref a0), (1, .int a1), (2, .int a2), (3, .int a3)]) C dX2_seek_87 (by decide) rfl ?_
            refine g_aload_n C dX2_seek_89 rfl 2 rfl ?_
            obtain ⟨b40586, e40587, h40588⟩ := Iy40576.fld (h40579) 3 0 0 rfl
            refine g_getR C fi_X2_25 rfl e40587 (h40579).1 (h40579).2 dX2_seek_90 ?_
            refine g_getI C fi_X2_62 (by decide) (h40588.at).1 (h40588.at).2 dX2_seek_93 ?_
            have h40589 := Iy40576.rg (h40588.at) 2 rfl
            refine g_topi (fun z40590 h40591 => ?_)
            have h40591 : z40590.toInt = (pI Y40574 b40586 2).toInt := congrArg Int32.toInt h40591
            refine g_istore (lv' := [(6, .int z40590), (5, .int z40584), (4, .int z40559), (0, .ref a0), (1, .int a1), (2, .int a2), (3, .int a3)]) C dX2_seek_96 (by decide) rfl ?_
            refine g_aload_n C dX2_seek_98 rfl 3 rfl ?_
            refine g_getR C fi_X2_21 rfl e40581 (h40579).1 (h40579).2 dX2_seek_99 ?_
            refine g_aload_n C dX2_seek_102 rfl 3 rfl ?_
            obtain ⟨b40592, e40593, h40594⟩ := Iy40576.fld (h40579) 0 13 11 rfl
            refine g_getR C fi_X2_9 rfl e40593 (h40579).1 (h40579).2 dX2_seek_103 ?_
            refine g_iload_n C dX2_seek_106 rfl 4 rfl ?_
            refine g_iald (j := (a1.toInt.toNat)) C h40594.1 h40594.2.1 (ix_in h40594.2.2 (by omega)) dX2_seek_107 ?_
            refine g_topi (fun z40595 _ => ?_)
            refine g_callVV (rest := []) C mv_X2_71 [.int z40595] (s_X0_add Iy40576 h40582.at) (h40582.at).1 (h40582.at).2 rfl rfl (by decide) (Nat.le_of_ble_eq_true rfl) (by decide) dX2_seek_108 (fun Y40597 h40598 => ?_)
            obtain ⟨Iy40599, Xy40600⟩ := h40598
            have Xz40601 : EK [0, 2, 13] P Y40597 := Xz40578.tr (Xy40600.mono (by decide))
            have h40602 := Xy40600.at h40579
            refine g_aload_n C dX2_seek_111 rfl 3 rfl ?_
            obtain ⟨b40603, e40604, h40605⟩ := Iy40599.fld (h40602) 3 0 0 rfl
            refine g_getR C fi_X2_25 rfl e40604 (h40602).1 (h40602).2 dX2_seek_112 ?_
            refine g_aload_n C dX2_seek_115 rfl 3 rfl ?_
            obtain ⟨b40606, e40607, h40608⟩ := Iy40599.fld (h40602) 1 13 11 rfl
            refine g_getR C fi_X2_15 rfl e40607 (h40602).1 (h40602).2 dX2_seek_116 ?_
            refine g_iload_n C dX2_seek_119 rfl 4 rfl ?_
            refine g_iald (j := (a1.toInt.toNat)) C h40608.1 h40608.2.1 (ix_in h40608.2.2 (by omega)) dX2_seek_120 ?_
            refine g_topi (fun z40609 _ => ?_)
            refine g_callVV (rest := []) C mv_X2_71 [.int z40609] (s_X0_add Iy40599 h40605.at) (h40605.at).1 (h40605.at).2 rfl rfl (by decide) (Nat.le_of_ble_eq_true rfl) (by decide) dX2_seek_121 (fun Y40611 h40612 => ?_)
            obtain ⟨Iy40613, Xy40614⟩ := h40612
            have Xz40615 : EK [0, 2, 13] P Y40611 := Xz40601.tr (Xy40614.mono (by decide))
            have h40616 := Xy40614.at h40602
            refine g_aload_n C dX2_seek_124 rfl 3 rfl ?_
            obtain ⟨b40617, e40618, h40619⟩ := Iy40613.fld (h40616) 2 0 0 rfl
            refine g_getR C fi_X2_21 rfl e40618 (h40616).1 (h40616).2 dX2_seek_125 ?_
            refine g_getI C fi_X2_32 (by decide) (h40619.at).1 (h40619.at).2 dX2_seek_128 ?_
            have h40620 := Iy40613.rg (h40619.at) 3 rfl
            refine b_if_eq C 159 dX2_seek_131 (by decide) (fun h40621 => ?_) (fun h40621 => ?_)
            · have h40621 : (pI Y40611 b40617 3).toInt = 0 := congrArg Int32.toInt h40621
              refine g_lv (lv' := [(0, .ref a0), (5, .int z40584), (6, .int z40590)]) [3, 1, 0] rfl ?_
              exact J159 Y40611 z40584 z40590 Iy40613 Xz40615 (by omega) (by omega)
            · have h40621 : (pI Y40611 b40617 3).toInt ≠ 0 := ti_ne h40621
              refine g_aload_n C dX2_seek_134 rfl 3 rfl ?_
              obtain ⟨b40622, e40623, h40624⟩ := Iy40613.fld (h40616) 3 0 0 rfl
              refine g_getR C fi_X2_25 rfl e40623 (h40616).1 (h40616).2 dX2_seek_135 ?_
              refine g_getI C fi_X2_32 (by decide) (h40624.at).1 (h40624.at).2 dX2_seek_138 ?_
              have h40625 := Iy40613.rg (h40624.at) 3 rfl
              refine b_if_eq C 159 dX2_seek_141 (by decide) (fun h40626 => ?_) (fun h40626 => ?_)
              · have h40626 : (pI Y40611 b40622 3).toInt = 0 := congrArg Int32.toInt h40626
                refine g_lv (lv' := [(0, .ref a0), (5, .int z40584), (6, .int z40590)]) [3, 1, 0] rfl ?_
                exact J159 Y40611 z40584 z40590 Iy40613 Xz40615 (by omega) (by omega)
              · have h40626 : (pI Y40611 b40622 3).toInt ≠ 0 := ti_ne h40626
                refine g_aload_n C dX2_seek_144 rfl 3 rfl ?_
                refine g_iload_n C dX2_seek_145 rfl 4 rfl ?_
                refine g_iconst (v := 1) C dX2_seek_146 (by decide) ?_
                refine s_isub C dX2_seek_147 (by show -2147483648 ≤ a1.toInt - 1 ∧ a1.toInt - 1 ≤ 2147483647; omega) (fun z40627 h40628 => ?_)
                have h40628 : z40627.toInt = a1.toInt - 1 := h40628
                refine g_iload_n C dX2_seek_148 rfl 5 rfl ?_
                refine g_iconst (v := 1) C dX2_seek_149 (by decide) ?_
                refine g_iload_n C dX2_seek_150 rfl 4 rfl ?_
                refine a_ishl C dX2_seek_151 (fun z40629 => ?_)
                refine a_ior C dX2_seek_152 (fun z40631 => ?_)
                refine g_iload_n C dX2_seek_153 rfl 6 rfl ?_
                refine g_iconst (v := 1) C dX2_seek_154 (by decide) ?_
                refine s_iadd C dX2_seek_155 (by show -2147483648 ≤ a3.toInt + 1 ∧ a3.toInt + 1 ≤ 2147483647; omega) (fun z40633 h40634 => ?_)
                have h40634 : z40633.toInt = a3.toInt + 1 := h40634
                refine g_callVV (rest := []) C mv_X2_58 [.int z40627, .int z40631, .int z40633] (s_X2_seek_L6 Iy40613 h40616 (by omega) (by omega)) (h40616).1 (h40616).2 rfl rfl (by decide) (Nat.le_of_ble_eq_true rfl) (by decide) dX2_seek_156 (fun Y40636 h40637 => ?_)
                obtain ⟨Iy40638, Xy40639⟩ := h40637
                have Xz40640 : EK [0, 2, 13] P Y40636 := Xz40615.tr (Xy40639.mono (by decide))
                have h40641 := Xy40639.at h40616
                refine g_lv (lv' := [(0, .ref a0), (5, .int z40584), (6, .int z40590)]) [3, 1, 0] rfl ?_
                exact J159 Y40636 z40584 z40590 Iy40638 Xz40640 (by omega) (by omega)
          · have h40570 : z40568.toInt < z40559.toInt := h40570
            exact ret _ _ _ _ _ dX2_seek_70 (by decide) (by decide) ⟨I, EK.rf⟩
    · have h40565 : z40559.toInt = 0 := congrArg Int32.toInt h40565
      refine g_aload_n C dX2_seek_41 rfl 1 rfl ?_
      refine g_iload_n C dX2_seek_42 rfl 4 rfl ?_
      refine g_putI C fi_X2_45 rfl (ha0).1 (ha0).2 dX2_seek_43 ?_
      refine gpW (ks := [2]) (I.setI (ha0) (rgOk.of rfl (by omega))) (EK.setI (ha0).2 (by decide)) (fun Y40642 Iy40643 Xy40644 w40645 w40646 => ?_)
      have q40647 := w40645 4 (by decide)
      have q40648 := Xy40644.keep (h40551.at) (by decide) 2
      have q40649 := Xy40644.keep (h40555.at) (by decide) 2
      have Xz40650 : EK [0, 2, 13] P Y40642 := Xy40644.mono (by decide)
      have h40651 := Xy40644.at ha0
      refine g_aload_n C dX2_seek_46 rfl 1 rfl ?_
      refine g_iload_n C dX2_seek_47 rfl 3 rfl ?_
      refine g_putI C fi_X2_48 rfl (h40651).1 (h40651).2 dX2_seek_48 ?_
      refine gpW (ks := [2]) (Iy40643.setI (h40651) (rgOk.none rfl)) (EK.setI (h40651).2 (by decide)) (fun Y40652 Iy40653 Xy40654 w40655 w40656 => ?_)
      have q40657 := w40655 4 (by decide)
      have q40658 := w40655 5 (by decide)
      have Xz40659 : EK [0, 2, 13] P Y40652 := Xz40650.tr (Xy40654.mono (by decide))
      have h40660 := Xy40654.at h40651
      exact ret _ _ _ _ _ dX2_seek_51 (by decide) (by decide) ⟨Iy40653, Xz40659⟩
  · have h40564 : (pI P a0 5).toInt ≤ z40561.toInt := h40564
    exact ret _ _ _ _ _ dX2_seek_35 (by decide) (by decide) ⟨I, EK.rf⟩
set_option maxHeartbeats 4000000 in
set_option maxRecDepth 100000 in
theorem s_X2_seek_L8 {P : PP} {a0 : Nat} {a1 : Int32} {a2 : Int32} {a3 : Int32} (I : IV P) (ha0 : At P a0 2) (ha1 : 7 ≤ a1.toInt ∧ a1.toInt ≤ 7) (ha3 : 0 ≤ a3.toInt ∧ a3.toInt ≤ 3) : CtrV yX2_seek cX2_seek 7 none ({ frames := 10, cells := 0, slots := 0, locals := 640 } : Room) 0 0 P [.ref a0, .int a1, .int a2, .int a3] (fun P2 => IV P2 ∧ EK [0, 2, 13] P P2) := by
  refine enV (lv := [(0, .ref a0), (1, .int a1), (2, .int a2), (3, .int a3)]) (by decide) (Nat.le_of_ble_eq_true rfl) rfl (fun E D cy C Ci0 ret => ?_)
  have J159 : ∀ (P159 : PP) (v159_5 : Int32) (v159_6 : Int32), (IV P159) → (EK [0, 2, 13] P P159) → (0 ≤ v159_5.toInt ∧ v159_5.toInt ≤ 20) → (0 ≤ v159_6.toInt ∧ v159_6.toInt ≤ 20) → G E ({ frames := 10, cells := 0, slots := 0, locals := 640 } : Room) D cy 7 P159 0 0 159 [(0, .ref a0), (5, .int v159_5), (6, .int v159_6)] [] := by
    intro P159 v159_5 v159_6 I159 X159 hv159_5 hv159_6
    have h40795 := X159.at ha0
    refine g_aload_n C dX2_seek_159 rfl 0 rfl ?_
    obtain ⟨b40796, e40797, h40798⟩ := I159.fld (h40795) 2 0 0 rfl
    refine g_getR C fi_X2_21 rfl e40797 (h40795).1 (h40795).2 dX2_seek_160 ?_
    refine g_iload C dX2_seek_163 1 rfl ?_
    refine g_callVV (rest := []) C mv_X2_75 [.int v159_5] (s_X0_cut I159 h40798.at) (h40798.at).1 (h40798.at).2 rfl rfl (by decide) (Nat.le_of_ble_eq_true rfl) (by decide) dX2_seek_165 (fun Y40800 h40801 => ?_)
    obtain ⟨Iy40802, Xy40803⟩ := h40801
    have Xz40804 : EK [0, 2, 13] P Y40800 := X159.tr (Xy40803.mono (by decide))
    have h40805 := Xy40803.at h40795
    refine g_aload_n C dX2_seek_168 rfl 0 rfl ?_
    obtain ⟨b40806, e40807, h40808⟩ := Iy40802.fld (h40805) 3 0 0 rfl
    refine g_getR C fi_X2_25 rfl e40807 (h40805).1 (h40805).2 dX2_seek_169 ?_
    refine g_iload C dX2_seek_172 2 rfl ?_
    refine g_callVV (rest := []) C mv_X2_75 [.int v159_6] (s_X0_cut Iy40802 h40808.at) (h40808.at).1 (h40808.at).2 rfl rfl (by decide) (Nat.le_of_ble_eq_true rfl) (by decide) dX2_seek_174 (fun Y40810 h40811 => ?_)
    obtain ⟨Iy40812, Xy40813⟩ := h40811
    have Xz40814 : EK [0, 2, 13] P Y40810 := Xz40804.tr (Xy40813.mono (by decide))
    have h40815 := Xy40813.at h40805
    exact ret _ _ _ _ _ dX2_seek_177 (by decide) (by decide) ⟨Iy40812, Xz40814⟩
  refine g_aload_n C dX2_seek_0 rfl 0 rfl ?_
  refine g_getI C fi_X2_42 (by decide) (ha0).1 (ha0).2 dX2_seek_1 ?_
  have h40816 := I.rg (ha0) 4 rfl
  refine g_aload_n C dX2_seek_4 rfl 0 rfl ?_
  obtain ⟨b40817, e40818, h40819⟩ := I.fld (ha0) 2 0 0 rfl
  refine g_getR C fi_X2_21 rfl e40818 (ha0).1 (ha0).2 dX2_seek_5 ?_
  refine g_getI C fi_X2_62 (by decide) (h40819.at).1 (h40819.at).2 dX2_seek_8 ?_
  have h40820 := I.rg (h40819.at) 2 rfl
  refine g_aload_n C dX2_seek_11 rfl 0 rfl ?_
  obtain ⟨b40821, e40822, h40823⟩ := I.fld (ha0) 3 0 0 rfl
  refine g_getR C fi_X2_25 rfl e40822 (ha0).1 (ha0).2 dX2_seek_12 ?_
  refine g_getI C fi_X2_62 (by decide) (h40823.at).1 (h40823.at).2 dX2_seek_15 ?_
  have h40824 := I.rg (h40823.at) 2 rfl
  refine g_mmin C ms_X2_65 (by decide) (by decide) (Nat.le_of_ble_eq_true rfl) (by decide) dX2_seek_18 (fun z40825 h40826 => ?_)
  have h40826 : z40825.toInt ≤ (pI P b40817 2).toInt ∧ z40825.toInt ≤ (pI P b40821 2).toInt ∧ (z40825.toInt = (pI P b40817 2).toInt ∨ z40825.toInt = (pI P b40821 2).toInt) := h40826
  refine s_isub C dX2_seek_21 (by show -2147483648 ≤ (pI P a0 4).toInt - z40825.toInt ∧ (pI P a0 4).toInt - z40825.toInt ≤ 2147483647; omega) (fun z40827 h40828 => ?_)
  have h40828 : z40827.toInt = (pI P a0 4).toInt - z40825.toInt := h40828
  refine g_istore (lv' := [(4, .int z40827), (0, .ref a0), (1, .int a1), (2, .int a2), (3, .int a3)]) C dX2_seek_22 (by decide) rfl ?_
  refine g_iload_n C dX2_seek_24 rfl 4 rfl ?_
  refine g_iload C dX2_seek_25 0 rfl ?_
  refine s_iadd C dX2_seek_27 (by show -2147483648 ≤ a3.toInt + z40827.toInt ∧ a3.toInt + z40827.toInt ≤ 2147483647; omega) (fun z40829 h40830 => ?_)
  have h40830 : z40829.toInt = a3.toInt + z40827.toInt := h40830
  refine g_aload_n C dX2_seek_28 rfl 1 rfl ?_
  refine g_getI C fi_X2_45 (by decide) (ha0).1 (ha0).2 dX2_seek_29 ?_
  have h40831 := I.rg (ha0) 5 rfl
  refine b_icmp_lt C 36 dX2_seek_32 (by decide) (fun h40832 => ?_) (fun h40832 => ?_)
  · have h40832 : z40829.toInt < (pI P a0 5).toInt := h40832
    refine g_iload C dX2_seek_36 0 rfl ?_
    refine b_if_ne C 52 dX2_seek_38 (by decide) (fun h40833 => ?_) (fun h40833 => ?_)
    · have h40833 : z40827.toInt ≠ 0 := ti_ne h40833
      refine g_iload_n C dX2_seek_52 rfl 2 rfl ?_
      refine b_if_lt C 70 dX2_seek_53 (by decide) (fun h40834 => ?_) (fun h40834 => ?_)
      · have h40834 : a1.toInt < 0 := h40834
        omega
      · have h40834 : 0 ≤ a1.toInt := h40834
        refine g_iload_n C dX2_seek_56 rfl 2 rfl ?_
        refine g_bipush (v := 11) C dX2_seek_57 (by decide) ?_
        refine b_icmp_ge C 70 dX2_seek_59 (by decide) (fun h40835 => ?_) (fun h40835 => ?_)
        · have h40835 : 11 ≤ a1.toInt := h40835
          omega
        · have h40835 : a1.toInt < 11 := h40835
          refine g_iload C dX2_seek_62 0 rfl ?_
          refine g_iload_n C dX2_seek_64 rfl 2 rfl ?_
          refine g_iconst (v := 1) C dX2_seek_65 (by decide) ?_
          refine s_iadd C dX2_seek_66 (by show -2147483648 ≤ a1.toInt + 1 ∧ a1.toInt + 1 ≤ 2147483647; omega) (fun z40836 h40837 => ?_)
          have h40837 : z40836.toInt = a1.toInt + 1 := h40837
          refine b_icmp_le C 71 dX2_seek_67 (by decide) (fun h40838 => ?_) (fun h40838 => ?_)
          · have h40838 : z40827.toInt ≤ z40836.toInt := h40838
            refine g_aload_n C dX2_seek_71 rfl 1 rfl ?_
            refine g_iload_n C dX2_seek_72 rfl 2 rfl ?_
            refine g_iconst (v := 1) C dX2_seek_73 (by decide) ?_
            refine s_isub C dX2_seek_74 (by show -2147483648 ≤ a1.toInt - 1 ∧ a1.toInt - 1 ≤ 2147483647; omega) (fun z40839 h40840 => ?_)
            have h40840 : z40839.toInt = a1.toInt - 1 := h40840
            refine g_iload_n C dX2_seek_75 rfl 3 rfl ?_
            refine g_iload_n C dX2_seek_76 rfl 4 rfl ?_
            refine g_callVV (rest := []) C mv_X2_58 [.int z40839, .int a2, .int a3] (s_X2_seek_L7 I ha0 (by omega) (by omega)) (ha0).1 (ha0).2 rfl rfl (by decide) (Nat.le_of_ble_eq_true rfl) (by decide) dX2_seek_77 (fun Y40842 h40843 => ?_)
            obtain ⟨Iy40844, Xy40845⟩ := h40843
            have Xz40846 : EK [0, 2, 13] P Y40842 := Xy40845.mono (by decide)
            have h40847 := Xy40845.at ha0
            refine g_aload_n C dX2_seek_80 rfl 1 rfl ?_
            obtain ⟨b40848, e40849, h40850⟩ := Iy40844.fld (h40847) 2 0 0 rfl
            refine g_getR C fi_X2_21 rfl e40849 (h40847).1 (h40847).2 dX2_seek_81 ?_
            refine g_getI C fi_X2_62 (by decide) (h40850.at).1 (h40850.at).2 dX2_seek_84 ?_
            have h40851 := Iy40844.rg (h40850.at) 2 rfl
            refine g_topi (fun z40852 h40853 => ?_)
            have h40853 : z40852.toInt = (pI Y40842 b40848 2).toInt := congrArg Int32.toInt h40853
            refine g_istore (lv' := [(5, .int z40852), (4, .int z40827), (0, .ref a0), (1, .int a1), (2, .int a2), (3, .int a3)]) C dX2_seek_87 (by decide) rfl ?_
            refine g_aload_n C dX2_seek_89 rfl 2 rfl ?_
            obtain ⟨b40854, e40855, h40856⟩ := Iy40844.fld (h40847) 3 0 0 rfl
            refine g_getR C fi_X2_25 rfl e40855 (h40847).1 (h40847).2 dX2_seek_90 ?_
            refine g_getI C fi_X2_62 (by decide) (h40856.at).1 (h40856.at).2 dX2_seek_93 ?_
            have h40857 := Iy40844.rg (h40856.at) 2 rfl
            refine g_topi (fun z40858 h40859 => ?_)
            have h40859 : z40858.toInt = (pI Y40842 b40854 2).toInt := congrArg Int32.toInt h40859
            refine g_istore (lv' := [(6, .int z40858), (5, .int z40852), (4, .int z40827), (0, .ref a0), (1, .int a1), (2, .int a2), (3, .int a3)]) C dX2_seek_96 (by decide) rfl ?_
            refine g_aload_n C dX2_seek_98 rfl 3 rfl ?_
            refine g_getR C fi_X2_21 rfl e40849 (h40847).1 (h40847).2 dX2_seek_99 ?_
            refine g_aload_n C dX2_seek_102 rfl 3 rfl ?_
            obtain ⟨b40860, e40861, h40862⟩ := Iy40844.fld (h40847) 0 13 11 rfl
            refine g_getR C fi_X2_9 rfl e40861 (h40847).1 (h40847).2 dX2_seek_103 ?_
            refine g_iload_n C dX2_seek_106 rfl 4 rfl ?_
            refine g_iald (j := (a1.toInt.toNat)) C h40862.1 h40862.2.1 (ix_in h40862.2.2 (by omega)) dX2_seek_107 ?_
            refine g_topi (fun z40863 _ => ?_)
            refine g_callVV (rest := []) C mv_X2_71 [.int z40863] (s_X0_add Iy40844 h40850.at) (h40850.at).1 (h40850.at).2 rfl rfl (by decide) (Nat.le_of_ble_eq_true rfl) (by decide) dX2_seek_108 (fun Y40865 h40866 => ?_)
            obtain ⟨Iy40867, Xy40868⟩ := h40866
            have Xz40869 : EK [0, 2, 13] P Y40865 := Xz40846.tr (Xy40868.mono (by decide))
            have h40870 := Xy40868.at h40847
            refine g_aload_n C dX2_seek_111 rfl 3 rfl ?_
            obtain ⟨b40871, e40872, h40873⟩ := Iy40867.fld (h40870) 3 0 0 rfl
            refine g_getR C fi_X2_25 rfl e40872 (h40870).1 (h40870).2 dX2_seek_112 ?_
            refine g_aload_n C dX2_seek_115 rfl 3 rfl ?_
            obtain ⟨b40874, e40875, h40876⟩ := Iy40867.fld (h40870) 1 13 11 rfl
            refine g_getR C fi_X2_15 rfl e40875 (h40870).1 (h40870).2 dX2_seek_116 ?_
            refine g_iload_n C dX2_seek_119 rfl 4 rfl ?_
            refine g_iald (j := (a1.toInt.toNat)) C h40876.1 h40876.2.1 (ix_in h40876.2.2 (by omega)) dX2_seek_120 ?_
            refine g_topi (fun z40877 _ => ?_)
            refine g_callVV (rest := []) C mv_X2_71 [.int z40877] (s_X0_add Iy40867 h40873.at) (h40873.at).1 (h40873.at).2 rfl rfl (by decide) (Nat.le_of_ble_eq_true rfl) (by decide) dX2_seek_121 (fun Y40879 h40880 => ?_)
            obtain ⟨Iy40881, Xy40882⟩ := h40880
            have Xz40883 : EK [0, 2, 13] P Y40879 := Xz40869.tr (Xy40882.mono (by decide))
            have h40884 := Xy40882.at h40870
            refine g_aload_n C dX2_seek_124 rfl 3 rfl ?_
            obtain ⟨b40885, e40886, h40887⟩ := Iy40881.fld (h40884) 2 0 0 rfl
            refine g_getR C fi_X2_21 rfl e40886 (h40884).1 (h40884).2 dX2_seek_125 ?_
            refine g_getI C fi_X2_32 (by decide) (h40887.at).1 (h40887.at).2 dX2_seek_128 ?_
            have h40888 := Iy40881.rg (h40887.at) 3 rfl
            refine b_if_eq C 159 dX2_seek_131 (by decide) (fun h40889 => ?_) (fun h40889 => ?_)
            · have h40889 : (pI Y40879 b40885 3).toInt = 0 := congrArg Int32.toInt h40889
              refine g_lv (lv' := [(0, .ref a0), (5, .int z40852), (6, .int z40858)]) [3, 1, 0] rfl ?_
              exact J159 Y40879 z40852 z40858 Iy40881 Xz40883 (by omega) (by omega)
            · have h40889 : (pI Y40879 b40885 3).toInt ≠ 0 := ti_ne h40889
              refine g_aload_n C dX2_seek_134 rfl 3 rfl ?_
              obtain ⟨b40890, e40891, h40892⟩ := Iy40881.fld (h40884) 3 0 0 rfl
              refine g_getR C fi_X2_25 rfl e40891 (h40884).1 (h40884).2 dX2_seek_135 ?_
              refine g_getI C fi_X2_32 (by decide) (h40892.at).1 (h40892.at).2 dX2_seek_138 ?_
              have h40893 := Iy40881.rg (h40892.at) 3 rfl
              refine b_if_eq C 159 dX2_seek_141 (by decide) (fun h40894 => ?_) (fun h40894 => ?_)
              · have h40894 : (pI Y40879 b40890 3).toInt = 0 := congrArg Int32.toInt h40894
                refine g_lv (lv' := [(0, .ref a0), (5, .int z40852), (6, .int z40858)]) [3, 1, 0] rfl ?_
                exact J159 Y40879 z40852 z40858 Iy40881 Xz40883 (by omega) (by omega)
              · have h40894 : (pI Y40879 b40890 3).toInt ≠ 0 := ti_ne h40894
                refine g_aload_n C dX2_seek_144 rfl 3 rfl ?_
                refine g_iload_n C dX2_seek_145 rfl 4 rfl ?_
                refine g_iconst (v := 1) C dX2_seek_146 (by decide) ?_
                refine s_isub C dX2_seek_147 (by show -2147483648 ≤ a1.toInt - 1 ∧ a1.toInt - 1 ≤ 2147483647; omega) (fun z40895 h40896 => ?_)
                have h40896 : z40895.toInt = a1.toInt - 1 := h40896
                refine g_iload_n C dX2_seek_148 rfl 5 rfl ?_
                refine g_iconst (v := 1) C dX2_seek_149 (by decide) ?_
                refine g_iload_n C dX2_seek_150 rfl 4 rfl ?_
                refine a_ishl C dX2_seek_151 (fun z40897 => ?_)
                refine a_ior C dX2_seek_152 (fun z40899 => ?_)
                refine g_iload_n C dX2_seek_153 rfl 6 rfl ?_
                refine g_iconst (v := 1) C dX2_seek_154 (by decide) ?_
                refine s_iadd C dX2_seek_155 (by show -2147483648 ≤ a3.toInt + 1 ∧ a3.toInt + 1 ≤ 2147483647; omega) (fun z40901 h40902 => ?_)
                have h40902 : z40901.toInt = a3.toInt + 1 := h40902
                refine g_callVV (rest := []) C mv_X2_58 [.int z40895, .int z40899, .int z40901] (s_X2_seek_L7 Iy40881 h40884 (by omega) (by omega)) (h40884).1 (h40884).2 rfl rfl (by decide) (Nat.le_of_ble_eq_true rfl) (by decide) dX2_seek_156 (fun Y40904 h40905 => ?_)
                obtain ⟨Iy40906, Xy40907⟩ := h40905
                have Xz40908 : EK [0, 2, 13] P Y40904 := Xz40883.tr (Xy40907.mono (by decide))
                have h40909 := Xy40907.at h40884
                refine g_lv (lv' := [(0, .ref a0), (5, .int z40852), (6, .int z40858)]) [3, 1, 0] rfl ?_
                exact J159 Y40904 z40852 z40858 Iy40906 Xz40908 (by omega) (by omega)
          · have h40838 : z40836.toInt < z40827.toInt := h40838
            exact ret _ _ _ _ _ dX2_seek_70 (by decide) (by decide) ⟨I, EK.rf⟩
    · have h40833 : z40827.toInt = 0 := congrArg Int32.toInt h40833
      refine g_aload_n C dX2_seek_41 rfl 1 rfl ?_
      refine g_iload_n C dX2_seek_42 rfl 4 rfl ?_
      refine g_putI C fi_X2_45 rfl (ha0).1 (ha0).2 dX2_seek_43 ?_
      refine gpW (ks := [2]) (I.setI (ha0) (rgOk.of rfl (by omega))) (EK.setI (ha0).2 (by decide)) (fun Y40910 Iy40911 Xy40912 w40913 w40914 => ?_)
      have q40915 := w40913 4 (by decide)
      have q40916 := Xy40912.keep (h40819.at) (by decide) 2
      have q40917 := Xy40912.keep (h40823.at) (by decide) 2
      have Xz40918 : EK [0, 2, 13] P Y40910 := Xy40912.mono (by decide)
      have h40919 := Xy40912.at ha0
      refine g_aload_n C dX2_seek_46 rfl 1 rfl ?_
      refine g_iload_n C dX2_seek_47 rfl 3 rfl ?_
      refine g_putI C fi_X2_48 rfl (h40919).1 (h40919).2 dX2_seek_48 ?_
      refine gpW (ks := [2]) (Iy40911.setI (h40919) (rgOk.none rfl)) (EK.setI (h40919).2 (by decide)) (fun Y40920 Iy40921 Xy40922 w40923 w40924 => ?_)
      have q40925 := w40923 4 (by decide)
      have q40926 := w40923 5 (by decide)
      have Xz40927 : EK [0, 2, 13] P Y40920 := Xz40918.tr (Xy40922.mono (by decide))
      have h40928 := Xy40922.at h40919
      exact ret _ _ _ _ _ dX2_seek_51 (by decide) (by decide) ⟨Iy40921, Xz40927⟩
  · have h40832 : (pI P a0 5).toInt ≤ z40829.toInt := h40832
    exact ret _ _ _ _ _ dX2_seek_35 (by decide) (by decide) ⟨I, EK.rf⟩
set_option maxHeartbeats 4000000 in
set_option maxRecDepth 100000 in
theorem s_X2_seek_L9 {P : PP} {a0 : Nat} {a1 : Int32} {a2 : Int32} {a3 : Int32} (I : IV P) (ha0 : At P a0 2) (ha1 : 8 ≤ a1.toInt ∧ a1.toInt ≤ 8) (ha3 : 0 ≤ a3.toInt ∧ a3.toInt ≤ 2) : CtrV yX2_seek cX2_seek 7 none ({ frames := 11, cells := 0, slots := 0, locals := 704 } : Room) 0 0 P [.ref a0, .int a1, .int a2, .int a3] (fun P2 => IV P2 ∧ EK [0, 2, 13] P P2) := by
  refine enV (lv := [(0, .ref a0), (1, .int a1), (2, .int a2), (3, .int a3)]) (by decide) (Nat.le_of_ble_eq_true rfl) rfl (fun E D cy C Ci0 ret => ?_)
  have J159 : ∀ (P159 : PP) (v159_5 : Int32) (v159_6 : Int32), (IV P159) → (EK [0, 2, 13] P P159) → (0 ≤ v159_5.toInt ∧ v159_5.toInt ≤ 20) → (0 ≤ v159_6.toInt ∧ v159_6.toInt ≤ 20) → G E ({ frames := 11, cells := 0, slots := 0, locals := 704 } : Room) D cy 7 P159 0 0 159 [(0, .ref a0), (5, .int v159_5), (6, .int v159_6)] [] := by
    intro P159 v159_5 v159_6 I159 X159 hv159_5 hv159_6
    have h41063 := X159.at ha0
    refine g_aload_n C dX2_seek_159 rfl 0 rfl ?_
    obtain ⟨b41064, e41065, h41066⟩ := I159.fld (h41063) 2 0 0 rfl
    refine g_getR C fi_X2_21 rfl e41065 (h41063).1 (h41063).2 dX2_seek_160 ?_
    refine g_iload C dX2_seek_163 1 rfl ?_
    refine g_callVV (rest := []) C mv_X2_75 [.int v159_5] (s_X0_cut I159 h41066.at) (h41066.at).1 (h41066.at).2 rfl rfl (by decide) (Nat.le_of_ble_eq_true rfl) (by decide) dX2_seek_165 (fun Y41068 h41069 => ?_)
    obtain ⟨Iy41070, Xy41071⟩ := h41069
    have Xz41072 : EK [0, 2, 13] P Y41068 := X159.tr (Xy41071.mono (by decide))
    have h41073 := Xy41071.at h41063
    refine g_aload_n C dX2_seek_168 rfl 0 rfl ?_
    obtain ⟨b41074, e41075, h41076⟩ := Iy41070.fld (h41073) 3 0 0 rfl
    refine g_getR C fi_X2_25 rfl e41075 (h41073).1 (h41073).2 dX2_seek_169 ?_
    refine g_iload C dX2_seek_172 2 rfl ?_
    refine g_callVV (rest := []) C mv_X2_75 [.int v159_6] (s_X0_cut Iy41070 h41076.at) (h41076.at).1 (h41076.at).2 rfl rfl (by decide) (Nat.le_of_ble_eq_true rfl) (by decide) dX2_seek_174 (fun Y41078 h41079 => ?_)
    obtain ⟨Iy41080, Xy41081⟩ := h41079
    have Xz41082 : EK [0, 2, 13] P Y41078 := Xz41072.tr (Xy41081.mono (by decide))
    have h41083 := Xy41081.at h41073
    exact ret _ _ _ _ _ dX2_seek_177 (by decide) (by decide) ⟨Iy41080, Xz41082⟩
  refine g_aload_n C dX2_seek_0 rfl 0 rfl ?_
  refine g_getI C fi_X2_42 (by decide) (ha0).1 (ha0).2 dX2_seek_1 ?_
  have h41084 := I.rg (ha0) 4 rfl
  refine g_aload_n C dX2_seek_4 rfl 0 rfl ?_
  obtain ⟨b41085, e41086, h41087⟩ := I.fld (ha0) 2 0 0 rfl
  refine g_getR C fi_X2_21 rfl e41086 (ha0).1 (ha0).2 dX2_seek_5 ?_
  refine g_getI C fi_X2_62 (by decide) (h41087.at).1 (h41087.at).2 dX2_seek_8 ?_
  have h41088 := I.rg (h41087.at) 2 rfl
  refine g_aload_n C dX2_seek_11 rfl 0 rfl ?_
  obtain ⟨b41089, e41090, h41091⟩ := I.fld (ha0) 3 0 0 rfl
  refine g_getR C fi_X2_25 rfl e41090 (ha0).1 (ha0).2 dX2_seek_12 ?_
  refine g_getI C fi_X2_62 (by decide) (h41091.at).1 (h41091.at).2 dX2_seek_15 ?_
  have h41092 := I.rg (h41091.at) 2 rfl
  refine g_mmin C ms_X2_65 (by decide) (by decide) (Nat.le_of_ble_eq_true rfl) (by decide) dX2_seek_18 (fun z41093 h41094 => ?_)
  have h41094 : z41093.toInt ≤ (pI P b41085 2).toInt ∧ z41093.toInt ≤ (pI P b41089 2).toInt ∧ (z41093.toInt = (pI P b41085 2).toInt ∨ z41093.toInt = (pI P b41089 2).toInt) := h41094
  refine s_isub C dX2_seek_21 (by show -2147483648 ≤ (pI P a0 4).toInt - z41093.toInt ∧ (pI P a0 4).toInt - z41093.toInt ≤ 2147483647; omega) (fun z41095 h41096 => ?_)
  have h41096 : z41095.toInt = (pI P a0 4).toInt - z41093.toInt := h41096
  refine g_istore (lv' := [(4, .int z41095), (0, .ref a0), (1, .int a1), (2, .int a2), (3, .int a3)]) C dX2_seek_22 (by decide) rfl ?_
  refine g_iload_n C dX2_seek_24 rfl 4 rfl ?_
  refine g_iload C dX2_seek_25 0 rfl ?_
  refine s_iadd C dX2_seek_27 (by show -2147483648 ≤ a3.toInt + z41095.toInt ∧ a3.toInt + z41095.toInt ≤ 2147483647; omega) (fun z41097 h41098 => ?_)
  have h41098 : z41097.toInt = a3.toInt + z41095.toInt := h41098
  refine g_aload_n C dX2_seek_28 rfl 1 rfl ?_
  refine g_getI C fi_X2_45 (by decide) (ha0).1 (ha0).2 dX2_seek_29 ?_
  have h41099 := I.rg (ha0) 5 rfl
  refine b_icmp_lt C 36 dX2_seek_32 (by decide) (fun h41100 => ?_) (fun h41100 => ?_)
  · have h41100 : z41097.toInt < (pI P a0 5).toInt := h41100
    refine g_iload C dX2_seek_36 0 rfl ?_
    refine b_if_ne C 52 dX2_seek_38 (by decide) (fun h41101 => ?_) (fun h41101 => ?_)
    · have h41101 : z41095.toInt ≠ 0 := ti_ne h41101
      refine g_iload_n C dX2_seek_52 rfl 2 rfl ?_
      refine b_if_lt C 70 dX2_seek_53 (by decide) (fun h41102 => ?_) (fun h41102 => ?_)
      · have h41102 : a1.toInt < 0 := h41102
        omega
      · have h41102 : 0 ≤ a1.toInt := h41102
        refine g_iload_n C dX2_seek_56 rfl 2 rfl ?_
        refine g_bipush (v := 11) C dX2_seek_57 (by decide) ?_
        refine b_icmp_ge C 70 dX2_seek_59 (by decide) (fun h41103 => ?_) (fun h41103 => ?_)
        · have h41103 : 11 ≤ a1.toInt := h41103
          omega
        · have h41103 : a1.toInt < 11 := h41103
          refine g_iload C dX2_seek_62 0 rfl ?_
          refine g_iload_n C dX2_seek_64 rfl 2 rfl ?_
          refine g_iconst (v := 1) C dX2_seek_65 (by decide) ?_
          refine s_iadd C dX2_seek_66 (by show -2147483648 ≤ a1.toInt + 1 ∧ a1.toInt + 1 ≤ 2147483647; omega) (fun z41104 h41105 => ?_)
          have h41105 : z41104.toInt = a1.toInt + 1 := h41105
          refine b_icmp_le C 71 dX2_seek_67 (by decide) (fun h41106 => ?_) (fun h41106 => ?_)
          · have h41106 : z41095.toInt ≤ z41104.toInt := h41106
            refine g_aload_n C dX2_seek_71 rfl 1 rfl ?_
            refine g_iload_n C dX2_seek_72 rfl 2 rfl ?_
            refine g_iconst (v := 1) C dX2_seek_73 (by decide) ?_
            refine s_isub C dX2_seek_74 (by show -2147483648 ≤ a1.toInt - 1 ∧ a1.toInt - 1 ≤ 2147483647; omega) (fun z41107 h41108 => ?_)
            have h41108 : z41107.toInt = a1.toInt - 1 := h41108
            refine g_iload_n C dX2_seek_75 rfl 3 rfl ?_
            refine g_iload_n C dX2_seek_76 rfl 4 rfl ?_
            refine g_callVV (rest := []) C mv_X2_58 [.int z41107, .int a2, .int a3] (s_X2_seek_L8 I ha0 (by omega) (by omega)) (ha0).1 (ha0).2 rfl rfl (by decide) (Nat.le_of_ble_eq_true rfl) (by decide) dX2_seek_77 (fun Y41110 h41111 => ?_)
            obtain ⟨Iy41112, Xy41113⟩ := h41111
            have Xz41114 : EK [0, 2, 13] P Y41110 := Xy41113.mono (by decide)
            have h41115 := Xy41113.at ha0
            refine g_aload_n C dX2_seek_80 rfl 1 rfl ?_
            obtain ⟨b41116, e41117, h41118⟩ := Iy41112.fld (h41115) 2 0 0 rfl
            refine g_getR C fi_X2_21 rfl e41117 (h41115).1 (h41115).2 dX2_seek_81 ?_
            refine g_getI C fi_X2_62 (by decide) (h41118.at).1 (h41118.at).2 dX2_seek_84 ?_
            have h41119 := Iy41112.rg (h41118.at) 2 rfl
            refine g_topi (fun z41120 h41121 => ?_)
            have h41121 : z41120.toInt = (pI Y41110 b41116 2).toInt := congrArg Int32.toInt h41121
            refine g_istore (lv' := [(5, .int z41120), (4, .int z41095), (0, .ref a0), (1, .int a1), (2, .int a2), (3, .int a3)]) C dX2_seek_87 (by decide) rfl ?_
            refine g_aload_n C dX2_seek_89 rfl 2 rfl ?_
            obtain ⟨b41122, e41123, h41124⟩ := Iy41112.fld (h41115) 3 0 0 rfl
            refine g_getR C fi_X2_25 rfl e41123 (h41115).1 (h41115).2 dX2_seek_90 ?_
            refine g_getI C fi_X2_62 (by decide) (h41124.at).1 (h41124.at).2 dX2_seek_93 ?_
            have h41125 := Iy41112.rg (h41124.at) 2 rfl
            refine g_topi (fun z41126 h41127 => ?_)
            have h41127 : z41126.toInt = (pI Y41110 b41122 2).toInt := congrArg Int32.toInt h41127
            refine g_istore (lv' := [(6, .int z41126), (5, .int z41120), (4, .int z41095), (0, .ref a0), (1, .int a1), (2, .int a2), (3, .int a3)]) C dX2_seek_96 (by decide) rfl ?_
            refine g_aload_n C dX2_seek_98 rfl 3 rfl ?_
            refine g_getR C fi_X2_21 rfl e41117 (h41115).1 (h41115).2 dX2_seek_99 ?_
            refine g_aload_n C dX2_seek_102 rfl 3 rfl ?_
            obtain ⟨b41128, e41129, h41130⟩ := Iy41112.fld (h41115) 0 13 11 rfl
            refine g_getR C fi_X2_9 rfl e41129 (h41115).1 (h41115).2 dX2_seek_103 ?_
            refine g_iload_n C dX2_seek_106 rfl 4 rfl ?_
            refine g_iald (j := (a1.toInt.toNat)) C h41130.1 h41130.2.1 (ix_in h41130.2.2 (by omega)) dX2_seek_107 ?_
            refine g_topi (fun z41131 _ => ?_)
            refine g_callVV (rest := []) C mv_X2_71 [.int z41131] (s_X0_add Iy41112 h41118.at) (h41118.at).1 (h41118.at).2 rfl rfl (by decide) (Nat.le_of_ble_eq_true rfl) (by decide) dX2_seek_108 (fun Y41133 h41134 => ?_)
            obtain ⟨Iy41135, Xy41136⟩ := h41134
            have Xz41137 : EK [0, 2, 13] P Y41133 := Xz41114.tr (Xy41136.mono (by decide))
            have h41138 := Xy41136.at h41115
            refine g_aload_n C dX2_seek_111 rfl 3 rfl ?_
            obtain ⟨b41139, e41140, h41141⟩ := Iy41135.fld (h41138) 3 0 0 rfl
            refine g_getR C fi_X2_25 rfl e41140 (h41138).1 (h41138).2 dX2_seek_112 ?_
            refine g_aload_n C dX2_seek_115 rfl 3 rfl ?_
            obtain ⟨b41142, e41143, h41144⟩ := Iy41135.fld (h41138) 1 13 11 rfl
            refine g_getR C fi_X2_15 rfl e41143 (h41138).1 (h41138).2 dX2_seek_116 ?_
            refine g_iload_n C dX2_seek_119 rfl 4 rfl ?_
            refine g_iald (j := (a1.toInt.toNat)) C h41144.1 h41144.2.1 (ix_in h41144.2.2 (by omega)) dX2_seek_120 ?_
            refine g_topi (fun z41145 _ => ?_)
            refine g_callVV (rest := []) C mv_X2_71 [.int z41145] (s_X0_add Iy41135 h41141.at) (h41141.at).1 (h41141.at).2 rfl rfl (by decide) (Nat.le_of_ble_eq_true rfl) (by decide) dX2_seek_121 (fun Y41147 h41148 => ?_)
            obtain ⟨Iy41149, Xy41150⟩ := h41148
            have Xz41151 : EK [0, 2, 13] P Y41147 := Xz41137.tr (Xy41150.mono (by decide))
            have h41152 := Xy41150.at h41138
            refine g_aload_n C dX2_seek_124 rfl 3 rfl ?_
            obtain ⟨b41153, e41154, h41155⟩ := Iy41149.fld (h41152) 2 0 0 rfl
            refine g_getR C fi_X2_21 rfl e41154 (h41152).1 (h41152).2 dX2_seek_125 ?_
            refine g_getI C fi_X2_32 (by decide) (h41155.at).1 (h41155.at).2 dX2_seek_128 ?_
            have h41156 := Iy41149.rg (h41155.at) 3 rfl
            refine b_if_eq C 159 dX2_seek_131 (by decide) (fun h41157 => ?_) (fun h41157 => ?_)
            · have h41157 : (pI Y41147 b41153 3).toInt = 0 := congrArg Int32.toInt h41157
              refine g_lv (lv' := [(0, .ref a0), (5, .int z41120), (6, .int z41126)]) [3, 1, 0] rfl ?_
              exact J159 Y41147 z41120 z41126 Iy41149 Xz41151 (by omega) (by omega)
            · have h41157 : (pI Y41147 b41153 3).toInt ≠ 0 := ti_ne h41157
              refine g_aload_n C dX2_seek_134 rfl 3 rfl ?_
              obtain ⟨b41158, e41159, h41160⟩ := Iy41149.fld (h41152) 3 0 0 rfl
              refine g_getR C fi_X2_25 rfl e41159 (h41152).1 (h41152).2 dX2_seek_135 ?_
              refine g_getI C fi_X2_32 (by decide) (h41160.at).1 (h41160.at).2 dX2_seek_138 ?_
              have h41161 := Iy41149.rg (h41160.at) 3 rfl
              refine b_if_eq C 159 dX2_seek_141 (by decide) (fun h41162 => ?_) (fun h41162 => ?_)
              · have h41162 : (pI Y41147 b41158 3).toInt = 0 := congrArg Int32.toInt h41162
                refine g_lv (lv' := [(0, .ref a0), (5, .int z41120), (6, .int z41126)]) [3, 1, 0] rfl ?_
                exact J159 Y41147 z41120 z41126 Iy41149 Xz41151 (by omega) (by omega)
              · have h41162 : (pI Y41147 b41158 3).toInt ≠ 0 := ti_ne h41162
                refine g_aload_n C dX2_seek_144 rfl 3 rfl ?_
                refine g_iload_n C dX2_seek_145 rfl 4 rfl ?_
                refine g_iconst (v := 1) C dX2_seek_146 (by decide) ?_
                refine s_isub C dX2_seek_147 (by show -2147483648 ≤ a1.toInt - 1 ∧ a1.toInt - 1 ≤ 2147483647; omega) (fun z41163 h41164 => ?_)
                have h41164 : z41163.toInt = a1.toInt - 1 := h41164
                refine g_iload_n C dX2_seek_148 rfl 5 rfl ?_
                refine g_iconst (v := 1) C dX2_seek_149 (by decide) ?_
                refine g_iload_n C dX2_seek_150 rfl 4 rfl ?_
                refine a_ishl C dX2_seek_151 (fun z41165 => ?_)
                refine a_ior C dX2_seek_152 (fun z41167 => ?_)
                refine g_iload_n C dX2_seek_153 rfl 6 rfl ?_
                refine g_iconst (v := 1) C dX2_seek_154 (by decide) ?_
                refine s_iadd C dX2_seek_155 (by show -2147483648 ≤ a3.toInt + 1 ∧ a3.toInt + 1 ≤ 2147483647; omega) (fun z41169 h41170 => ?_)
                have h41170 : z41169.toInt = a3.toInt + 1 := h41170
                refine g_callVV (rest := []) C mv_X2_58 [.int z41163, .int z41167, .int z41169] (s_X2_seek_L8 Iy41149 h41152 (by omega) (by omega)) (h41152).1 (h41152).2 rfl rfl (by decide) (Nat.le_of_ble_eq_true rfl) (by decide) dX2_seek_156 (fun Y41172 h41173 => ?_)
                obtain ⟨Iy41174, Xy41175⟩ := h41173
                have Xz41176 : EK [0, 2, 13] P Y41172 := Xz41151.tr (Xy41175.mono (by decide))
                have h41177 := Xy41175.at h41152
                refine g_lv (lv' := [(0, .ref a0), (5, .int z41120), (6, .int z41126)]) [3, 1, 0] rfl ?_
                exact J159 Y41172 z41120 z41126 Iy41174 Xz41176 (by omega) (by omega)
          · have h41106 : z41104.toInt < z41095.toInt := h41106
            exact ret _ _ _ _ _ dX2_seek_70 (by decide) (by decide) ⟨I, EK.rf⟩
    · have h41101 : z41095.toInt = 0 := congrArg Int32.toInt h41101
      refine g_aload_n C dX2_seek_41 rfl 1 rfl ?_
      refine g_iload_n C dX2_seek_42 rfl 4 rfl ?_
      refine g_putI C fi_X2_45 rfl (ha0).1 (ha0).2 dX2_seek_43 ?_
      refine gpW (ks := [2]) (I.setI (ha0) (rgOk.of rfl (by omega))) (EK.setI (ha0).2 (by decide)) (fun Y41178 Iy41179 Xy41180 w41181 w41182 => ?_)
      have q41183 := w41181 4 (by decide)
      have q41184 := Xy41180.keep (h41087.at) (by decide) 2
      have q41185 := Xy41180.keep (h41091.at) (by decide) 2
      have Xz41186 : EK [0, 2, 13] P Y41178 := Xy41180.mono (by decide)
      have h41187 := Xy41180.at ha0
      refine g_aload_n C dX2_seek_46 rfl 1 rfl ?_
      refine g_iload_n C dX2_seek_47 rfl 3 rfl ?_
      refine g_putI C fi_X2_48 rfl (h41187).1 (h41187).2 dX2_seek_48 ?_
      refine gpW (ks := [2]) (Iy41179.setI (h41187) (rgOk.none rfl)) (EK.setI (h41187).2 (by decide)) (fun Y41188 Iy41189 Xy41190 w41191 w41192 => ?_)
      have q41193 := w41191 4 (by decide)
      have q41194 := w41191 5 (by decide)
      have Xz41195 : EK [0, 2, 13] P Y41188 := Xz41186.tr (Xy41190.mono (by decide))
      have h41196 := Xy41190.at h41187
      exact ret _ _ _ _ _ dX2_seek_51 (by decide) (by decide) ⟨Iy41189, Xz41195⟩
  · have h41100 : (pI P a0 5).toInt ≤ z41097.toInt := h41100
    exact ret _ _ _ _ _ dX2_seek_35 (by decide) (by decide) ⟨I, EK.rf⟩
set_option maxHeartbeats 4000000 in
set_option maxRecDepth 100000 in
theorem s_X2_seek_L10 {P : PP} {a0 : Nat} {a1 : Int32} {a2 : Int32} {a3 : Int32} (I : IV P) (ha0 : At P a0 2) (ha1 : 9 ≤ a1.toInt ∧ a1.toInt ≤ 9) (ha3 : 0 ≤ a3.toInt ∧ a3.toInt ≤ 1) : CtrV yX2_seek cX2_seek 7 none ({ frames := 12, cells := 0, slots := 0, locals := 768 } : Room) 0 0 P [.ref a0, .int a1, .int a2, .int a3] (fun P2 => IV P2 ∧ EK [0, 2, 13] P P2) := by
  refine enV (lv := [(0, .ref a0), (1, .int a1), (2, .int a2), (3, .int a3)]) (by decide) (Nat.le_of_ble_eq_true rfl) rfl (fun E D cy C Ci0 ret => ?_)
  have J159 : ∀ (P159 : PP) (v159_5 : Int32) (v159_6 : Int32), (IV P159) → (EK [0, 2, 13] P P159) → (0 ≤ v159_5.toInt ∧ v159_5.toInt ≤ 20) → (0 ≤ v159_6.toInt ∧ v159_6.toInt ≤ 20) → G E ({ frames := 12, cells := 0, slots := 0, locals := 768 } : Room) D cy 7 P159 0 0 159 [(0, .ref a0), (5, .int v159_5), (6, .int v159_6)] [] := by
    intro P159 v159_5 v159_6 I159 X159 hv159_5 hv159_6
    have h41331 := X159.at ha0
    refine g_aload_n C dX2_seek_159 rfl 0 rfl ?_
    obtain ⟨b41332, e41333, h41334⟩ := I159.fld (h41331) 2 0 0 rfl
    refine g_getR C fi_X2_21 rfl e41333 (h41331).1 (h41331).2 dX2_seek_160 ?_
    refine g_iload C dX2_seek_163 1 rfl ?_
    refine g_callVV (rest := []) C mv_X2_75 [.int v159_5] (s_X0_cut I159 h41334.at) (h41334.at).1 (h41334.at).2 rfl rfl (by decide) (Nat.le_of_ble_eq_true rfl) (by decide) dX2_seek_165 (fun Y41336 h41337 => ?_)
    obtain ⟨Iy41338, Xy41339⟩ := h41337
    have Xz41340 : EK [0, 2, 13] P Y41336 := X159.tr (Xy41339.mono (by decide))
    have h41341 := Xy41339.at h41331
    refine g_aload_n C dX2_seek_168 rfl 0 rfl ?_
    obtain ⟨b41342, e41343, h41344⟩ := Iy41338.fld (h41341) 3 0 0 rfl
    refine g_getR C fi_X2_25 rfl e41343 (h41341).1 (h41341).2 dX2_seek_169 ?_
    refine g_iload C dX2_seek_172 2 rfl ?_
    refine g_callVV (rest := []) C mv_X2_75 [.int v159_6] (s_X0_cut Iy41338 h41344.at) (h41344.at).1 (h41344.at).2 rfl rfl (by decide) (Nat.le_of_ble_eq_true rfl) (by decide) dX2_seek_174 (fun Y41346 h41347 => ?_)
    obtain ⟨Iy41348, Xy41349⟩ := h41347
    have Xz41350 : EK [0, 2, 13] P Y41346 := Xz41340.tr (Xy41349.mono (by decide))
    have h41351 := Xy41349.at h41341
    exact ret _ _ _ _ _ dX2_seek_177 (by decide) (by decide) ⟨Iy41348, Xz41350⟩
  refine g_aload_n C dX2_seek_0 rfl 0 rfl ?_
  refine g_getI C fi_X2_42 (by decide) (ha0).1 (ha0).2 dX2_seek_1 ?_
  have h41352 := I.rg (ha0) 4 rfl
  refine g_aload_n C dX2_seek_4 rfl 0 rfl ?_
  obtain ⟨b41353, e41354, h41355⟩ := I.fld (ha0) 2 0 0 rfl
  refine g_getR C fi_X2_21 rfl e41354 (ha0).1 (ha0).2 dX2_seek_5 ?_
  refine g_getI C fi_X2_62 (by decide) (h41355.at).1 (h41355.at).2 dX2_seek_8 ?_
  have h41356 := I.rg (h41355.at) 2 rfl
  refine g_aload_n C dX2_seek_11 rfl 0 rfl ?_
  obtain ⟨b41357, e41358, h41359⟩ := I.fld (ha0) 3 0 0 rfl
  refine g_getR C fi_X2_25 rfl e41358 (ha0).1 (ha0).2 dX2_seek_12 ?_
  refine g_getI C fi_X2_62 (by decide) (h41359.at).1 (h41359.at).2 dX2_seek_15 ?_
  have h41360 := I.rg (h41359.at) 2 rfl
  refine g_mmin C ms_X2_65 (by decide) (by decide) (Nat.le_of_ble_eq_true rfl) (by decide) dX2_seek_18 (fun z41361 h41362 => ?_)
  have h41362 : z41361.toInt ≤ (pI P b41353 2).toInt ∧ z41361.toInt ≤ (pI P b41357 2).toInt ∧ (z41361.toInt = (pI P b41353 2).toInt ∨ z41361.toInt = (pI P b41357 2).toInt) := h41362
  refine s_isub C dX2_seek_21 (by show -2147483648 ≤ (pI P a0 4).toInt - z41361.toInt ∧ (pI P a0 4).toInt - z41361.toInt ≤ 2147483647; omega) (fun z41363 h41364 => ?_)
  have h41364 : z41363.toInt = (pI P a0 4).toInt - z41361.toInt := h41364
  refine g_istore (lv' := [(4, .int z41363), (0, .ref a0), (1, .int a1), (2, .int a2), (3, .int a3)]) C dX2_seek_22 (by decide) rfl ?_
  refine g_iload_n C dX2_seek_24 rfl 4 rfl ?_
  refine g_iload C dX2_seek_25 0 rfl ?_
  refine s_iadd C dX2_seek_27 (by show -2147483648 ≤ a3.toInt + z41363.toInt ∧ a3.toInt + z41363.toInt ≤ 2147483647; omega) (fun z41365 h41366 => ?_)
  have h41366 : z41365.toInt = a3.toInt + z41363.toInt := h41366
  refine g_aload_n C dX2_seek_28 rfl 1 rfl ?_
  refine g_getI C fi_X2_45 (by decide) (ha0).1 (ha0).2 dX2_seek_29 ?_
  have h41367 := I.rg (ha0) 5 rfl
  refine b_icmp_lt C 36 dX2_seek_32 (by decide) (fun h41368 => ?_) (fun h41368 => ?_)
  · have h41368 : z41365.toInt < (pI P a0 5).toInt := h41368
    refine g_iload C dX2_seek_36 0 rfl ?_
    refine b_if_ne C 52 dX2_seek_38 (by decide) (fun h41369 => ?_) (fun h41369 => ?_)
    · have h41369 : z41363.toInt ≠ 0 := ti_ne h41369
      refine g_iload_n C dX2_seek_52 rfl 2 rfl ?_
      refine b_if_lt C 70 dX2_seek_53 (by decide) (fun h41370 => ?_) (fun h41370 => ?_)
      · have h41370 : a1.toInt < 0 := h41370
        omega
      · have h41370 : 0 ≤ a1.toInt := h41370
        refine g_iload_n C dX2_seek_56 rfl 2 rfl ?_
        refine g_bipush (v := 11) C dX2_seek_57 (by decide) ?_
        refine b_icmp_ge C 70 dX2_seek_59 (by decide) (fun h41371 => ?_) (fun h41371 => ?_)
        · have h41371 : 11 ≤ a1.toInt := h41371
          omega
        · have h41371 : a1.toInt < 11 := h41371
          refine g_iload C dX2_seek_62 0 rfl ?_
          refine g_iload_n C dX2_seek_64 rfl 2 rfl ?_
          refine g_iconst (v := 1) C dX2_seek_65 (by decide) ?_
          refine s_iadd C dX2_seek_66 (by show -2147483648 ≤ a1.toInt + 1 ∧ a1.toInt + 1 ≤ 2147483647; omega) (fun z41372 h41373 => ?_)
          have h41373 : z41372.toInt = a1.toInt + 1 := h41373
          refine b_icmp_le C 71 dX2_seek_67 (by decide) (fun h41374 => ?_) (fun h41374 => ?_)
          · have h41374 : z41363.toInt ≤ z41372.toInt := h41374
            refine g_aload_n C dX2_seek_71 rfl 1 rfl ?_
            refine g_iload_n C dX2_seek_72 rfl 2 rfl ?_
            refine g_iconst (v := 1) C dX2_seek_73 (by decide) ?_
            refine s_isub C dX2_seek_74 (by show -2147483648 ≤ a1.toInt - 1 ∧ a1.toInt - 1 ≤ 2147483647; omega) (fun z41375 h41376 => ?_)
            have h41376 : z41375.toInt = a1.toInt - 1 := h41376
            refine g_iload_n C dX2_seek_75 rfl 3 rfl ?_
            refine g_iload_n C dX2_seek_76 rfl 4 rfl ?_
            refine g_callVV (rest := []) C mv_X2_58 [.int z41375, .int a2, .int a3] (s_X2_seek_L9 I ha0 (by omega) (by omega)) (ha0).1 (ha0).2 rfl rfl (by decide) (Nat.le_of_ble_eq_true rfl) (by decide) dX2_seek_77 (fun Y41378 h41379 => ?_)
            obtain ⟨Iy41380, Xy41381⟩ := h41379
            have Xz41382 : EK [0, 2, 13] P Y41378 := Xy41381.mono (by decide)
            have h41383 := Xy41381.at ha0
            refine g_aload_n C dX2_seek_80 rfl 1 rfl ?_
            obtain ⟨b41384, e41385, h41386⟩ := Iy41380.fld (h41383) 2 0 0 rfl
            refine g_getR C fi_X2_21 rfl e41385 (h41383).1 (h41383).2 dX2_seek_81 ?_
            refine g_getI C fi_X2_62 (by decide) (h41386.at).1 (h41386.at).2 dX2_seek_84 ?_
            have h41387 := Iy41380.rg (h41386.at) 2 rfl
            refine g_topi (fun z41388 h41389 => ?_)
            have h41389 : z41388.toInt = (pI Y41378 b41384 2).toInt := congrArg Int32.toInt h41389
            refine g_istore (lv' := [(5, .int z41388), (4, .int z41363), (0, .ref a0), (1, .int a1), (2, .int a2), (3, .int a3)]) C dX2_seek_87 (by decide) rfl ?_
            refine g_aload_n C dX2_seek_89 rfl 2 rfl ?_
            obtain ⟨b41390, e41391, h41392⟩ := Iy41380.fld (h41383) 3 0 0 rfl
            refine g_getR C fi_X2_25 rfl e41391 (h41383).1 (h41383).2 dX2_seek_90 ?_
            refine g_getI C fi_X2_62 (by decide) (h41392.at).1 (h41392.at).2 dX2_seek_93 ?_
            have h41393 := Iy41380.rg (h41392.at) 2 rfl
            refine g_topi (fun z41394 h41395 => ?_)
            have h41395 : z41394.toInt = (pI Y41378 b41390 2).toInt := congrArg Int32.toInt h41395
            refine g_istore (lv' := [(6, .int z41394), (5, .int z41388), (4, .int z41363), (0, .ref a0), (1, .int a1), (2, .int a2), (3, .int a3)]) C dX2_seek_96 (by decide) rfl ?_
            refine g_aload_n C dX2_seek_98 rfl 3 rfl ?_
            refine g_getR C fi_X2_21 rfl e41385 (h41383).1 (h41383).2 dX2_seek_99 ?_
            refine g_aload_n C dX2_seek_102 rfl 3 rfl ?_
            obtain ⟨b41396, e41397, h41398⟩ := Iy41380.fld (h41383) 0 13 11 rfl
            refine g_getR C fi_X2_9 rfl e41397 (h41383).1 (h41383).2 dX2_seek_103 ?_
            refine g_iload_n C dX2_seek_106 rfl 4 rfl ?_
            refine g_iald (j := (a1.toInt.toNat)) C h41398.1 h41398.2.1 (ix_in h41398.2.2 (by omega)) dX2_seek_107 ?_
            refine g_topi (fun z41399 _ => ?_)
            refine g_callVV (rest := []) C mv_X2_71 [.int z41399] (s_X0_add Iy41380 h41386.at) (h41386.at).1 (h41386.at).2 rfl rfl (by decide) (Nat.le_of_ble_eq_true rfl) (by decide) dX2_seek_108 (fun Y41401 h41402 => ?_)
            obtain ⟨Iy41403, Xy41404⟩ := h41402
            have Xz41405 : EK [0, 2, 13] P Y41401 := Xz41382.tr (Xy41404.mono (by decide))
            have h41406 := Xy41404.at h41383
            refine g_aload_n C dX2_seek_111 rfl 3 rfl ?_
            obtain ⟨b41407, e41408, h41409⟩ := Iy41403.fld (h41406) 3 0 0 rfl
            refine g_getR C fi_X2_25 rfl e41408 (h41406).1 (h41406).2 dX2_seek_112 ?_
            refine g_aload_n C dX2_seek_115 rfl 3 rfl ?_
            obtain ⟨b41410, e41411, h41412⟩ := Iy41403.fld (h41406) 1 13 11 rfl
            refine g_getR C fi_X2_15 rfl e41411 (h41406).1 (h41406).2 dX2_seek_116 ?_
            refine g_iload_n C dX2_seek_119 rfl 4 rfl ?_
            refine g_iald (j := (a1.toInt.toNat)) C h41412.1 h41412.2.1 (ix_in h41412.2.2 (by omega)) dX2_seek_120 ?_
            refine g_topi (fun z41413 _ => ?_)
            refine g_callVV (rest := []) C mv_X2_71 [.int z41413] (s_X0_add Iy41403 h41409.at) (h41409.at).1 (h41409.at).2 rfl rfl (by decide) (Nat.le_of_ble_eq_true rfl) (by decide) dX2_seek_121 (fun Y41415 h41416 => ?_)
            obtain ⟨Iy41417, Xy41418⟩ := h41416
            have Xz41419 : EK [0, 2, 13] P Y41415 := Xz41405.tr (Xy41418.mono (by decide))
            have h41420 := Xy41418.at h41406
            refine g_aload_n C dX2_seek_124 rfl 3 rfl ?_
            obtain ⟨b41421, e41422, h41423⟩ := Iy41417.fld (h41420) 2 0 0 rfl
            refine g_getR C fi_X2_21 rfl e41422 (h41420).1 (h41420).2 dX2_seek_125 ?_
            refine g_getI C fi_X2_32 (by decide) (h41423.at).1 (h41423.at).2 dX2_seek_128 ?_
            have h41424 := Iy41417.rg (h41423.at) 3 rfl
            refine b_if_eq C 159 dX2_seek_131 (by decide) (fun h41425 => ?_) (fun h41425 => ?_)
            · have h41425 : (pI Y41415 b41421 3).toInt = 0 := congrArg Int32.toInt h41425
              refine g_lv (lv' := [(0, .ref a0), (5, .int z41388), (6, .int z41394)]) [3, 1, 0] rfl ?_
              exact J159 Y41415 z41388 z41394 Iy41417 Xz41419 (by omega) (by omega)
            · have h41425 : (pI Y41415 b41421 3).toInt ≠ 0 := ti_ne h41425
              refine g_aload_n C dX2_seek_134 rfl 3 rfl ?_
              obtain ⟨b41426, e41427, h41428⟩ := Iy41417.fld (h41420) 3 0 0 rfl
              refine g_getR C fi_X2_25 rfl e41427 (h41420).1 (h41420).2 dX2_seek_135 ?_
              refine g_getI C fi_X2_32 (by decide) (h41428.at).1 (h41428.at).2 dX2_seek_138 ?_
              have h41429 := Iy41417.rg (h41428.at) 3 rfl
              refine b_if_eq C 159 dX2_seek_141 (by decide) (fun h41430 => ?_) (fun h41430 => ?_)
              · have h41430 : (pI Y41415 b41426 3).toInt = 0 := congrArg Int32.toInt h41430
                refine g_lv (lv' := [(0, .ref a0), (5, .int z41388), (6, .int z41394)]) [3, 1, 0] rfl ?_
                exact J159 Y41415 z41388 z41394 Iy41417 Xz41419 (by omega) (by omega)
              · have h41430 : (pI Y41415 b41426 3).toInt ≠ 0 := ti_ne h41430
                refine g_aload_n C dX2_seek_144 rfl 3 rfl ?_
                refine g_iload_n C dX2_seek_145 rfl 4 rfl ?_
                refine g_iconst (v := 1) C dX2_seek_146 (by decide) ?_
                refine s_isub C dX2_seek_147 (by show -2147483648 ≤ a1.toInt - 1 ∧ a1.toInt - 1 ≤ 2147483647; omega) (fun z41431 h41432 => ?_)
                have h41432 : z41431.toInt = a1.toInt - 1 := h41432
                refine g_iload_n C dX2_seek_148 rfl 5 rfl ?_
                refine g_iconst (v := 1) C dX2_seek_149 (by decide) ?_
                refine g_iload_n C dX2_seek_150 rfl 4 rfl ?_
                refine a_ishl C dX2_seek_151 (fun z41433 => ?_)
                refine a_ior C dX2_seek_152 (fun z41435 => ?_)
                refine g_iload_n C dX2_seek_153 rfl 6 rfl ?_
                refine g_iconst (v := 1) C dX2_seek_154 (by decide) ?_
                refine s_iadd C dX2_seek_155 (by show -2147483648 ≤ a3.toInt + 1 ∧ a3.toInt + 1 ≤ 2147483647; omega) (fun z41437 h41438 => ?_)
                have h41438 : z41437.toInt = a3.toInt + 1 := h41438
                refine g_callVV (rest := []) C mv_X2_58 [.int z41431, .int z41435, .int z41437] (s_X2_seek_L9 Iy41417 h41420 (by omega) (by omega)) (h41420).1 (h41420).2 rfl rfl (by decide) (Nat.le_of_ble_eq_true rfl) (by decide) dX2_seek_156 (fun Y41440 h41441 => ?_)
                obtain ⟨Iy41442, Xy41443⟩ := h41441
                have Xz41444 : EK [0, 2, 13] P Y41440 := Xz41419.tr (Xy41443.mono (by decide))
                have h41445 := Xy41443.at h41420
                refine g_lv (lv' := [(0, .ref a0), (5, .int z41388), (6, .int z41394)]) [3, 1, 0] rfl ?_
                exact J159 Y41440 z41388 z41394 Iy41442 Xz41444 (by omega) (by omega)
          · have h41374 : z41372.toInt < z41363.toInt := h41374
            exact ret _ _ _ _ _ dX2_seek_70 (by decide) (by decide) ⟨I, EK.rf⟩
    · have h41369 : z41363.toInt = 0 := congrArg Int32.toInt h41369
      refine g_aload_n C dX2_seek_41 rfl 1 rfl ?_
      refine g_iload_n C dX2_seek_42 rfl 4 rfl ?_
      refine g_putI C fi_X2_45 rfl (ha0).1 (ha0).2 dX2_seek_43 ?_
      refine gpW (ks := [2]) (I.setI (ha0) (rgOk.of rfl (by omega))) (EK.setI (ha0).2 (by decide)) (fun Y41446 Iy41447 Xy41448 w41449 w41450 => ?_)
      have q41451 := w41449 4 (by decide)
      have q41452 := Xy41448.keep (h41355.at) (by decide) 2
      have q41453 := Xy41448.keep (h41359.at) (by decide) 2
      have Xz41454 : EK [0, 2, 13] P Y41446 := Xy41448.mono (by decide)
      have h41455 := Xy41448.at ha0
      refine g_aload_n C dX2_seek_46 rfl 1 rfl ?_
      refine g_iload_n C dX2_seek_47 rfl 3 rfl ?_
      refine g_putI C fi_X2_48 rfl (h41455).1 (h41455).2 dX2_seek_48 ?_
      refine gpW (ks := [2]) (Iy41447.setI (h41455) (rgOk.none rfl)) (EK.setI (h41455).2 (by decide)) (fun Y41456 Iy41457 Xy41458 w41459 w41460 => ?_)
      have q41461 := w41459 4 (by decide)
      have q41462 := w41459 5 (by decide)
      have Xz41463 : EK [0, 2, 13] P Y41456 := Xz41454.tr (Xy41458.mono (by decide))
      have h41464 := Xy41458.at h41455
      exact ret _ _ _ _ _ dX2_seek_51 (by decide) (by decide) ⟨Iy41457, Xz41463⟩
  · have h41368 : (pI P a0 5).toInt ≤ z41365.toInt := h41368
    exact ret _ _ _ _ _ dX2_seek_35 (by decide) (by decide) ⟨I, EK.rf⟩
set_option maxHeartbeats 4000000 in
set_option maxRecDepth 100000 in
theorem s_X2_seek_L11 {P : PP} {a0 : Nat} {a1 : Int32} {a2 : Int32} {a3 : Int32} (I : IV P) (ha0 : At P a0 2) (ha1 : 10 ≤ a1.toInt ∧ a1.toInt ≤ 10) (ha3 : 0 ≤ a3.toInt ∧ a3.toInt ≤ 0) : CtrV yX2_seek cX2_seek 7 none ({ frames := 13, cells := 0, slots := 0, locals := 832 } : Room) 0 0 P [.ref a0, .int a1, .int a2, .int a3] (fun P2 => IV P2 ∧ EK [0, 2, 13] P P2) := by
  refine enV (lv := [(0, .ref a0), (1, .int a1), (2, .int a2), (3, .int a3)]) (by decide) (Nat.le_of_ble_eq_true rfl) rfl (fun E D cy C Ci0 ret => ?_)
  have J159 : ∀ (P159 : PP) (v159_5 : Int32) (v159_6 : Int32), (IV P159) → (EK [0, 2, 13] P P159) → (0 ≤ v159_5.toInt ∧ v159_5.toInt ≤ 20) → (0 ≤ v159_6.toInt ∧ v159_6.toInt ≤ 20) → G E ({ frames := 13, cells := 0, slots := 0, locals := 832 } : Room) D cy 7 P159 0 0 159 [(0, .ref a0), (5, .int v159_5), (6, .int v159_6)] [] := by
    intro P159 v159_5 v159_6 I159 X159 hv159_5 hv159_6
    have h41599 := X159.at ha0
    refine g_aload_n C dX2_seek_159 rfl 0 rfl ?_
    obtain ⟨b41600, e41601, h41602⟩ := I159.fld (h41599) 2 0 0 rfl
    refine g_getR C fi_X2_21 rfl e41601 (h41599).1 (h41599).2 dX2_seek_160 ?_
    refine g_iload C dX2_seek_163 1 rfl ?_
    refine g_callVV (rest := []) C mv_X2_75 [.int v159_5] (s_X0_cut I159 h41602.at) (h41602.at).1 (h41602.at).2 rfl rfl (by decide) (Nat.le_of_ble_eq_true rfl) (by decide) dX2_seek_165 (fun Y41604 h41605 => ?_)
    obtain ⟨Iy41606, Xy41607⟩ := h41605
    have Xz41608 : EK [0, 2, 13] P Y41604 := X159.tr (Xy41607.mono (by decide))
    have h41609 := Xy41607.at h41599
    refine g_aload_n C dX2_seek_168 rfl 0 rfl ?_
    obtain ⟨b41610, e41611, h41612⟩ := Iy41606.fld (h41609) 3 0 0 rfl
    refine g_getR C fi_X2_25 rfl e41611 (h41609).1 (h41609).2 dX2_seek_169 ?_
    refine g_iload C dX2_seek_172 2 rfl ?_
    refine g_callVV (rest := []) C mv_X2_75 [.int v159_6] (s_X0_cut Iy41606 h41612.at) (h41612.at).1 (h41612.at).2 rfl rfl (by decide) (Nat.le_of_ble_eq_true rfl) (by decide) dX2_seek_174 (fun Y41614 h41615 => ?_)
    obtain ⟨Iy41616, Xy41617⟩ := h41615
    have Xz41618 : EK [0, 2, 13] P Y41614 := Xz41608.tr (Xy41617.mono (by decide))
    have h41619 := Xy41617.at h41609
    exact ret _ _ _ _ _ dX2_seek_177 (by decide) (by decide) ⟨Iy41616, Xz41618⟩
  refine g_aload_n C dX2_seek_0 rfl 0 rfl ?_
  refine g_getI C fi_X2_42 (by decide) (ha0).1 (ha0).2 dX2_seek_1 ?_
  have h41620 := I.rg (ha0) 4 rfl
  refine g_aload_n C dX2_seek_4 rfl 0 rfl ?_
  obtain ⟨b41621, e41622, h41623⟩ := I.fld (ha0) 2 0 0 rfl
  refine g_getR C fi_X2_21 rfl e41622 (ha0).1 (ha0).2 dX2_seek_5 ?_
  refine g_getI C fi_X2_62 (by decide) (h41623.at).1 (h41623.at).2 dX2_seek_8 ?_
  have h41624 := I.rg (h41623.at) 2 rfl
  refine g_aload_n C dX2_seek_11 rfl 0 rfl ?_
  obtain ⟨b41625, e41626, h41627⟩ := I.fld (ha0) 3 0 0 rfl
  refine g_getR C fi_X2_25 rfl e41626 (ha0).1 (ha0).2 dX2_seek_12 ?_
  refine g_getI C fi_X2_62 (by decide) (h41627.at).1 (h41627.at).2 dX2_seek_15 ?_
  have h41628 := I.rg (h41627.at) 2 rfl
  refine g_mmin C ms_X2_65 (by decide) (by decide) (Nat.le_of_ble_eq_true rfl) (by decide) dX2_seek_18 (fun z41629 h41630 => ?_)
  have h41630 : z41629.toInt ≤ (pI P b41621 2).toInt ∧ z41629.toInt ≤ (pI P b41625 2).toInt ∧ (z41629.toInt = (pI P b41621 2).toInt ∨ z41629.toInt = (pI P b41625 2).toInt) := h41630
  refine s_isub C dX2_seek_21 (by show -2147483648 ≤ (pI P a0 4).toInt - z41629.toInt ∧ (pI P a0 4).toInt - z41629.toInt ≤ 2147483647; omega) (fun z41631 h41632 => ?_)
  have h41632 : z41631.toInt = (pI P a0 4).toInt - z41629.toInt := h41632
  refine g_istore (lv' := [(4, .int z41631), (0, .ref a0), (1, .int a1), (2, .int a2), (3, .int a3)]) C dX2_seek_22 (by decide) rfl ?_
  refine g_iload_n C dX2_seek_24 rfl 4 rfl ?_
  refine g_iload C dX2_seek_25 0 rfl ?_
  refine s_iadd C dX2_seek_27 (by show -2147483648 ≤ a3.toInt + z41631.toInt ∧ a3.toInt + z41631.toInt ≤ 2147483647; omega) (fun z41633 h41634 => ?_)
  have h41634 : z41633.toInt = a3.toInt + z41631.toInt := h41634
  refine g_aload_n C dX2_seek_28 rfl 1 rfl ?_
  refine g_getI C fi_X2_45 (by decide) (ha0).1 (ha0).2 dX2_seek_29 ?_
  have h41635 := I.rg (ha0) 5 rfl
  refine b_icmp_lt C 36 dX2_seek_32 (by decide) (fun h41636 => ?_) (fun h41636 => ?_)
  · have h41636 : z41633.toInt < (pI P a0 5).toInt := h41636
    refine g_iload C dX2_seek_36 0 rfl ?_
    refine b_if_ne C 52 dX2_seek_38 (by decide) (fun h41637 => ?_) (fun h41637 => ?_)
    · have h41637 : z41631.toInt ≠ 0 := ti_ne h41637
      refine g_iload_n C dX2_seek_52 rfl 2 rfl ?_
      refine b_if_lt C 70 dX2_seek_53 (by decide) (fun h41638 => ?_) (fun h41638 => ?_)
      · have h41638 : a1.toInt < 0 := h41638
        omega
      · have h41638 : 0 ≤ a1.toInt := h41638
        refine g_iload_n C dX2_seek_56 rfl 2 rfl ?_
        refine g_bipush (v := 11) C dX2_seek_57 (by decide) ?_
        refine b_icmp_ge C 70 dX2_seek_59 (by decide) (fun h41639 => ?_) (fun h41639 => ?_)
        · have h41639 : 11 ≤ a1.toInt := h41639
          omega
        · have h41639 : a1.toInt < 11 := h41639
          refine g_iload C dX2_seek_62 0 rfl ?_
          refine g_iload_n C dX2_seek_64 rfl 2 rfl ?_
          refine g_iconst (v := 1) C dX2_seek_65 (by decide) ?_
          refine s_iadd C dX2_seek_66 (by show -2147483648 ≤ a1.toInt + 1 ∧ a1.toInt + 1 ≤ 2147483647; omega) (fun z41640 h41641 => ?_)
          have h41641 : z41640.toInt = a1.toInt + 1 := h41641
          refine b_icmp_le C 71 dX2_seek_67 (by decide) (fun h41642 => ?_) (fun h41642 => ?_)
          · have h41642 : z41631.toInt ≤ z41640.toInt := h41642
            refine g_aload_n C dX2_seek_71 rfl 1 rfl ?_
            refine g_iload_n C dX2_seek_72 rfl 2 rfl ?_
            refine g_iconst (v := 1) C dX2_seek_73 (by decide) ?_
            refine s_isub C dX2_seek_74 (by show -2147483648 ≤ a1.toInt - 1 ∧ a1.toInt - 1 ≤ 2147483647; omega) (fun z41643 h41644 => ?_)
            have h41644 : z41643.toInt = a1.toInt - 1 := h41644
            refine g_iload_n C dX2_seek_75 rfl 3 rfl ?_
            refine g_iload_n C dX2_seek_76 rfl 4 rfl ?_
            refine g_callVV (rest := []) C mv_X2_58 [.int z41643, .int a2, .int a3] (s_X2_seek_L10 I ha0 (by omega) (by omega)) (ha0).1 (ha0).2 rfl rfl (by decide) (Nat.le_of_ble_eq_true rfl) (by decide) dX2_seek_77 (fun Y41646 h41647 => ?_)
            obtain ⟨Iy41648, Xy41649⟩ := h41647
            have Xz41650 : EK [0, 2, 13] P Y41646 := Xy41649.mono (by decide)
            have h41651 := Xy41649.at ha0
            refine g_aload_n C dX2_seek_80 rfl 1 rfl ?_
            obtain ⟨b41652, e41653, h41654⟩ := Iy41648.fld (h41651) 2 0 0 rfl
            refine g_getR C fi_X2_21 rfl e41653 (h41651).1 (h41651).2 dX2_seek_81 ?_
            refine g_getI C fi_X2_62 (by decide) (h41654.at).1 (h41654.at).2 dX2_seek_84 ?_
            have h41655 := Iy41648.rg (h41654.at) 2 rfl
            refine g_topi (fun z41656 h41657 => ?_)
            have h41657 : z41656.toInt = (pI Y41646 b41652 2).toInt := congrArg Int32.toInt h41657
            refine g_istore (lv' := [(5, .int z41656), (4, .int z41631), (0, .ref a0), (1, .int a1), (2, .int a2), (3, .int a3)]) C dX2_seek_87 (by decide) rfl ?_
            refine g_aload_n C dX2_seek_89 rfl 2 rfl ?_
            obtain ⟨b41658, e41659, h41660⟩ := Iy41648.fld (h41651) 3 0 0 rfl
            refine g_getR C fi_X2_25 rfl e41659 (h41651).1 (h41651).2 dX2_seek_90 ?_
            refine g_getI C fi_X2_62 (by decide) (h41660.at).1 (h41660.at).2 dX2_seek_93 ?_
            have h41661 := Iy41648.rg (h41660.at) 2 rfl
            refine g_topi (fun z41662 h41663 => ?_)
            have h41663 : z41662.toInt = (pI Y41646 b41658 2).toInt := congrArg Int32.toInt h41663
            refine g_istore (lv' := [(6, .int z41662), (5, .int z41656), (4, .int z41631), (0, .ref a0), (1, .int a1), (2, .int a2), (3, .int a3)]) C dX2_seek_96 (by decide) rfl ?_
            refine g_aload_n C dX2_seek_98 rfl 3 rfl ?_
            refine g_getR C fi_X2_21 rfl e41653 (h41651).1 (h41651).2 dX2_seek_99 ?_
            refine g_aload_n C dX2_seek_102 rfl 3 rfl ?_
            obtain ⟨b41664, e41665, h41666⟩ := Iy41648.fld (h41651) 0 13 11 rfl
            refine g_getR C fi_X2_9 rfl e41665 (h41651).1 (h41651).2 dX2_seek_103 ?_
            refine g_iload_n C dX2_seek_106 rfl 4 rfl ?_
            refine g_iald (j := (a1.toInt.toNat)) C h41666.1 h41666.2.1 (ix_in h41666.2.2 (by omega)) dX2_seek_107 ?_
            refine g_topi (fun z41667 _ => ?_)
            refine g_callVV (rest := []) C mv_X2_71 [.int z41667] (s_X0_add Iy41648 h41654.at) (h41654.at).1 (h41654.at).2 rfl rfl (by decide) (Nat.le_of_ble_eq_true rfl) (by decide) dX2_seek_108 (fun Y41669 h41670 => ?_)
            obtain ⟨Iy41671, Xy41672⟩ := h41670
            have Xz41673 : EK [0, 2, 13] P Y41669 := Xz41650.tr (Xy41672.mono (by decide))
            have h41674 := Xy41672.at h41651
            refine g_aload_n C dX2_seek_111 rfl 3 rfl ?_
            obtain ⟨b41675, e41676, h41677⟩ := Iy41671.fld (h41674) 3 0 0 rfl
            refine g_getR C fi_X2_25 rfl e41676 (h41674).1 (h41674).2 dX2_seek_112 ?_
            refine g_aload_n C dX2_seek_115 rfl 3 rfl ?_
            obtain ⟨b41678, e41679, h41680⟩ := Iy41671.fld (h41674) 1 13 11 rfl
            refine g_getR C fi_X2_15 rfl e41679 (h41674).1 (h41674).2 dX2_seek_116 ?_
            refine g_iload_n C dX2_seek_119 rfl 4 rfl ?_
            refine g_iald (j := (a1.toInt.toNat)) C h41680.1 h41680.2.1 (ix_in h41680.2.2 (by omega)) dX2_seek_120 ?_
            refine g_topi (fun z41681 _ => ?_)
            refine g_callVV (rest := []) C mv_X2_71 [.int z41681] (s_X0_add Iy41671 h41677.at) (h41677.at).1 (h41677.at).2 rfl rfl (by decide) (Nat.le_of_ble_eq_true rfl) (by decide) dX2_seek_121 (fun Y41683 h41684 => ?_)
            obtain ⟨Iy41685, Xy41686⟩ := h41684
            have Xz41687 : EK [0, 2, 13] P Y41683 := Xz41673.tr (Xy41686.mono (by decide))
            have h41688 := Xy41686.at h41674
            refine g_aload_n C dX2_seek_124 rfl 3 rfl ?_
            obtain ⟨b41689, e41690, h41691⟩ := Iy41685.fld (h41688) 2 0 0 rfl
            refine g_getR C fi_X2_21 rfl e41690 (h41688).1 (h41688).2 dX2_seek_125 ?_
            refine g_getI C fi_X2_32 (by decide) (h41691.at).1 (h41691.at).2 dX2_seek_128 ?_
            have h41692 := Iy41685.rg (h41691.at) 3 rfl
            refine b_if_eq C 159 dX2_seek_131 (by decide) (fun h41693 => ?_) (fun h41693 => ?_)
            · have h41693 : (pI Y41683 b41689 3).toInt = 0 := congrArg Int32.toInt h41693
              refine g_lv (lv' := [(0, .ref a0), (5, .int z41656), (6, .int z41662)]) [3, 1, 0] rfl ?_
              exact J159 Y41683 z41656 z41662 Iy41685 Xz41687 (by omega) (by omega)
            · have h41693 : (pI Y41683 b41689 3).toInt ≠ 0 := ti_ne h41693
              refine g_aload_n C dX2_seek_134 rfl 3 rfl ?_
              obtain ⟨b41694, e41695, h41696⟩ := Iy41685.fld (h41688) 3 0 0 rfl
              refine g_getR C fi_X2_25 rfl e41695 (h41688).1 (h41688).2 dX2_seek_135 ?_
              refine g_getI C fi_X2_32 (by decide) (h41696.at).1 (h41696.at).2 dX2_seek_138 ?_
              have h41697 := Iy41685.rg (h41696.at) 3 rfl
              refine b_if_eq C 159 dX2_seek_141 (by decide) (fun h41698 => ?_) (fun h41698 => ?_)
              · have h41698 : (pI Y41683 b41694 3).toInt = 0 := congrArg Int32.toInt h41698
                refine g_lv (lv' := [(0, .ref a0), (5, .int z41656), (6, .int z41662)]) [3, 1, 0] rfl ?_
                exact J159 Y41683 z41656 z41662 Iy41685 Xz41687 (by omega) (by omega)
              · have h41698 : (pI Y41683 b41694 3).toInt ≠ 0 := ti_ne h41698
                refine g_aload_n C dX2_seek_144 rfl 3 rfl ?_
                refine g_iload_n C dX2_seek_145 rfl 4 rfl ?_
                refine g_iconst (v := 1) C dX2_seek_146 (by decide) ?_
                refine s_isub C dX2_seek_147 (by show -2147483648 ≤ a1.toInt - 1 ∧ a1.toInt - 1 ≤ 2147483647; omega) (fun z41699 h41700 => ?_)
                have h41700 : z41699.toInt = a1.toInt - 1 := h41700
                refine g_iload_n C dX2_seek_148 rfl 5 rfl ?_
                refine g_iconst (v := 1) C dX2_seek_149 (by decide) ?_
                refine g_iload_n C dX2_seek_150 rfl 4 rfl ?_
                refine a_ishl C dX2_seek_151 (fun z41701 => ?_)
                refine a_ior C dX2_seek_152 (fun z41703 => ?_)
                refine g_iload_n C dX2_seek_153 rfl 6 rfl ?_
                refine g_iconst (v := 1) C dX2_seek_154 (by decide) ?_
                refine s_iadd C dX2_seek_155 (by show -2147483648 ≤ a3.toInt + 1 ∧ a3.toInt + 1 ≤ 2147483647; omega) (fun z41705 h41706 => ?_)
                have h41706 : z41705.toInt = a3.toInt + 1 := h41706
                refine g_callVV (rest := []) C mv_X2_58 [.int z41699, .int z41703, .int z41705] (s_X2_seek_L10 Iy41685 h41688 (by omega) (by omega)) (h41688).1 (h41688).2 rfl rfl (by decide) (Nat.le_of_ble_eq_true rfl) (by decide) dX2_seek_156 (fun Y41708 h41709 => ?_)
                obtain ⟨Iy41710, Xy41711⟩ := h41709
                have Xz41712 : EK [0, 2, 13] P Y41708 := Xz41687.tr (Xy41711.mono (by decide))
                have h41713 := Xy41711.at h41688
                refine g_lv (lv' := [(0, .ref a0), (5, .int z41656), (6, .int z41662)]) [3, 1, 0] rfl ?_
                exact J159 Y41708 z41656 z41662 Iy41710 Xz41712 (by omega) (by omega)
          · have h41642 : z41640.toInt < z41631.toInt := h41642
            exact ret _ _ _ _ _ dX2_seek_70 (by decide) (by decide) ⟨I, EK.rf⟩
    · have h41637 : z41631.toInt = 0 := congrArg Int32.toInt h41637
      refine g_aload_n C dX2_seek_41 rfl 1 rfl ?_
      refine g_iload_n C dX2_seek_42 rfl 4 rfl ?_
      refine g_putI C fi_X2_45 rfl (ha0).1 (ha0).2 dX2_seek_43 ?_
      refine gpW (ks := [2]) (I.setI (ha0) (rgOk.of rfl (by omega))) (EK.setI (ha0).2 (by decide)) (fun Y41714 Iy41715 Xy41716 w41717 w41718 => ?_)
      have q41719 := w41717 4 (by decide)
      have q41720 := Xy41716.keep (h41623.at) (by decide) 2
      have q41721 := Xy41716.keep (h41627.at) (by decide) 2
      have Xz41722 : EK [0, 2, 13] P Y41714 := Xy41716.mono (by decide)
      have h41723 := Xy41716.at ha0
      refine g_aload_n C dX2_seek_46 rfl 1 rfl ?_
      refine g_iload_n C dX2_seek_47 rfl 3 rfl ?_
      refine g_putI C fi_X2_48 rfl (h41723).1 (h41723).2 dX2_seek_48 ?_
      refine gpW (ks := [2]) (Iy41715.setI (h41723) (rgOk.none rfl)) (EK.setI (h41723).2 (by decide)) (fun Y41724 Iy41725 Xy41726 w41727 w41728 => ?_)
      have q41729 := w41727 4 (by decide)
      have q41730 := w41727 5 (by decide)
      have Xz41731 : EK [0, 2, 13] P Y41724 := Xz41722.tr (Xy41726.mono (by decide))
      have h41732 := Xy41726.at h41723
      exact ret _ _ _ _ _ dX2_seek_51 (by decide) (by decide) ⟨Iy41725, Xz41731⟩
  · have h41636 : (pI P a0 5).toInt ≤ z41633.toInt := h41636
    exact ret _ _ _ _ _ dX2_seek_35 (by decide) (by decide) ⟨I, EK.rf⟩
