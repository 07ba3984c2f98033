theorem dX8_walk_43 : decode cX8_walk 43 = .ok (.return_, 1) := by decide +kernel
set_option maxHeartbeats 4000000 in
set_option maxRecDepth 100000 in
theorem s_X8_walk_L0 {P : PP} {a0 : Nat} {a1 : Int32} {a2 : Int32} {a3 : Int32} (I : IV P) (ha0 : At P a0 8) (ha1 : 11 ≤ a1.toInt ∧ a1.toInt ≤ 11) (ha2 : 0 ≤ a2.toInt ∧ a2.toInt ≤ 11) : CtrV yX8_walk cX8_walk 6 none ({ frames := 3, cells := 0, slots := 0, locals := 192 } : Room) 0 0 P [.ref a0, .int a1, .int a2, .int a3] (fun P2 => IV P2 ∧ EK [13] P P2) := by
  refine enV (lv := [(0, .ref a0), (1, .int a1), (2, .int a2), (3, .int a3)]) (by decide) (Nat.le_of_ble_eq_true rfl) rfl (fun E D cy C Ci0 ret => ?_)
  have J44 : G E ({ frames := 3, cells := 0, slots := 0, locals := 192 } : Room) D cy 6 P 0 0 44 [(0, .ref a0), (1, .int a1), (2, .int a2), (3, .int a3)] [] := by
    refine g_iload_n C dX8_walk_44 rfl 1 rfl ?_
    refine g_aload_n C dX8_walk_45 rfl 0 rfl ?_
    refine g_getI C fi_X8_38 (by decide) (ha0).1 (ha0).2 dX8_walk_46 ?_
    have h8703 := I.rg (ha0) 4 rfl
    refine b_icmp_ge C 79 dX8_walk_49 (by decide) (fun h8704 => ?_) (fun h8704 => ?_)
    · have h8704 : (pI P a0 4).toInt ≤ a1.toInt := h8704
      exact ret _ _ _ _ _ dX8_walk_79 (by decide) (by decide) ⟨I, EK.rf⟩
    · have h8704 : a1.toInt < (pI P a0 4).toInt := h8704
      omega
  have J32 : G E ({ frames := 3, cells := 0, slots := 0, locals := 192 } : Room) D cy 6 P 0 0 32 [(0, .ref a0), (1, .int a1), (2, .int a2)] [] := by
    refine g_aload_n C dX8_walk_32 rfl 0 rfl ?_
    refine g_aload_n C dX8_walk_33 rfl 0 rfl ?_
    refine g_getI C fi_X8_38 (by decide) (ha0).1 (ha0).2 dX8_walk_34 ?_
    have h8705 := I.rg (ha0) 4 rfl
    refine g_iload_n C dX8_walk_37 rfl 1 rfl ?_
    refine s_isub C dX8_walk_38 (by show -2147483648 ≤ (pI P a0 4).toInt - a1.toInt ∧ (pI P a0 4).toInt - a1.toInt ≤ 2147483647; omega) (fun z8706 h8707 => ?_)
    have h8707 : z8706.toInt = (pI P a0 4).toInt - a1.toInt := h8707
    refine g_iload_n C dX8_walk_39 rfl 2 rfl ?_
    refine g_callVV (rest := []) C mv_X8_80 [.int z8706, .int a2] (s_X8_addAllWith I ha0 (by omega) (by omega)) (ha0).1 (ha0).2 rfl rfl (by decide) (Nat.le_of_ble_eq_true rfl) (by decide) dX8_walk_40 (fun Y8709 h8710 => ?_)
    obtain ⟨Iy8711, Xy8712⟩ := h8710
    have q8713 := Xy8712.keep ha0 (by decide) 4
    have Xz8714 : EK [13] P Y8709 := Xy8712.mono (by decide)
    have h8715 := Xy8712.at ha0
    exact ret _ _ _ _ _ dX8_walk_43 (by decide) (by decide) ⟨Iy8711, Xz8714⟩
  refine g_aload_n C dX8_walk_0 rfl 0 rfl ?_
  refine g_getI C fi_X8_42 (by decide) (ha0).1 (ha0).2 dX8_walk_1 ?_
  have u8717 := ti_rng (pI P a0 5)
  refine b_if_ne C 18 dX8_walk_4 (by decide) (fun h8716 => ?_) (fun h8716 => ?_)
  · have h8716 : (pI P a0 5).toInt ≠ 0 := ti_ne h8716
    refine g_aload_n C dX8_walk_18 rfl 0 rfl ?_
    obtain ⟨b8718, e8719, h8720⟩ := I.fld (ha0) 3 0 0 rfl
    refine g_getR C fi_X8_28 rfl e8719 (ha0).1 (ha0).2 dX8_walk_19 ?_
    refine g_getI C fi_X8_77 (by decide) (h8720.at).1 (h8720.at).2 dX8_walk_22 ?_
    have h8721 := I.rg (h8720.at) 2 rfl
    refine g_aload_n C dX8_walk_25 rfl 0 rfl ?_
    refine g_getI C fi_X8_51 (by decide) (ha0).1 (ha0).2 dX8_walk_26 ?_
    have h8722 := I.rg (ha0) 6 rfl
    refine b_icmp_ne C 44 dX8_walk_29 (by decide) (fun h8723 => ?_) (fun h8723 => ?_)
    · have h8723 : (pI P b8718 2).toInt ≠ (pI P a0 6).toInt := ti_ne h8723
      exact J44 
    · have h8723 : (pI P b8718 2).toInt = (pI P a0 6).toInt := congrArg Int32.toInt h8723
      refine g_lv (lv' := [(0, .ref a0), (1, .int a1), (2, .int a2)]) [0, 1, 2] rfl ?_
      exact J32 
  · have h8716 : (pI P a0 5).toInt = 0 := congrArg Int32.toInt h8716
    refine g_iload_n C dX8_walk_7 rfl 3 rfl ?_
    refine g_aload_n C dX8_walk_8 rfl 0 rfl ?_
    refine g_getI C fi_X8_56 (by decide) (ha0).1 (ha0).2 dX8_walk_9 ?_
    have u8725 := ti_rng a3
    have u8726 := ti_rng (pI P a0 7)
    refine b_icmp_ne C 44 dX8_walk_12 (by decide) (fun h8724 => ?_) (fun h8724 => ?_)
    · have h8724 : a3.toInt ≠ (pI P a0 7).toInt := ti_ne h8724
      exact J44 
    · have h8724 : a3.toInt = (pI P a0 7).toInt := congrArg Int32.toInt h8724
      refine g_goto C 32 dX8_walk_15 (by decide) ?_
      refine g_lv (lv' := [(0, .ref a0), (1, .int a1), (2, .int a2)]) [0, 1, 2] rfl ?_
      exact J32 
theorem dX8_walk_181 : decode cX8_walk 181 = .ok (.return_, 1) := by decide +kernel
set_option maxHeartbeats 4000000 in
set_option maxRecDepth 100000 in
theorem s_X8_walk_L1 {P : PP} {a0 : Nat} {a1 : Int32} {a2 : Int32} {a3 : Int32} (I : IV P) (ha0 : At P a0 8) (ha1 : 10 ≤ a1.toInt ∧ a1.toInt ≤ 10) (ha2 : 0 ≤ a2.toInt ∧ a2.toInt ≤ 10) : CtrV yX8_walk cX8_walk 6 none ({ frames := 4, cells := 0, slots := 0, locals := 256 } : Room) 0 0 P [.ref a0, .int a1, .int a2, .int a3] (fun P2 => IV P2 ∧ EK [0, 5, 13] P P2) := by
  refine enV (lv := [(0, .ref a0), (1, .int a1), (2, .int a2), (3, .int a3)]) (by decide) (Nat.le_of_ble_eq_true rfl) rfl (fun E D cy C Ci0 ret => ?_)
  have J160 : ∀ (P160 : PP) (v160_4 : Int32) (v160_5 : Int32) (v160_s0 : Int32) (v160_s1 : Int32) (v160_s2 : Int32), (IV P160) → (EK [0, 5, 13] P P160) → (0 ≤ v160_4.toInt ∧ v160_4.toInt ≤ 20) → (0 ≤ v160_5.toInt ∧ v160_5.toInt ≤ 44) → (1 ≤ v160_s1.toInt ∧ v160_s1.toInt ≤ 11) → (11 ≤ v160_s2.toInt ∧ v160_s2.toInt ≤ 11) → (11 ≤ (pI P160 a0 4).toInt ∧ (pI P160 a0 4).toInt ≤ 11) → G E ({ frames := 4, cells := 0, slots := 0, locals := 256 } : Room) D cy 6 P160 0 0 160 [(0, .ref a0), (4, .int v160_4), (5, .int v160_5)] [.int v160_s0, .int v160_s1, .int v160_s2, .ref a0] := by
    intro P160 v160_4 v160_5 v160_s0 v160_s1 v160_s2 I160 X160 hv160_4 hv160_5 hv160_s1 hv160_s2 hq160_0
    have h9499 := X160.at ha0
    refine g_callVV (rest := []) C mv_X8_73 [.int v160_s2, .int v160_s1, .int v160_s0] (s_X8_walk_L0 I160 h9499 (by omega) (by omega)) (h9499).1 (h9499).2 rfl rfl (by decide) (Nat.le_of_ble_eq_true rfl) (by decide) dX8_walk_160 (fun Y9501 h9502 => ?_)
    obtain ⟨Iy9503, Xy9504⟩ := h9502
    have q9505 := Xy9504.keep h9499 (by decide) 4
    have Xz9506 : EK [0, 5, 13] P Y9501 := X160.tr (Xy9504.mono (by decide))
    have h9507 := Xy9504.at h9499
    refine g_aload_n C dX8_walk_163 rfl 0 rfl ?_
    obtain ⟨b9508, e9509, h9510⟩ := Iy9503.fld (h9507) 3 0 0 rfl
    refine g_getR C fi_X8_28 rfl e9509 (h9507).1 (h9507).2 dX8_walk_164 ?_
    refine g_iload C dX8_walk_167 1 rfl ?_
    refine g_callVV (rest := []) C mv_X8_96 [.int v160_4] (s_X0_cut Iy9503 h9510.at) (h9510.at).1 (h9510.at).2 rfl rfl (by decide) (Nat.le_of_ble_eq_true rfl) (by decide) dX8_walk_169 (fun Y9512 h9513 => ?_)
    obtain ⟨Iy9514, Xy9515⟩ := h9513
    have q9516 := Xy9515.keep h9507 (by decide) 4
    have Xz9517 : EK [0, 5, 13] P Y9512 := Xz9506.tr (Xy9515.mono (by decide))
    have h9518 := Xy9515.at h9507
    refine g_aload_n C dX8_walk_172 rfl 0 rfl ?_
    obtain ⟨b9519, e9520, h9521⟩ := Iy9514.fld (h9518) 2 5 0 rfl
    refine g_getR C fi_X8_21 rfl e9520 (h9518).1 (h9518).2 dX8_walk_173 ?_
    refine g_iload C dX8_walk_176 2 rfl ?_
    refine g_callVV (rest := []) C mv_X8_99 [.int v160_5] (s_X5_cut Iy9514 h9521.at) (h9521.at).1 (h9521.at).2 rfl rfl (by decide) (Nat.le_of_ble_eq_true rfl) (by decide) dX8_walk_178 (fun Y9523 h9524 => ?_)
    obtain ⟨Iy9525, Xy9526⟩ := h9524
    have q9527 := Xy9526.keep h9518 (by decide) 4
    have Xz9528 : EK [0, 5, 13] P Y9523 := Xz9517.tr (Xy9526.mono (by decide))
    have h9529 := Xy9526.at h9518
    exact ret _ _ _ _ _ dX8_walk_181 (by decide) (by decide) ⟨Iy9525, Xz9528⟩
  have J44 : G E ({ frames := 4, cells := 0, slots := 0, locals := 256 } : Room) D cy 6 P 0 0 44 [(0, .ref a0), (1, .int a1), (2, .int a2), (3, .int a3)] [] := by
    refine g_iload_n C dX8_walk_44 rfl 1 rfl ?_
    refine g_aload_n C dX8_walk_45 rfl 0 rfl ?_
    refine g_getI C fi_X8_38 (by decide) (ha0).1 (ha0).2 dX8_walk_46 ?_
    have h9530 := I.rg (ha0) 4 rfl
    refine b_icmp_ge C 79 dX8_walk_49 (by decide) (fun h9531 => ?_) (fun h9531 => ?_)
    · have h9531 : (pI P a0 4).toInt ≤ a1.toInt := h9531
      exact ret _ _ _ _ _ dX8_walk_79 (by decide) (by decide) ⟨I, EK.rf⟩
    · have h9531 : a1.toInt < (pI P a0 4).toInt := h9531
      refine g_iload_n C dX8_walk_52 rfl 1 rfl ?_
      refine g_bipush (v := 11) C dX8_walk_53 (by decide) ?_
      refine b_icmp_ge C 79 dX8_walk_55 (by decide) (fun h9532 => ?_) (fun h9532 => ?_)
      · have h9532 : 11 ≤ a1.toInt := h9532
        omega
      · have h9532 : a1.toInt < 11 := h9532
        refine g_aload_n C dX8_walk_58 rfl 0 rfl ?_
        obtain ⟨b9533, e9534, h9535⟩ := I.fld (ha0) 3 0 0 rfl
        refine g_getR C fi_X8_28 rfl e9534 (ha0).1 (ha0).2 dX8_walk_59 ?_
        refine g_getI C fi_X8_77 (by decide) (h9535.at).1 (h9535.at).2 dX8_walk_62 ?_
        have h9536 := I.rg (h9535.at) 2 rfl
        refine g_aload_n C dX8_walk_65 rfl 0 rfl ?_
        refine g_getI C fi_X8_38 (by decide) (ha0).1 (ha0).2 dX8_walk_66 ?_
        refine s_iadd C dX8_walk_69 (by show -2147483648 ≤ (pI P b9533 2).toInt + (pI P a0 4).toInt ∧ (pI P b9533 2).toInt + (pI P a0 4).toInt ≤ 2147483647; omega) (fun z9537 h9538 => ?_)
        have h9538 : z9537.toInt = (pI P b9533 2).toInt + (pI P a0 4).toInt := h9538
        refine g_iload_n C dX8_walk_70 rfl 1 rfl ?_
        refine s_isub C dX8_walk_71 (by show -2147483648 ≤ z9537.toInt - a1.toInt ∧ z9537.toInt - a1.toInt ≤ 2147483647; omega) (fun z9539 h9540 => ?_)
        have h9540 : z9539.toInt = z9537.toInt - a1.toInt := h9540
        refine g_aload_n C dX8_walk_72 rfl 0 rfl ?_
        refine g_getI C fi_X8_51 (by decide) (ha0).1 (ha0).2 dX8_walk_73 ?_
        have h9541 := I.rg (ha0) 6 rfl
        refine b_icmp_ge C 80 dX8_walk_76 (by decide) (fun h9542 => ?_) (fun h9542 => ?_)
        · have h9542 : (pI P a0 6).toInt ≤ z9539.toInt := h9542
          refine g_aload_n C dX8_walk_80 rfl 0 rfl ?_
          refine g_iload_n C dX8_walk_81 rfl 1 rfl ?_
          refine g_iconst (v := 1) C dX8_walk_82 (by decide) ?_
          refine s_iadd C dX8_walk_83 (by show -2147483648 ≤ a1.toInt + 1 ∧ a1.toInt + 1 ≤ 2147483647; omega) (fun z9543 h9544 => ?_)
          have h9544 : z9543.toInt = a1.toInt + 1 := h9544
          refine g_iload_n C dX8_walk_84 rfl 2 rfl ?_
          refine g_iload_n C dX8_walk_85 rfl 3 rfl ?_
          refine g_callVV (rest := []) C mv_X8_73 [.int z9543, .int a2, .int a3] (s_X8_walk_L0 I ha0 (by omega) (by omega)) (ha0).1 (ha0).2 rfl rfl (by decide) (Nat.le_of_ble_eq_true rfl) (by decide) dX8_walk_86 (fun Y9546 h9547 => ?_)
          obtain ⟨Iy9548, Xy9549⟩ := h9547
          have q9550 := Xy9549.keep ha0 (by decide) 4
          have q9551 := Xy9549.keep (h9535.at) (by decide) 2
          have q9552 := Xy9549.keep ha0 (by decide) 6
          have Xz9553 : EK [0, 5, 13] P Y9546 := Xy9549.mono (by decide)
          have h9554 := Xy9549.at ha0
          refine g_aload_n C dX8_walk_89 rfl 0 rfl ?_
          obtain ⟨b9555, e9556, h9557⟩ := Iy9548.fld (h9554) 3 0 0 rfl
          refine g_getR C fi_X8_28 rfl e9556 (h9554).1 (h9554).2 dX8_walk_90 ?_
          refine g_getI C fi_X8_77 (by decide) (h9557.at).1 (h9557.at).2 dX8_walk_93 ?_
          have h9558 := Iy9548.rg (h9557.at) 2 rfl
          refine g_topi (fun z9559 h9560 => ?_)
          have h9560 : z9559.toInt = (pI Y9546 b9555 2).toInt := congrArg Int32.toInt h9560
          refine g_istore (lv' := [(4, .int z9559), (0, .ref a0), (1, .int a1), (2, .int a2), (3, .int a3)]) C dX8_walk_96 (by decide) rfl ?_
          refine g_aload_n C dX8_walk_98 rfl 1 rfl ?_
          obtain ⟨b9561, e9562, h9563⟩ := Iy9548.fld (h9554) 2 5 0 rfl
          refine g_getR C fi_X8_21 rfl e9562 (h9554).1 (h9554).2 dX8_walk_99 ?_
          refine g_getI C fi_X8_84 (by decide) (h9563.at).1 (h9563.at).2 dX8_walk_102 ?_
          have h9564 := Iy9548.rg (h9563.at) 4 rfl
          refine g_topi (fun z9565 h9566 => ?_)
          have h9566 : z9565.toInt = (pI Y9546 b9561 4).toInt := congrArg Int32.toInt h9566
          refine g_istore (lv' := [(5, .int z9565), (4, .int z9559), (0, .ref a0), (1, .int a1), (2, .int a2), (3, .int a3)]) C dX8_walk_105 (by decide) rfl ?_
          refine g_aload_n C dX8_walk_107 rfl 2 rfl ?_
          refine g_getR C fi_X8_28 rfl e9556 (h9554).1 (h9554).2 dX8_walk_108 ?_
          refine g_aload_n C dX8_walk_111 rfl 2 rfl ?_
          obtain ⟨b9567, e9568, h9569⟩ := Iy9548.fld (h9554) 1 13 11 rfl
          refine g_getR C fi_X8_15 rfl e9568 (h9554).1 (h9554).2 dX8_walk_112 ?_
          refine g_iload_n C dX8_walk_115 rfl 3 rfl ?_
          refine g_iald (j := (a1.toInt.toNat)) C h9569.1 h9569.2.1 (ix_in h9569.2.2 (by omega)) dX8_walk_116 ?_
          refine g_topi (fun z9570 _ => ?_)
          refine g_callVV (rest := []) C mv_X8_87 [.int z9570] (s_X0_add Iy9548 h9557.at) (h9557.at).1 (h9557.at).2 rfl rfl (by decide) (Nat.le_of_ble_eq_true rfl) (by decide) dX8_walk_117 (fun Y9572 h9573 => ?_)
          obtain ⟨Iy9574, Xy9575⟩ := h9573
          have q9576 := Xy9575.keep h9554 (by decide) 4
          have q9577 := Xy9575.keep h9554 (by decide) 6
          have q9578 := Xy9575.keep (h9563.at) (by decide) 4
          have Xz9579 : EK [0, 5, 13] P Y9572 := Xz9553.tr (Xy9575.mono (by decide))
          have h9580 := Xy9575.at h9554
          refine g_aload_n C dX8_walk_120 rfl 2 rfl ?_
          obtain ⟨b9581, e9582, h9583⟩ := Iy9574.fld (h9580) 2 5 0 rfl
          refine g_getR C fi_X8_21 rfl e9582 (h9580).1 (h9580).2 dX8_walk_121 ?_
          refine g_aload_n C dX8_walk_124 rfl 2 rfl ?_
          obtain ⟨b9584, e9585, h9586⟩ := Iy9574.fld (h9580) 1 13 11 rfl
          refine g_getR C fi_X8_15 rfl e9585 (h9580).1 (h9580).2 dX8_walk_125 ?_
          refine g_iload_n C dX8_walk_128 rfl 3 rfl ?_
          refine g_iald (j := (a1.toInt.toNat)) C h9586.1 h9586.2.1 (ix_in h9586.2.2 (by omega)) dX8_walk_129 ?_
          refine g_topi (fun z9587 _ => ?_)
          refine g_iload_n C dX8_walk_130 rfl 3 rfl ?_
          refine g_callVV (rest := []) C mv_X8_91 [.int z9587, .int a1] (s_X5_add Iy9574 h9583.at) (h9583.at).1 (h9583.at).2 rfl rfl (by decide) (Nat.le_of_ble_eq_true rfl) (by decide) dX8_walk_131 (fun Y9589 h9590 => ?_)
          obtain ⟨Iy9591, Xy9592⟩ := h9590
          have q9593 := Xy9592.keep h9580 (by decide) 4
          have q9594 := Xy9592.keep h9580 (by decide) 6
          have Xz9595 : EK [0, 5, 13] P Y9589 := Xz9579.tr (Xy9592.mono (by decide))
          have h9596 := Xy9592.at h9580
          refine g_aload_n C dX8_walk_134 rfl 2 rfl ?_
          refine g_iload_n C dX8_walk_135 rfl 3 rfl ?_
          refine g_iconst (v := 1) C dX8_walk_136 (by decide) ?_
          refine s_iadd C dX8_walk_137 (by show -2147483648 ≤ a1.toInt + 1 ∧ a1.toInt + 1 ≤ 2147483647; omega) (fun z9597 h9598 => ?_)
          have h9598 : z9597.toInt = a1.toInt + 1 := h9598
          refine g_iload_n C dX8_walk_138 rfl 4 rfl ?_
          refine g_iconst (v := 1) C dX8_walk_139 (by decide) ?_
          refine s_iadd C dX8_walk_140 (by show -2147483648 ≤ a2.toInt + 1 ∧ a2.toInt + 1 ≤ 2147483647; omega) (fun z9599 h9600 => ?_)
          have h9600 : z9599.toInt = a2.toInt + 1 := h9600
          refine g_aload_n C dX8_walk_141 rfl 2 rfl ?_
          refine g_getI C fi_X8_42 (by decide) (h9596).1 (h9596).2 dX8_walk_142 ?_
          have u9602 := ti_rng (pI Y9589 a0 5)
          refine b_if_ne C 159 dX8_walk_145 (by decide) (fun h9601 => ?_) (fun h9601 => ?_)
          · have h9601 : (pI Y9589 a0 5).toInt ≠ 0 := ti_ne h9601
            refine g_iload_n C dX8_walk_159 rfl 5 rfl ?_
            refine g_lv (lv' := [(0, .ref a0), (4, .int z9559), (5, .int z9565)]) [2, 1, 0] rfl ?_
            exact J160 Y9589 z9559 z9565 a3 z9599 z9597 Iy9591 Xz9595 (by omega) (by omega) (by omega) (by omega) (by omega)
          · have h9601 : (pI Y9589 a0 5).toInt = 0 := congrArg Int32.toInt h9601
            refine g_aload_n C dX8_walk_148 rfl 2 rfl ?_
            obtain ⟨b9603, e9604, h9605⟩ := Iy9591.fld (h9596) 2 5 0 rfl
            refine g_getR C fi_X8_21 rfl e9604 (h9596).1 (h9596).2 dX8_walk_149 ?_
            refine g_iload_n C dX8_walk_152 rfl 5 rfl ?_
            refine g_callVI (rest := [.int z9599, .int z9597, .ref a0]) C mv_X8_93 [.int a3] (s_X5_spread Iy9591 h9605.at) (h9605.at).1 (h9605.at).2 rfl rfl (by decide) (Nat.le_of_ble_eq_true rfl) (by decide) dX8_walk_153 (fun r9606 Y9607 h9608 => ?_)
            obtain ⟨rfl, h9608⟩ := h9608
            have h9608 : True := h9608
            refine g_goto C 160 dX8_walk_156 (by decide) ?_
            refine g_lv (lv' := [(0, .ref a0), (4, .int z9559), (5, .int z9565)]) [2, 1, 0] rfl ?_
            exact J160 Y9589 z9559 z9565 r9606 z9599 z9597 Iy9591 Xz9595 (by omega) (by omega) (by omega) (by omega) (by omega)
        · have h9542 : z9539.toInt < (pI P a0 6).toInt := h9542
          exact ret _ _ _ _ _ dX8_walk_79 (by decide) (by decide) ⟨I, EK.rf⟩
  have J32 : G E ({ frames := 4, cells := 0, slots := 0, locals := 256 } : Room) D cy 6 P 0 0 32 [(0, .ref a0), (1, .int a1), (2, .int a2)] [] := by
    refine g_aload_n C dX8_walk_32 rfl 0 rfl ?_
    refine g_aload_n C dX8_walk_33 rfl 0 rfl ?_
    refine g_getI C fi_X8_38 (by decide) (ha0).1 (ha0).2 dX8_walk_34 ?_
    have h9609 := I.rg (ha0) 4 rfl
    refine g_iload_n C dX8_walk_37 rfl 1 rfl ?_
    refine s_isub C dX8_walk_38 (by show -2147483648 ≤ (pI P a0 4).toInt - a1.toInt ∧ (pI P a0 4).toInt - a1.toInt ≤ 2147483647; omega) (fun z9610 h9611 => ?_)
    have h9611 : z9610.toInt = (pI P a0 4).toInt - a1.toInt := h9611
    refine g_iload_n C dX8_walk_39 rfl 2 rfl ?_
    refine g_callVV (rest := []) C mv_X8_80 [.int z9610, .int a2] (s_X8_addAllWith I ha0 (by omega) (by omega)) (ha0).1 (ha0).2 rfl rfl (by decide) (Nat.le_of_ble_eq_true rfl) (by decide) dX8_walk_40 (fun Y9613 h9614 => ?_)
    obtain ⟨Iy9615, Xy9616⟩ := h9614
    have q9617 := Xy9616.keep ha0 (by decide) 4
    have Xz9618 : EK [0, 5, 13] P Y9613 := Xy9616.mono (by decide)
    have h9619 := Xy9616.at ha0
    exact ret _ _ _ _ _ dX8_walk_43 (by decide) (by decide) ⟨Iy9615, Xz9618⟩
  refine g_aload_n C dX8_walk_0 rfl 0 rfl ?_
  refine g_getI C fi_X8_42 (by decide) (ha0).1 (ha0).2 dX8_walk_1 ?_
  have u9621 := ti_rng (pI P a0 5)
  refine b_if_ne C 18 dX8_walk_4 (by decide) (fun h9620 => ?_) (fun h9620 => ?_)
  · have h9620 : (pI P a0 5).toInt ≠ 0 := ti_ne h9620
    refine g_aload_n C dX8_walk_18 rfl 0 rfl ?_
    obtain ⟨b9622, e9623, h9624⟩ := I.fld (ha0) 3 0 0 rfl
    refine g_getR C fi_X8_28 rfl e9623 (ha0).1 (ha0).2 dX8_walk_19 ?_
    refine g_getI C fi_X8_77 (by decide) (h9624.at).1 (h9624.at).2 dX8_walk_22 ?_
    have h9625 := I.rg (h9624.at) 2 rfl
    refine g_aload_n C dX8_walk_25 rfl 0 rfl ?_
    refine g_getI C fi_X8_51 (by decide) (ha0).1 (ha0).2 dX8_walk_26 ?_
    have h9626 := I.rg (ha0) 6 rfl
    refine b_icmp_ne C 44 dX8_walk_29 (by decide) (fun h9627 => ?_) (fun h9627 => ?_)
    · have h9627 : (pI P b9622 2).toInt ≠ (pI P a0 6).toInt := ti_ne h9627
      exact J44 
    · have h9627 : (pI P b9622 2).toInt = (pI P a0 6).toInt := congrArg Int32.toInt h9627
      refine g_lv (lv' := [(0, .ref a0), (1, .int a1), (2, .int a2)]) [0, 1, 2] rfl ?_
      exact J32 
  · have h9620 : (pI P a0 5).toInt = 0 := congrArg Int32.toInt h9620
    refine g_iload_n C dX8_walk_7 rfl 3 rfl ?_
    refine g_aload_n C dX8_walk_8 rfl 0 rfl ?_
    refine g_getI C fi_X8_56 (by decide) (ha0).1 (ha0).2 dX8_walk_9 ?_
    have u9629 := ti_rng a3
    have u9630 := ti_rng (pI P a0 7)
    refine b_icmp_ne C 44 dX8_walk_12 (by decide) (fun h9628 => ?_) (fun h9628 => ?_)
    · have h9628 : a3.toInt ≠ (pI P a0 7).toInt := ti_ne h9628
      exact J44 
    · have h9628 : a3.toInt = (pI P a0 7).toInt := congrArg Int32.toInt h9628
      refine g_goto C 32 dX8_walk_15 (by decide) ?_
      refine g_lv (lv' := [(0, .ref a0), (1, .int a1), (2, .int a2)]) [0, 1, 2] rfl ?_
      exact J32 
set_option maxHeartbeats 4000000 in
set_option maxRecDepth 100000 in
theorem s_X8_walk_L2 {P : PP} {a0 : Nat} {a1 : Int32} {a2 : Int32} {a3 : Int32} (I : IV P) (ha0 : At P a0 8) (ha1 : 9 ≤ a1.toInt ∧ a1.toInt ≤ 9) (ha2 : 0 ≤ a2.toInt ∧ a2.toInt ≤ 9) : CtrV yX8_walk cX8_walk 6 none ({ frames := 5, cells := 0, slots := 0, locals := 320 } : Room) 0 0 P [.ref a0, .int a1, .int a2, .int a3] (fun P2 => IV P2 ∧ EK [0, 5, 13] P P2) := by
  refine enV (lv := [(0, .ref a0), (1, .int a1), (2, .int a2), (3, .int a3)]) (by decide) (Nat.le_of_ble_eq_true rfl) rfl (fun E D cy C Ci0 ret => ?_)
  have J160 : ∀ (P160 : PP) (v160_4 : Int32) (v160_5 : Int32) (v160_s0 : Int32) (v160_s1 : Int32) (v160_s2 : Int32), (IV P160) → (EK [0, 5, 13] P P160) → (0 ≤ v160_4.toInt ∧ v160_4.toInt ≤ 20) → (0 ≤ v160_5.toInt ∧ v160_5.toInt ≤ 44) → (1 ≤ v160_s1.toInt ∧ v160_s1.toInt ≤ 10) → (10 ≤ v160_s2.toInt ∧ v160_s2.toInt ≤ 10) → (10 ≤ (pI P160 a0 4).toInt ∧ (pI P160 a0 4).toInt ≤ 11) → G E ({ frames := 5, cells := 0, slots := 0, locals := 320 } : Room) D cy 6 P160 0 0 160 [(0, .ref a0), (4, .int v160_4), (5, .int v160_5)] [.int v160_s0, .int v160_s1, .int v160_s2, .ref a0] := by
    intro P160 v160_4 v160_5 v160_s0 v160_s1 v160_s2 I160 X160 hv160_4 hv160_5 hv160_s1 hv160_s2 hq160_0
    have h9762 := X160.at ha0
    refine g_callVV (rest := []) C mv_X8_73 [.int v160_s2, .int v160_s1, .int v160_s0] (s_X8_walk_L1 I160 h9762 (by omega) (by omega)) (h9762).1 (h9762).2 rfl rfl (by decide) (Nat.le_of_ble_eq_true rfl) (by decide) dX8_walk_160 (fun Y9764 h9765 => ?_)
    obtain ⟨Iy9766, Xy9767⟩ := h9765
    have q9768 := Xy9767.keep h9762 (by decide) 4
    have Xz9769 : EK [0, 5, 13] P Y9764 := X160.tr (Xy9767.mono (by decide))
    have h9770 := Xy9767.at h9762
    refine g_aload_n C dX8_walk_163 rfl 0 rfl ?_
    obtain ⟨b9771, e9772, h9773⟩ := Iy9766.fld (h9770) 3 0 0 rfl
    refine g_getR C fi_X8_28 rfl e9772 (h9770).1 (h9770).2 dX8_walk_164 ?_
    refine g_iload C dX8_walk_167 1 rfl ?_
    refine g_callVV (rest := []) C mv_X8_96 [.int v160_4] (s_X0_cut Iy9766 h9773.at) (h9773.at).1 (h9773.at).2 rfl rfl (by decide) (Nat.le_of_ble_eq_true rfl) (by decide) dX8_walk_169 (fun Y9775 h9776 => ?_)
    obtain ⟨Iy9777, Xy9778⟩ := h9776
    have q9779 := Xy9778.keep h9770 (by decide) 4
    have Xz9780 : EK [0, 5, 13] P Y9775 := Xz9769.tr (Xy9778.mono (by decide))
    have h9781 := Xy9778.at h9770
    refine g_aload_n C dX8_walk_172 rfl 0 rfl ?_
    obtain ⟨b9782, e9783, h9784⟩ := Iy9777.fld (h9781) 2 5 0 rfl
    refine g_getR C fi_X8_21 rfl e9783 (h9781).1 (h9781).2 dX8_walk_173 ?_
    refine g_iload C dX8_walk_176 2 rfl ?_
    refine g_callVV (rest := []) C mv_X8_99 [.int v160_5] (s_X5_cut Iy9777 h9784.at) (h9784.at).1 (h9784.at).2 rfl rfl (by decide) (Nat.le_of_ble_eq_true rfl) (by decide) dX8_walk_178 (fun Y9786 h9787 => ?_)
    obtain ⟨Iy9788, Xy9789⟩ := h9787
    have q9790 := Xy9789.keep h9781 (by decide) 4
    have Xz9791 : EK [0, 5, 13] P Y9786 := Xz9780.tr (Xy9789.mono (by decide))
    have h9792 := Xy9789.at h9781
    exact ret _ _ _ _ _ dX8_walk_181 (by decide) (by decide) ⟨Iy9788, Xz9791⟩
  have J44 : G E ({ frames := 5, cells := 0, slots := 0, locals := 320 } : Room) D cy 6 P 0 0 44 [(0, .ref a0), (1, .int a1), (2, .int a2), (3, .int a3)] [] := by
    refine g_iload_n C dX8_walk_44 rfl 1 rfl ?_
    refine g_aload_n C dX8_walk_45 rfl 0 rfl ?_
    refine g_getI C fi_X8_38 (by decide) (ha0).1 (ha0).2 dX8_walk_46 ?_
    have h9793 := I.rg (ha0) 4 rfl
    refine b_icmp_ge C 79 dX8_walk_49 (by decide) (fun h9794 => ?_) (fun h9794 => ?_)
    · have h9794 : (pI P a0 4).toInt ≤ a1.toInt := h9794
      exact ret _ _ _ _ _ dX8_walk_79 (by decide) (by decide) ⟨I, EK.rf⟩
    · have h9794 : a1.toInt < (pI P a0 4).toInt := h9794
      refine g_iload_n C dX8_walk_52 rfl 1 rfl ?_
      refine g_bipush (v := 11) C dX8_walk_53 (by decide) ?_
      refine b_icmp_ge C 79 dX8_walk_55 (by decide) (fun h9795 => ?_) (fun h9795 => ?_)
      · have h9795 : 11 ≤ a1.toInt := h9795
        omega
      · have h9795 : a1.toInt < 11 := h9795
        refine g_aload_n C dX8_walk_58 rfl 0 rfl ?_
        obtain ⟨b9796, e9797, h9798⟩ := I.fld (ha0) 3 0 0 rfl
        refine g_getR C fi_X8_28 rfl e9797 (ha0).1 (ha0).2 dX8_walk_59 ?_
        refine g_getI C fi_X8_77 (by decide) (h9798.at).1 (h9798.at).2 dX8_walk_62 ?_
        have h9799 := I.rg (h9798.at) 2 rfl
        refine g_aload_n C dX8_walk_65 rfl 0 rfl ?_
        refine g_getI C fi_X8_38 (by decide) (ha0).1 (ha0).2 dX8_walk_66 ?_
        refine s_iadd C dX8_walk_69 (by show -2147483648 ≤ (pI P b9796 2).toInt + (pI P a0 4).toInt ∧ (pI P b9796 2).toInt + (pI P a0 4).toInt ≤ 2147483647; omega) (fun z9800 h9801 => ?_)
        have h9801 : z9800.toInt = (pI P b9796 2).toInt + (pI P a0 4).toInt := h9801
        refine g_iload_n C dX8_walk_70 rfl 1 rfl ?_
        refine s_isub C dX8_walk_71 (by show -2147483648 ≤ z9800.toInt - a1.toInt ∧ z9800.toInt - a1.toInt ≤ 2147483647; omega) (fun z9802 h9803 => ?_)
        have h9803 : z9802.toInt = z9800.toInt - a1.toInt := h9803
        refine g_aload_n C dX8_walk_72 rfl 0 rfl ?_
        refine g_getI C fi_X8_51 (by decide) (ha0).1 (ha0).2 dX8_walk_73 ?_
        have h9804 := I.rg (ha0) 6 rfl
        refine b_icmp_ge C 80 dX8_walk_76 (by decide) (fun h9805 => ?_) (fun h9805 => ?_)
        · have h9805 : (pI P a0 6).toInt ≤ z9802.toInt := h9805
          refine g_aload_n C dX8_walk_80 rfl 0 rfl ?_
          refine g_iload_n C dX8_walk_81 rfl 1 rfl ?_
          refine g_iconst (v := 1) C dX8_walk_82 (by decide) ?_
          refine s_iadd C dX8_walk_83 (by show -2147483648 ≤ a1.toInt + 1 ∧ a1.toInt + 1 ≤ 2147483647; omega) (fun z9806 h9807 => ?_)
          have h9807 : z9806.toInt = a1.toInt + 1 := h9807
          refine g_iload_n C dX8_walk_84 rfl 2 rfl ?_
          refine g_iload_n C dX8_walk_85 rfl 3 rfl ?_
          refine g_callVV (rest := []) C mv_X8_73 [.int z9806, .int a2, .int a3] (s_X8_walk_L1 I ha0 (by omega) (by omega)) (ha0).1 (ha0).2 rfl rfl (by decide) (Nat.le_of_ble_eq_true rfl) (by decide) dX8_walk_86 (fun Y9809 h9810 => ?_)
          obtain ⟨Iy9811, Xy9812⟩ := h9810
          have q9813 := Xy9812.keep ha0 (by decide) 4
          have q9814 := Xy9812.keep ha0 (by decide) 6
          have Xz9815 : EK [0, 5, 13] P Y9809 := Xy9812.mono (by decide)
          have h9816 := Xy9812.at ha0
          refine g_aload_n C dX8_walk_89 rfl 0 rfl ?_
          obtain ⟨b9817, e9818, h9819⟩ := Iy9811.fld (h9816) 3 0 0 rfl
          refine g_getR C fi_X8_28 rfl e9818 (h9816).1 (h9816).2 dX8_walk_90 ?_
          refine g_getI C fi_X8_77 (by decide) (h9819.at).1 (h9819.at).2 dX8_walk_93 ?_
          have h9820 := Iy9811.rg (h9819.at) 2 rfl
          refine g_topi (fun z9821 h9822 => ?_)
          have h9822 : z9821.toInt = (pI Y9809 b9817 2).toInt := congrArg Int32.toInt h9822
          refine g_istore (lv' := [(4, .int z9821), (0, .ref a0), (1, .int a1), (2, .int a2), (3, .int a3)]) C dX8_walk_96 (by decide) rfl ?_
          refine g_aload_n C dX8_walk_98 rfl 1 rfl ?_
          obtain ⟨b9823, e9824, h9825⟩ := Iy9811.fld (h9816) 2 5 0 rfl
          refine g_getR C fi_X8_21 rfl e9824 (h9816).1 (h9816).2 dX8_walk_99 ?_
          refine g_getI C fi_X8_84 (by decide) (h9825.at).1 (h9825.at).2 dX8_walk_102 ?_
          have h9826 := Iy9811.rg (h9825.at) 4 rfl
          refine g_topi (fun z9827 h9828 => ?_)
          have h9828 : z9827.toInt = (pI Y9809 b9823 4).toInt := congrArg Int32.toInt h9828
          refine g_istore (lv' := [(5, .int z9827), (4, .int z9821), (0, .ref a0), (1, .int a1), (2, .int a2), (3, .int a3)]) C dX8_walk_105 (by decide) rfl ?_
          refine g_aload_n C dX8_walk_107 rfl 2 rfl ?_
          refine g_getR C fi_X8_28 rfl e9818 (h9816).1 (h9816).2 dX8_walk_108 ?_
          refine g_aload_n C dX8_walk_111 rfl 2 rfl ?_
          obtain ⟨b9829, e9830, h9831⟩ := Iy9811.fld (h9816) 1 13 11 rfl
          refine g_getR C fi_X8_15 rfl e9830 (h9816).1 (h9816).2 dX8_walk_112 ?_
          refine g_iload_n C dX8_walk_115 rfl 3 rfl ?_
          refine g_iald (j := (a1.toInt.toNat)) C h9831.1 h9831.2.1 (ix_in h9831.2.2 (by omega)) dX8_walk_116 ?_
          refine g_topi (fun z9832 _ => ?_)
          refine g_callVV (rest := []) C mv_X8_87 [.int z9832] (s_X0_add Iy9811 h9819.at) (h9819.at).1 (h9819.at).2 rfl rfl (by decide) (Nat.le_of_ble_eq_true rfl) (by decide) dX8_walk_117 (fun Y9834 h9835 => ?_)
          obtain ⟨Iy9836, Xy9837⟩ := h9835
          have q9838 := Xy9837.keep h9816 (by decide) 4
          have q9839 := Xy9837.keep h9816 (by decide) 6
          have q9840 := Xy9837.keep (h9825.at) (by decide) 4
          have Xz9841 : EK [0, 5, 13] P Y9834 := Xz9815.tr (Xy9837.mono (by decide))
          have h9842 := Xy9837.at h9816
          refine g_aload_n C dX8_walk_120 rfl 2 rfl ?_
          obtain ⟨b9843, e9844, h9845⟩ := Iy9836.fld (h9842) 2 5 0 rfl
          refine g_getR C fi_X8_21 rfl e9844 (h9842).1 (h9842).2 dX8_walk_121 ?_
          refine g_aload_n C dX8_walk_124 rfl 2 rfl ?_
          obtain ⟨b9846, e9847, h9848⟩ := Iy9836.fld (h9842) 1 13 11 rfl
          refine g_getR C fi_X8_15 rfl e9847 (h9842).1 (h9842).2 dX8_walk_125 ?_
          refine g_iload_n C dX8_walk_128 rfl 3 rfl ?_
          refine g_iald (j := (a1.toInt.toNat)) C h9848.1 h9848.2.1 (ix_in h9848.2.2 (by omega)) dX8_walk_129 ?_
          refine g_topi (fun z9849 _ => ?_)
          refine g_iload_n C dX8_walk_130 rfl 3 rfl ?_
          refine g_callVV (rest := []) C mv_X8_91 [.int z9849, .int a1] (s_X5_add Iy9836 h9845.at) (h9845.at).1 (h9845.at).2 rfl rfl (by decide) (Nat.le_of_ble_eq_true rfl) (by decide) dX8_walk_131 (fun Y9851 h9852 => ?_)
          obtain ⟨Iy9853, Xy9854⟩ := h9852
          have q9855 := Xy9854.keep h9842 (by decide) 4
          have q9856 := Xy9854.keep h9842 (by decide) 6
          have Xz9857 : EK [0, 5, 13] P Y9851 := Xz9841.tr (Xy9854.mono (by decide))
          have h9858 := Xy9854.at h9842
          refine g_aload_n C dX8_walk_134 rfl 2 rfl ?_
          refine g_iload_n C dX8_walk_135 rfl 3 rfl ?_
          refine g_iconst (v := 1) C dX8_walk_136 (by decide) ?_
          refine s_iadd C dX8_walk_137 (by show -2147483648 ≤ a1.toInt + 1 ∧ a1.toInt + 1 ≤ 2147483647; omega) (fun z9859 h9860 => ?_)
          have h9860 : z9859.toInt = a1.toInt + 1 := h9860
          refine g_iload_n C dX8_walk_138 rfl 4 rfl ?_
          refine g_iconst (v := 1) C dX8_walk_139 (by decide) ?_
          refine s_iadd C dX8_walk_140 (by show -2147483648 ≤ a2.toInt + 1 ∧ a2.toInt + 1 ≤ 2147483647; omega) (fun z9861 h9862 => ?_)
          have h9862 : z9861.toInt = a2.toInt + 1 := h9862
          refine g_aload_n C dX8_walk_141 rfl 2 rfl ?_
          refine g_getI C fi_X8_42 (by decide) (h9858).1 (h9858).2 dX8_walk_142 ?_
          have u9864 := ti_rng (pI Y9851 a0 5)
          refine b_if_ne C 159 dX8_walk_145 (by decide) (fun h9863 => ?_) (fun h9863 => ?_)
          · have h9863 : (pI Y9851 a0 5).toInt ≠ 0 := ti_ne h9863
            refine g_iload_n C dX8_walk_159 rfl 5 rfl ?_
            refine g_lv (lv' := [(0, .ref a0), (4, .int z9821), (5, .int z9827)]) [2, 1, 0] rfl ?_
            exact J160 Y9851 z9821 z9827 a3 z9861 z9859 Iy9853 Xz9857 (by omega) (by omega) (by omega) (by omega) (by omega)
          · have h9863 : (pI Y9851 a0 5).toInt = 0 := congrArg Int32.toInt h9863
            refine g_aload_n C dX8_walk_148 rfl 2 rfl ?_
            obtain ⟨b9865, e9866, h9867⟩ := Iy9853.fld (h9858) 2 5 0 rfl
            refine g_getR C fi_X8_21 rfl e9866 (h9858).1 (h9858).2 dX8_walk_149 ?_
            refine g_iload_n C dX8_walk_152 rfl 5 rfl ?_
            refine g_callVI (rest := [.int z9861, .int z9859, .ref a0]) C mv_X8_93 [.int a3] (s_X5_spread Iy9853 h9867.at) (h9867.at).1 (h9867.at).2 rfl rfl (by decide) (Nat.le_of_ble_eq_true rfl) (by decide) dX8_walk_153 (fun r9868 Y9869 h9870 => ?_)
            obtain ⟨rfl, h9870⟩ := h9870
            have h9870 : True := h9870
            refine g_goto C 160 dX8_walk_156 (by decide) ?_
            refine g_lv (lv' := [(0, .ref a0), (4, .int z9821), (5, .int z9827)]) [2, 1, 0] rfl ?_
            exact J160 Y9851 z9821 z9827 r9868 z9861 z9859 Iy9853 Xz9857 (by omega) (by omega) (by omega) (by omega) (by omega)
        · have h9805 : z9802.toInt < (pI P a0 6).toInt := h9805
          exact ret _ _ _ _ _ dX8_walk_79 (by decide) (by decide) ⟨I, EK.rf⟩
  have J32 : G E ({ frames := 5, cells := 0, slots := 0, locals := 320 } : Room) D cy 6 P 0 0 32 [(0, .ref a0), (1, .int a1), (2, .int a2)] [] := by
    refine g_aload_n C dX8_walk_32 rfl 0 rfl ?_
    refine g_aload_n C dX8_walk_33 rfl 0 rfl ?_
    refine g_getI C fi_X8_38 (by decide) (ha0).1 (ha0).2 dX8_walk_34 ?_
    have h9871 := I.rg (ha0) 4 rfl
    refine g_iload_n C dX8_walk_37 rfl 1 rfl ?_
    refine s_isub C dX8_walk_38 (by show -2147483648 ≤ (pI P a0 4).toInt - a1.toInt ∧ (pI P a0 4).toInt - a1.toInt ≤ 2147483647; omega) (fun z9872 h9873 => ?_)
    have h9873 : z9872.toInt = (pI P a0 4).toInt - a1.toInt := h9873
    refine g_iload_n C dX8_walk_39 rfl 2 rfl ?_
    refine g_callVV (rest := []) C mv_X8_80 [.int z9872, .int a2] (s_X8_addAllWith I ha0 (by omega) (by omega)) (ha0).1 (ha0).2 rfl rfl (by decide) (Nat.le_of_ble_eq_true rfl) (by decide) dX8_walk_40 (fun Y9875 h9876 => ?_)
    obtain ⟨Iy9877, Xy9878⟩ := h9876
    have q9879 := Xy9878.keep ha0 (by decide) 4
    have Xz9880 : EK [0, 5, 13] P Y9875 := Xy9878.mono (by decide)
    have h9881 := Xy9878.at ha0
    exact ret _ _ _ _ _ dX8_walk_43 (by decide) (by decide) ⟨Iy9877, Xz9880⟩
  refine g_aload_n C dX8_walk_0 rfl 0 rfl ?_
  refine g_getI C fi_X8_42 (by decide) (ha0).1 (ha0).2 dX8_walk_1 ?_
  have u9883 := ti_rng (pI P a0 5)
  refine b_if_ne C 18 dX8_walk_4 (by decide) (fun h9882 => ?_) (fun h9882 => ?_)
  · have h9882 : (pI P a0 5).toInt ≠ 0 := ti_ne h9882
    refine g_aload_n C dX8_walk_18 rfl 0 rfl ?_
    obtain ⟨b9884, e9885, h9886⟩ := I.fld (ha0) 3 0 0 rfl
    refine g_getR C fi_X8_28 rfl e9885 (ha0).1 (ha0).2 dX8_walk_19 ?_
    refine g_getI C fi_X8_77 (by decide) (h9886.at).1 (h9886.at).2 dX8_walk_22 ?_
    have h9887 := I.rg (h9886.at) 2 rfl
    refine g_aload_n C dX8_walk_25 rfl 0 rfl ?_
    refine g_getI C fi_X8_51 (by decide) (ha0).1 (ha0).2 dX8_walk_26 ?_
    have h9888 := I.rg (ha0) 6 rfl
    refine b_icmp_ne C 44 dX8_walk_29 (by decide) (fun h9889 => ?_) (fun h9889 => ?_)
    · have h9889 : (pI P b9884 2).toInt ≠ (pI P a0 6).toInt := ti_ne h9889
      exact J44 
    · have h9889 : (pI P b9884 2).toInt = (pI P a0 6).toInt := congrArg Int32.toInt h9889
      refine g_lv (lv' := [(0, .ref a0), (1, .int a1), (2, .int a2)]) [0, 1, 2] rfl ?_
      exact J32 
  · have h9882 : (pI P a0 5).toInt = 0 := congrArg Int32.toInt h9882
    refine g_iload_n C dX8_walk_7 rfl 3 rfl ?_
    refine g_aload_n C dX8_walk_8 rfl 0 rfl ?_
    refine g_getI C fi_X8_56 (by decide) (ha0).1 (ha0).2 dX8_walk_9 ?_
    have u9891 := ti_rng a3
    have u9892 := ti_rng (pI P a0 7)
    refine b_icmp_ne C 44 dX8_walk_12 (by decide) (fun h9890 => ?_) (fun h9890 => ?_)
    · have h9890 : a3.toInt ≠ (pI P a0 7).toInt := ti_ne h9890
      exact J44 
    · have h9890 : a3.toInt = (pI P a0 7).toInt := congrArg Int32.toInt h9890
      refine g_goto C 32 dX8_walk_15 (by decide) ?_
      refine g_lv (lv' := [(0, .ref a0), (1, .int a1), (2, .int a2)]) [0, 1, 2] rfl ?_
      exact J32 
set_option maxHeartbeats 4000000 in
set_option maxRecDepth 100000 in
theorem s_X8_walk_L3 {P : PP} {a0 : Nat} {a1 : Int32} {a2 : Int32} {a3 : Int32} (I : IV P) (ha0 : At P a0 8) (ha1 : 8 ≤ a1.toInt ∧ a1.toInt ≤ 8) (ha2 : 0 ≤ a2.toInt ∧ a2.toInt ≤ 8) : CtrV yX8_walk cX8_walk 6 none ({ frames := 6, cells := 0, slots := 0, locals := 384 } : Room) 0 0 P [.ref a0, .int a1, .int a2, .int a3] (fun P2 => IV P2 ∧ EK [0, 5, 13] P P2) := by
  refine enV (lv := [(0, .ref a0), (1, .int a1), (2, .int a2), (3, .int a3)]) (by decide) (Nat.le_of_ble_eq_true rfl) rfl (fun E D cy C Ci0 ret => ?_)
  have J160 : ∀ (P160 : PP) (v160_4 : Int32) (v160_5 : Int32) (v160_s0 : Int32) (v160_s1 : Int32) (v160_s2 : Int32), (IV P160) → (EK [0, 5, 13] P P160) → (0 ≤ v160_4.toInt ∧ v160_4.toInt ≤ 20) → (0 ≤ v160_5.toInt ∧ v160_5.toInt ≤ 44) → (1 ≤ v160_s1.toInt ∧ v160_s1.toInt ≤ 9) → (9 ≤ v160_s2.toInt ∧ v160_s2.toInt ≤ 9) → (9 ≤ (pI P160 a0 4).toInt ∧ (pI P160 a0 4).toInt ≤ 11) → G E ({ frames := 6, cells := 0, slots := 0, locals := 384 } : Room) D cy 6 P160 0 0 160 [(0, .ref a0), (4, .int v160_4), (5, .int v160_5)] [.int v160_s0, .int v160_s1, .int v160_s2, .ref a0] := by
    intro P160 v160_4 v160_5 v160_s0 v160_s1 v160_s2 I160 X160 hv160_4 hv160_5 hv160_s1 hv160_s2 hq160_0
    have h10024 := X160.at ha0
    refine g_callVV (rest := []) C mv_X8_73 [.int v160_s2, .int v160_s1, .int v160_s0] (s_X8_walk_L2 I160 h10024 (by omega) (by omega)) (h10024).1 (h10024).2 rfl rfl (by decide) (Nat.le_of_ble_eq_true rfl) (by decide) dX8_walk_160 (fun Y10026 h10027 => ?_)
    obtain ⟨Iy10028, Xy10029⟩ := h10027
    have q10030 := Xy10029.keep h10024 (by decide) 4
    have Xz10031 : EK [0, 5, 13] P Y10026 := X160.tr (Xy10029.mono (by decide))
    have h10032 := Xy10029.at h10024
    refine g_aload_n C dX8_walk_163 rfl 0 rfl ?_
    obtain ⟨b10033, e10034, h10035⟩ := Iy10028.fld (h10032) 3 0 0 rfl
    refine g_getR C fi_X8_28 rfl e10034 (h10032).1 (h10032).2 dX8_walk_164 ?_
    refine g_iload C dX8_walk_167 1 rfl ?_
    refine g_callVV (rest := []) C mv_X8_96 [.int v160_4] (s_X0_cut Iy10028 h10035.at) (h10035.at).1 (h10035.at).2 rfl rfl (by decide) (Nat.le_of_ble_eq_true rfl) (by decide) dX8_walk_169 (fun Y10037 h10038 => ?_)
    obtain ⟨Iy10039, Xy10040⟩ := h10038
    have q10041 := Xy10040.keep h10032 (by decide) 4
    have Xz10042 : EK [0, 5, 13] P Y10037 := Xz10031.tr (Xy10040.mono (by decide))
    have h10043 := Xy10040.at h10032
    refine g_aload_n C dX8_walk_172 rfl 0 rfl ?_
    obtain ⟨b10044, e10045, h10046⟩ := Iy10039.fld (h10043) 2 5 0 rfl
    refine g_getR C fi_X8_21 rfl e10045 (h10043).1 (h10043).2 dX8_walk_173 ?_
    refine g_iload C dX8_walk_176 2 rfl ?_
    refine g_callVV (rest := []) C mv_X8_99 [.int v160_5] (s_X5_cut Iy10039 h10046.at) (h10046.at).1 (h10046.at).2 rfl rfl (by decide) (Nat.le_of_ble_eq_true rfl) (by decide) dX8_walk_178 (fun Y10048 h10049 => ?_)
    obtain ⟨Iy10050, Xy10051⟩ := h10049
    have q10052 := Xy10051.keep h10043 (by decide) 4
    have Xz10053 : EK [0, 5, 13] P Y10048 := Xz10042.tr (Xy10051.mono (by decide))
    have h10054 := Xy10051.at h10043
    exact ret _ _ _ _ _ dX8_walk_181 (by decide) (by decide) ⟨Iy10050, Xz10053⟩
  have J44 : G E ({ frames := 6, cells := 0, slots := 0, locals := 384 } : Room) D cy 6 P 0 0 44 [(0, .ref a0), (1, .int a1), (2, .int a2), (3, .int a3)] [] := by
    refine g_iload_n C dX8_walk_44 rfl 1 rfl ?_
    refine g_aload_n C dX8_walk_45 rfl 0 rfl ?_
    refine g_getI C fi_X8_38 (by decide) (ha0).1 (ha0).2 dX8_walk_46 ?_
    have h10055 := I.rg (ha0) 4 rfl
    refine b_icmp_ge C 79 dX8_walk_49 (by decide) (fun h10056 => ?_) (fun h10056 => ?_)
    · have h10056 : (pI P a0 4).toInt ≤ a1.toInt := h10056
      exact ret _ _ _ _ _ dX8_walk_79 (by decide) (by decide) ⟨I, EK.rf⟩
    · have h10056 : a1.toInt < (pI P a0 4).toInt := h10056
      refine g_iload_n C dX8_walk_52 rfl 1 rfl ?_
      refine g_bipush (v := 11) C dX8_walk_53 (by decide) ?_
      refine b_icmp_ge C 79 dX8_walk_55 (by decide) (fun h10057 => ?_) (fun h10057 => ?_)
      · have h10057 : 11 ≤ a1.toInt := h10057
        omega
      · have h10057 : a1.toInt < 11 := h10057
        refine g_aload_n C dX8_walk_58 rfl 0 rfl ?_
        obtain ⟨b10058, e10059, h10060⟩ := I.fld (ha0) 3 0 0 rfl
        refine g_getR C fi_X8_28 rfl e10059 (ha0).1 (ha0).2 dX8_walk_59 ?_
        refine g_getI C fi_X8_77 (by decide) (h10060.at).1 (h10060.at).2 dX8_walk_62 ?_
        have h10061 := I.rg (h10060.at) 2 rfl
        refine g_aload_n C dX8_walk_65 rfl 0 rfl ?_
        refine g_getI C fi_X8_38 (by decide) (ha0).1 (ha0).2 dX8_walk_66 ?_
        refine s_iadd C dX8_walk_69 (by show -2147483648 ≤ (pI P b10058 2).toInt + (pI P a0 4).toInt ∧ (pI P b10058 2).toInt + (pI P a0 4).toInt ≤ 2147483647; omega) (fun z10062 h10063 => ?_)
        have h10063 : z10062.toInt = (pI P b10058 2).toInt + (pI P a0 4).toInt := h10063
        refine g_iload_n C dX8_walk_70 rfl 1 rfl ?_
        refine s_isub C dX8_walk_71 (by show -2147483648 ≤ z10062.toInt - a1.toInt ∧ z10062.toInt - a1.toInt ≤ 2147483647; omega) (fun z10064 h10065 => ?_)
        have h10065 : z10064.toInt = z10062.toInt - a1.toInt := h10065
        refine g_aload_n C dX8_walk_72 rfl 0 rfl ?_
        refine g_getI C fi_X8_51 (by decide) (ha0).1 (ha0).2 dX8_walk_73 ?_
        have h10066 := I.rg (ha0) 6 rfl
        refine b_icmp_ge C 80 dX8_walk_76 (by decide) (fun h10067 => ?_) (fun h10067 => ?_)
        · have h10067 : (pI P a0 6).toInt ≤ z10064.toInt := h10067
          refine g_aload_n C dX8_walk_80 rfl 0 rfl ?_
          refine g_iload_n C dX8_walk_81 rfl 1 rfl ?_
          refine g_iconst (v := 1) C dX8_walk_82 (by decide) ?_
          refine s_iadd C dX8_walk_83 (by show -2147483648 ≤ a1.toInt + 1 ∧ a1.toInt + 1 ≤ 2147483647; omega) (fun z10068 h10069 => ?_)
          have h10069 : z10068.toInt = a1.toInt + 1 := h10069
          refine g_iload_n C dX8_walk_84 rfl 2 rfl ?_
          refine g_iload_n C dX8_walk_85 rfl 3 rfl ?_
          refine g_callVV (rest := []) C mv_X8_73 [.int z10068, .int a2, .int a3] (s_X8_walk_L2 I ha0 (by omega) (by omega)) (ha0).1 (ha0).2 rfl rfl (by decide) (Nat.le_of_ble_eq_true rfl) (by decide) dX8_walk_86 (fun Y10071 h10072 => ?_)
          obtain ⟨Iy10073, Xy10074⟩ := h10072
          have q10075 := Xy10074.keep ha0 (by decide) 4
          have q10076 := Xy10074.keep ha0 (by decide) 6
          have Xz10077 : EK [0, 5, 13] P Y10071 := Xy10074.mono (by decide)
          have h10078 := Xy10074.at ha0
          refine g_aload_n C dX8_walk_89 rfl 0 rfl ?_
          obtain ⟨b10079, e10080, h10081⟩ := Iy10073.fld (h10078) 3 0 0 rfl
          refine g_getR C fi_X8_28 rfl e10080 (h10078).1 (h10078).2 dX8_walk_90 ?_
          refine g_getI C fi_X8_77 (by decide) (h10081.at).1 (h10081.at).2 dX8_walk_93 ?_
          have h10082 := Iy10073.rg (h10081.at) 2 rfl
          refine g_topi (fun z10083 h10084 => ?_)
          have h10084 : z10083.toInt = (pI Y10071 b10079 2).toInt := congrArg Int32.toInt h10084
          refine g_istore (lv' := [(4, .int z10083), (0, .ref a0), (1, .int a1), (2, .int a2), (3, .int a3)]) C dX8_walk_96 (by decide) rfl ?_
          refine g_aload_n C dX8_walk_98 rfl 1 rfl ?_
          obtain ⟨b10085, e10086, h10087⟩ := Iy10073.fld (h10078) 2 5 0 rfl
          refine g_getR C fi_X8_21 rfl e10086 (h10078).1 (h10078).2 dX8_walk_99 ?_
          refine g_getI C fi_X8_84 (by decide) (h10087.at).1 (h10087.at).2 dX8_walk_102 ?_
          have h10088 := Iy10073.rg (h10087.at) 4 rfl
          refine g_topi (fun z10089 h10090 => ?_)
          have h10090 : z10089.toInt = (pI Y10071 b10085 4).toInt := congrArg Int32.toInt h10090
          refine g_istore (lv' := [(5, .int z10089), (4, .int z10083), (0, .ref a0), (1, .int a1), (2, .int a2), (3, .int a3)]) C dX8_walk_105 (by decide) rfl ?_
          refine g_aload_n C dX8_walk_107 rfl 2 rfl ?_
          refine g_getR C fi_X8_28 rfl e10080 (h10078).1 (h10078).2 dX8_walk_108 ?_
          refine g_aload_n C dX8_walk_111 rfl 2 rfl ?_
          obtain ⟨b10091, e10092, h10093⟩ := Iy10073.fld (h10078) 1 13 11 rfl
          refine g_getR C fi_X8_15 rfl e10092 (h10078).1 (h10078).2 dX8_walk_112 ?_
          refine g_iload_n C dX8_walk_115 rfl 3 rfl ?_
          refine g_iald (j := (a1.toInt.toNat)) C h10093.1 h10093.2.1 (ix_in h10093.2.2 (by omega)) dX8_walk_116 ?_
          refine g_topi (fun z10094 _ => ?_)
          refine g_callVV (rest := []) C mv_X8_87 [.int z10094] (s_X0_add Iy10073 h10081.at) (h10081.at).1 (h10081.at).2 rfl rfl (by decide) (Nat.le_of_ble_eq_true rfl) (by decide) dX8_walk_117 (fun Y10096 h10097 => ?_)
          obtain ⟨Iy10098, Xy10099⟩ := h10097
          have q10100 := Xy10099.keep h10078 (by decide) 4
          have q10101 := Xy10099.keep h10078 (by decide) 6
          have q10102 := Xy10099.keep (h10087.at) (by decide) 4
          have Xz10103 : EK [0, 5, 13] P Y10096 := Xz10077.tr (Xy10099.mono (by decide))
          have h10104 := Xy10099.at h10078
          refine g_aload_n C dX8_walk_120 rfl 2 rfl ?_
          obtain ⟨b10105, e10106, h10107⟩ := Iy10098.fld (h10104) 2 5 0 rfl
          refine g_getR C fi_X8_21 rfl e10106 (h10104).1 (h10104).2 dX8_walk_121 ?_
          refine g_aload_n C dX8_walk_124 rfl 2 rfl ?_
          obtain ⟨b10108, e10109, h10110⟩ := Iy10098.fld (h10104) 1 13 11 rfl
          refine g_getR C fi_X8_15 rfl e10109 (h10104).1 (h10104).2 dX8_walk_125 ?_
          refine g_iload_n C dX8_walk_128 rfl 3 rfl ?_
          refine g_iald (j := (a1.toInt.toNat)) C h10110.1 h10110.2.1 (ix_in h10110.2.2 (by omega)) dX8_walk_129 ?_
          refine g_topi (fun z10111 _ => ?_)
          refine g_iload_n C dX8_walk_130 rfl 3 rfl ?_
          refine g_callVV (rest := []) C mv_X8_91 [.int z10111, .int a1] (s_X5_add Iy10098 h10107.at) (h10107.at).1 (h10107.at).2 rfl rfl (by decide) (Nat.le_of_ble_eq_true rfl) (by decide) dX8_walk_131 (fun Y10113 h10114 => ?_)
          obtain ⟨Iy10115, Xy10116⟩ := h10114
          have q10117 := Xy10116.keep h10104 (by decide) 4
          have q10118 := Xy10116.keep h10104 (by decide) 6
          have Xz10119 : EK [0, 5, 13] P Y10113 := Xz10103.tr (Xy10116.mono (by decide))
          have h10120 := Xy10116.at h10104
          refine g_aload_n C dX8_walk_134 rfl 2 rfl ?_
          refine g_iload_n C dX8_walk_135 rfl 3 rfl ?_
          refine g_iconst (v := 1) C dX8_walk_136 (by decide) ?_
          refine s_iadd C dX8_walk_137 (by show -2147483648 ≤ a1.toInt + 1 ∧ a1.toInt + 1 ≤ 2147483647; omega) (fun z10121 h10122 => ?_)
          have h10122 : z10121.toInt = a1.toInt + 1 := h10122
          refine g_iload_n C dX8_walk_138 rfl 4 rfl ?_
          refine g_iconst (v := 1) C dX8_walk_139 (by decide) ?_
          refine s_iadd C dX8_walk_140 (by show -2147483648 ≤ a2.toInt + 1 ∧ a2.toInt + 1 ≤ 2147483647; omega) (fun z10123 h10124 => ?_)
          have h10124 : z10123.toInt = a2.toInt + 1 := h10124
          refine g_aload_n C dX8_walk_141 rfl 2 rfl ?_
          refine g_getI C fi_X8_42 (by decide) (h10120).1 (h10120).2 dX8_walk_142 ?_
          have u10126 := ti_rng (pI Y10113 a0 5)
          refine b_if_ne C 159 dX8_walk_145 (by decide) (fun h10125 => ?_) (fun h10125 => ?_)
          · have h10125 : (pI Y10113 a0 5).toInt ≠ 0 := ti_ne h10125
            refine g_iload_n C dX8_walk_159 rfl 5 rfl ?_
            refine g_lv (lv' := [(0, .ref a0), (4, .int z10083), (5, .int z10089)]) [2, 1, 0] rfl ?_
            exact J160 Y10113 z10083 z10089 a3 z10123 z10121 Iy10115 Xz10119 (by omega) (by omega) (by omega) (by omega) (by omega)
          · have h10125 : (pI Y10113 a0 5).toInt = 0 := congrArg Int32.toInt h10125
            refine g_aload_n C dX8_walk_148 rfl 2 rfl ?_
            obtain ⟨b10127, e10128, h10129⟩ := Iy10115.fld (h10120) 2 5 0 rfl
            refine g_getR C fi_X8_21 rfl e10128 (h10120).1 (h10120).2 dX8_walk_149 ?_
            refine g_iload_n C dX8_walk_152 rfl 5 rfl ?_
            refine g_callVI (rest := [.int z10123, .int z10121, .ref a0]) C mv_X8_93 [.int a3] (s_X5_spread Iy10115 h10129.at) (h10129.at).1 (h10129.at).2 rfl rfl (by decide) (Nat.le_of_ble_eq_true rfl) (by decide) dX8_walk_153 (fun r10130 Y10131 h10132 => ?_)
            obtain ⟨rfl, h10132⟩ := h10132
            have h10132 : True := h10132
            refine g_goto C 160 dX8_walk_156 (by decide) ?_
            refine g_lv (lv' := [(0, .ref a0), (4, .int z10083), (5, .int z10089)]) [2, 1, 0] rfl ?_
            exact J160 Y10113 z10083 z10089 r10130 z10123 z10121 Iy10115 Xz10119 (by omega) (by omega) (by omega) (by omega) (by omega)
        · have h10067 : z10064.toInt < (pI P a0 6).toInt := h10067
          exact ret _ _ _ _ _ dX8_walk_79 (by decide) (by decide) ⟨I, EK.rf⟩
  have J32 : G E ({ frames := 6, cells := 0, slots := 0, locals := 384 } : Room) D cy 6 P 0 0 32 [(0, .ref a0), (1, .int a1), (2, .int a2)] [] := by
    refine g_aload_n C dX8_walk_32 rfl 0 rfl ?_
    refine g_aload_n C dX8_walk_33 rfl 0 rfl ?_
    refine g_getI C fi_X8_38 (by decide) (ha0).1 (ha0).2 dX8_walk_34 ?_
    have h10133 := I.rg (ha0) 4 rfl
    refine g_iload_n C dX8_walk_37 rfl 1 rfl ?_
    refine s_isub C dX8_walk_38 (by show -2147483648 ≤ (pI P a0 4).toInt - a1.toInt ∧ (pI P a0 4).toInt - a1.toInt ≤ 2147483647; omega) (fun z10134 h10135 => ?_)
    have h10135 : z10134.toInt = (pI P a0 4).toInt - a1.toInt := h10135
    refine g_iload_n C dX8_walk_39 rfl 2 rfl ?_
    refine g_callVV (rest := []) C mv_X8_80 [.int z10134, .int a2] (s_X8_addAllWith I ha0 (by omega) (by omega)) (ha0).1 (ha0).2 rfl rfl (by decide) (Nat.le_of_ble_eq_true rfl) (by decide) dX8_walk_40 (fun Y10137 h10138 => ?_)
    obtain ⟨Iy10139, Xy10140⟩ := h10138
    have q10141 := Xy10140.keep ha0 (by decide) 4
    have Xz10142 : EK [0, 5, 13] P Y10137 := Xy10140.mono (by decide)
    have h10143 := Xy10140.at ha0
    exact ret _ _ _ _ _ dX8_walk_43 (by decide) (by decide) ⟨Iy10139, Xz10142⟩
  refine g_aload_n C dX8_walk_0 rfl 0 rfl ?_
  refine g_getI C fi_X8_42 (by decide) (ha0).1 (ha0).2 dX8_walk_1 ?_
  have u10145 := ti_rng (pI P a0 5)
  refine b_if_ne C 18 dX8_walk_4 (by decide) (fun h10144 => ?_) (fun h10144 => ?_)
  · have h10144 : (pI P a0 5).toInt ≠ 0 := ti_ne h10144
    refine g_aload_n C dX8_walk_18 rfl 0 rfl ?_
    obtain ⟨b10146, e10147, h10148⟩ := I.fld (ha0) 3 0 0 rfl
    refine g_getR C fi_X8_28 rfl e10147 (ha0).1 (ha0).2 dX8_walk_19 ?_
    refine g_getI C fi_X8_77 (by decide) (h10148.at).1 (h10148.at).2 dX8_walk_22 ?_
    have h10149 := I.rg (h10148.at) 2 rfl
    refine g_aload_n C dX8_walk_25 rfl 0 rfl ?_
    refine g_getI C fi_X8_51 (by decide) (ha0).1 (ha0).2 dX8_walk_26 ?_
    have h10150 := I.rg (ha0) 6 rfl
    refine b_icmp_ne C 44 dX8_walk_29 (by decide) (fun h10151 => ?_) (fun h10151 => ?_)
    · have h10151 : (pI P b10146 2).toInt ≠ (pI P a0 6).toInt := ti_ne h10151
      exact J44 
    · have h10151 : (pI P b10146 2).toInt = (pI P a0 6).toInt := congrArg Int32.toInt h10151
      refine g_lv (lv' := [(0, .ref a0), (1, .int a1), (2, .int a2)]) [0, 1, 2] rfl ?_
      exact J32 
  · have h10144 : (pI P a0 5).toInt = 0 := congrArg Int32.toInt h10144
    refine g_iload_n C dX8_walk_7 rfl 3 rfl ?_
    refine g_aload_n C dX8_walk_8 rfl 0 rfl ?_
    refine g_getI C fi_X8_56 (by decide) (ha0).1 (ha0).2 dX8_walk_9 ?_
    have u10153 := ti_rng a3
    have u10154 := ti_rng (pI P a0 7)
    refine b_icmp_ne C 44 dX8_walk_12 (by decide) (fun h10152 => ?_) (fun h10152 => ?_)
    · have h10152 : a3.toInt ≠ (pI P a0 7).toInt := ti_ne h10152
      exact J44 
    · have h10152 : a3.toInt = (pI P a0 7).toInt := congrArg Int32.toInt h10152
      refine g_goto C 32 dX8_walk_15 (by decide) ?_
      refine g_lv (lv' := [(0, .ref a0), (1, .int a1), (2, .int a2)]) [0, 1, 2] rfl ?_
      exact J32 
set_option maxHeartbeats 4000000 in
set_option maxRecDepth 100000 in
theorem s_X8_walk_L4 {P : PP} {a0 : Nat} {a1 : Int32} {a2 : Int32} {a3 : Int32} (I : IV P) (ha0 : At P a0 8) (ha1 : 7 ≤ a1.toInt ∧ a1.toInt ≤ 7) (ha2 : 0 ≤ a2.toInt ∧ a2.toInt ≤ 7) : CtrV yX8_walk cX8_walk 6 none ({ frames := 7, cells := 0, slots := 0, locals := 448 } : Room) 0 0 P [.ref a0, .int a1, .int a2, .int a3] (fun P2 => IV P2 ∧ EK [0, 5, 13] P P2) := by
  refine enV (lv := [(0, .ref a0), (1, .int a1), (2, .int a2), (3, .int a3)]) (by decide) (Nat.le_of_ble_eq_true rfl) rfl (fun E D cy C Ci0 ret => ?_)
  have J160 : ∀ (P160 : PP) (v160_4 : Int32) (v160_5 : Int32) (v160_s0 : Int32) (v160_s1 : Int32) (v160_s2 : Int32), (IV P160) → (EK [0, 5, 13] P P160) → (0 ≤ v160_4.toInt ∧ v160_4.toInt ≤ 20) → (0 ≤ v160_5.toInt ∧ v160_5.toInt ≤ 44) → (1 ≤ v160_s1.toInt ∧ v160_s1.toInt ≤ 8) → (8 ≤ v160_s2.toInt ∧ v160_s2.toInt ≤ 8) → (8 ≤ (pI P160 a0 4).toInt ∧ (pI P160 a0 4).toInt ≤ 11) → G E ({ frames := 7, cells := 0, slots := 0, locals := 448 } : Room) D cy 6 P160 0 0 160 [(0, .ref a0), (4, .int v160_4), (5, .int v160_5)] [.int v160_s0, .int v160_s1, .int v160_s2, .ref a0] := by
    intro P160 v160_4 v160_5 v160_s0 v160_s1 v160_s2 I160 X160 hv160_4 hv160_5 hv160_s1 hv160_s2 hq160_0
    have h10286 := X160.at ha0
    refine g_callVV (rest := []) C mv_X8_73 [.int v160_s2, .int v160_s1, .int v160_s0] (s_X8_walk_L3 I160 h10286 (by omega) (by omega)) (h10286).1 (h10286).2 rfl rfl (by decide) (Nat.le_of_ble_eq_true rfl) (by decide) dX8_walk_160 (fun Y10288 h10289 => ?_)
    obtain ⟨Iy10290, Xy10291⟩ := h10289
    have q10292 := Xy10291.keep h10286 (by decide) 4
    have Xz10293 : EK [0, 5, 13] P Y10288 := X160.tr (Xy10291.mono (by decide))
    have h10294 := Xy10291.at h10286
    refine g_aload_n C dX8_walk_163 rfl 0 rfl ?_
    obtain ⟨b10295, e10296, h10297⟩ := Iy10290.fld (h10294) 3 0 0 rfl
    refine g_getR C fi_X8_28 rfl e10296 (h10294).1 (h10294).2 dX8_walk_164 ?_
    refine g_iload C dX8_walk_167 1 rfl ?_
    refine g_callVV (rest := []) C mv_X8_96 [.int v160_4] (s_X0_cut Iy10290 h10297.at) (h10297.at).1 (h10297.at).2 rfl rfl (by decide) (Nat.le_of_ble_eq_true rfl) (by decide) dX8_walk_169 (fun Y10299 h10300 => ?_)
    obtain ⟨Iy10301, Xy10302⟩ := h10300
    have q10303 := Xy10302.keep h10294 (by decide) 4
    have Xz10304 : EK [0, 5, 13] P Y10299 := Xz10293.tr (Xy10302.mono (by decide))
    have h10305 := Xy10302.at h10294
    refine g_aload_n C dX8_walk_172 rfl 0 rfl ?_
    obtain ⟨b10306, e10307, h10308⟩ := Iy10301.fld (h10305) 2 5 0 rfl
    refine g_getR C fi_X8_21 rfl e10307 (h10305).1 (h10305).2 dX8_walk_173 ?_
    refine g_iload C dX8_walk_176 2 rfl ?_
    refine g_callVV (rest := []) C mv_X8_99 [.int v160_5] (s_X5_cut Iy10301 h10308.at) (h10308.at).1 (h10308.at).2 rfl rfl (by decide) (Nat.le_of_ble_eq_true rfl) (by decide) dX8_walk_178 (fun Y10310 h10311 => ?_)
    obtain ⟨Iy10312, Xy10313⟩ := h10311
    have q10314 := Xy10313.keep h10305 (by decide) 4
    have Xz10315 : EK [0, 5, 13] P Y10310 := Xz10304.tr (Xy10313.mono (by decide))
    have h10316 := Xy10313.at h10305
    exact ret _ _ _ _ _ dX8_walk_181 (by decide) (by decide) ⟨Iy10312, Xz10315⟩
  have J44 : G E ({ frames := 7, cells := 0, slots := 0, locals := 448 } : Room) D cy 6 P 0 0 44 [(0, .ref a0), (1, .int a1), (2, .int a2), (3, .int a3)] [] := by
    refine g_iload_n C dX8_walk_44 rfl 1 rfl ?_
    refine g_aload_n C dX8_walk_45 rfl 0 rfl ?_
    refine g_getI C fi_X8_38 (by decide) (ha0).1 (ha0).2 dX8_walk_46 ?_
    have h10317 := I.rg (ha0) 4 rfl
    refine b_icmp_ge C 79 dX8_walk_49 (by decide) (fun h10318 => ?_) (fun h10318 => ?_)
    · have h10318 : (pI P a0 4).toInt ≤ a1.toInt := h10318
      exact ret _ _ _ _ _ dX8_walk_79 (by decide) (by decide) ⟨I, EK.rf⟩
    · have h10318 : a1.toInt < (pI P a0 4).toInt := h10318
      refine g_iload_n C dX8_walk_52 rfl 1 rfl ?_
      refine g_bipush (v := 11) C dX8_walk_53 (by decide) ?_
      refine b_icmp_ge C 79 dX8_walk_55 (by decide) (fun h10319 => ?_) (fun h10319 => ?_)
      · have h10319 : 11 ≤ a1.toInt := h10319
        omega
      · have h10319 : a1.toInt < 11 := h10319
        refine g_aload_n C dX8_walk_58 rfl 0 rfl ?_
        obtain ⟨b10320, e10321, h10322⟩ := I.fld (ha0) 3 0 0 rfl
        refine g_getR C fi_X8_28 rfl e10321 (ha0).1 (ha0).2 dX8_walk_59 ?_
        refine g_getI C fi_X8_77 (by decide) (h10322.at).1 (h10322.at).2 dX8_walk_62 ?_
        have h10323 := I.rg (h10322.at) 2 rfl
        refine g_aload_n C dX8_walk_65 rfl 0 rfl ?_
        refine g_getI C fi_X8_38 (by decide) (ha0).1 (ha0).2 dX8_walk_66 ?_
        refine s_iadd C dX8_walk_69 (by show -2147483648 ≤ (pI P b10320 2).toInt + (pI P a0 4).toInt ∧ (pI P b10320 2).toInt + (pI P a0 4).toInt ≤ 2147483647; omega) (fun z10324 h10325 => ?_)
        have h10325 : z10324.toInt = (pI P b10320 2).toInt + (pI P a0 4).toInt := h10325
        refine g_iload_n C dX8_walk_70 rfl 1 rfl ?_
        refine s_isub C dX8_walk_71 (by show -2147483648 ≤ z10324.toInt - a1.toInt ∧ z10324.toInt - a1.toInt ≤ 2147483647; omega) (fun z10326 h10327 => ?_)
        have h10327 : z10326.toInt = z10324.toInt - a1.toInt := h10327
        refine g_aload_n C dX8_walk_72 rfl 0 rfl ?_
        refine g_getI C fi_X8_51 (by decide) (ha0).1 (ha0).2 dX8_walk_73 ?_
        have h10328 := I.rg (ha0) 6 rfl
        refine b_icmp_ge C 80 dX8_walk_76 (by decide) (fun h10329 => ?_) (fun h10329 => ?_)
        · have h10329 : (pI P a0 6).toInt ≤ z10326.toInt := h10329
          refine g_aload_n C dX8_walk_80 rfl 0 rfl ?_
          refine g_iload_n C dX8_walk_81 rfl 1 rfl ?_
          refine g_iconst (v := 1) C dX8_walk_82 (by decide) ?_
          refine s_iadd C dX8_walk_83 (by show -2147483648 ≤ a1.toInt + 1 ∧ a1.toInt + 1 ≤ 2147483647; omega) (fun z10330 h10331 => ?_)
          have h10331 : z10330.toInt = a1.toInt + 1 := h10331
          refine g_iload_n C dX8_walk_84 rfl 2 rfl ?_
          refine g_iload_n C dX8_walk_85 rfl 3 rfl ?_
          refine g_callVV (rest := []) C mv_X8_73 [.int z10330, .int a2, .int a3] (s_X8_walk_L3 I ha0 (by omega) (by omega)) (ha0).1 (ha0).2 rfl rfl (by decide) (Nat.le_of_ble_eq_true rfl) (by decide) dX8_walk_86 (fun Y10333 h10334 => ?_)
          obtain ⟨Iy10335, Xy10336⟩ := h10334
          have q10337 := Xy10336.keep ha0 (by decide) 4
          have q10338 := Xy10336.keep ha0 (by decide) 6
          have Xz10339 : EK [0, 5, 13] P Y10333 := Xy10336.mono (by decide)
          have h10340 := Xy10336.at ha0
          refine g_aload_n C dX8_walk_89 rfl 0 rfl ?_
          obtain ⟨b10341, e10342, h10343⟩ := Iy10335.fld (h10340) 3 0 0 rfl
          refine g_getR C fi_X8_28 rfl e10342 (h10340).1 (h10340).2 dX8_walk_90 ?_
          refine g_getI C fi_X8_77 (by decide) (h10343.at).1 (h10343.at).2 dX8_walk_93 ?_
          have h10344 := Iy10335.rg (h10343.at) 2 rfl
          refine g_topi (fun z10345 h10346 => ?_)
          have h10346 : z10345.toInt = (pI Y10333 b10341 2).toInt := congrArg Int32.toInt h10346
          refine g_istore (lv' := [(4, .int z10345), (0, .ref a0), (1, .int a1), (2, .int a2), (3, .int a3)]) C dX8_walk_96 (by decide) rfl ?_
          refine g_aload_n C dX8_walk_98 rfl 1 rfl ?_
          obtain ⟨b10347, e10348, h10349⟩ := Iy10335.fld (h10340) 2 5 0 rfl
          refine g_getR C fi_X8_21 rfl e10348 (h10340).1 (h10340).2 dX8_walk_99 ?_
          refine g_getI C fi_X8_84 (by decide) (h10349.at).1 (h10349.at).2 dX8_walk_102 ?_
          have h10350 := Iy10335.rg (h10349.at) 4 rfl
          refine g_topi (fun z10351 h10352 => ?_)
          have h10352 : z10351.toInt = (pI Y10333 b10347 4).toInt := congrArg Int32.toInt h10352
          refine g_istore (lv' := [(5, .int z10351), (4, .int z10345), (0, .ref a0), (1, .int a1), (2, .int a2), (3, .int a3)]) C dX8_walk_105 (by decide) rfl ?_
          refine g_aload_n C dX8_walk_107 rfl 2 rfl ?_
          refine g_getR C fi_X8_28 rfl e10342 (h10340).1 (h10340).2 dX8_walk_108 ?_
          refine g_aload_n C dX8_walk_111 rfl 2 rfl ?_
          obtain ⟨b10353, e10354, h10355⟩ := Iy10335.fld (h10340) 1 13 11 rfl
          refine g_getR C fi_X8_15 rfl e10354 (h10340).1 (h10340).2 dX8_walk_112 ?_
          refine g_iload_n C dX8_walk_115 rfl 3 rfl ?_
          refine g_iald (j := (a1.toInt.toNat)) C h10355.1 h10355.2.1 (ix_in h10355.2.2 (by omega)) dX8_walk_116 ?_
          refine g_topi (fun z10356 _ => ?_)
          refine g_callVV (rest := []) C mv_X8_87 [.int z10356] (s_X0_add Iy10335 h10343.at) (h10343.at).1 (h10343.at).2 rfl rfl (by decide) (Nat.le_of_ble_eq_true rfl) (by decide) dX8_walk_117 (fun Y10358 h10359 => ?_)
          obtain ⟨Iy10360, Xy10361⟩ := h10359
          have q10362 := Xy10361.keep h10340 (by decide) 4
          have q10363 := Xy10361.keep h10340 (by decide) 6
          have q10364 := Xy10361.keep (h10349.at) (by decide) 4
          have Xz10365 : EK [0, 5, 13] P Y10358 := Xz10339.tr (Xy10361.mono (by decide))
          have h10366 := Xy10361.at h10340
          refine g_aload_n C dX8_walk_120 rfl 2 rfl ?_
          obtain ⟨b10367, e10368, h10369⟩ := Iy10360.fld (h10366) 2 5 0 rfl
          refine g_getR C fi_X8_21 rfl e10368 (h10366).1 (h10366).2 dX8_walk_121 ?_
          refine g_aload_n C dX8_walk_124 rfl 2 rfl ?_
          obtain ⟨b10370, e10371, h10372⟩ := Iy10360.fld (h10366) 1 13 11 rfl
          refine g_getR C fi_X8_15 rfl e10371 (h10366).1 (h10366).2 dX8_walk_125 ?_
          refine g_iload_n C dX8_walk_128 rfl 3 rfl ?_
          refine g_iald (j := (a1.toInt.toNat)) C h10372.1 h10372.2.1 (ix_in h10372.2.2 (by omega)) dX8_walk_129 ?_
          refine g_topi (fun z10373 _ => ?_)
          refine g_iload_n C dX8_walk_130 rfl 3 rfl ?_
          refine g_callVV (rest := []) C mv_X8_91 [.int z10373, .int a1] (s_X5_add Iy10360 h10369.at) (h10369.at).1 (h10369.at).2 rfl rfl (by decide) (Nat.le_of_ble_eq_true rfl) (by decide) dX8_walk_131 (fun Y10375 h10376 => ?_)
          obtain ⟨Iy10377, Xy10378⟩ := h10376
          have q10379 := Xy10378.keep h10366 (by decide) 4
          have q10380 := Xy10378.keep h10366 (by decide) 6
          have Xz10381 : EK [0, 5, 13] P Y10375 := Xz10365.tr (Xy10378.mono (by decide))
          have h10382 := Xy10378.at h10366
          refine g_aload_n C dX8_walk_134 rfl 2 rfl ?_
          refine g_iload_n C dX8_walk_135 rfl 3 rfl ?_
          refine g_iconst (v := 1) C dX8_walk_136 (by decide) ?_
          refine s_iadd C dX8_walk_137 (by show -2147483648 ≤ a1.toInt + 1 ∧ a1.toInt + 1 ≤ 2147483647; omega) (fun z10383 h10384 => ?_)
          have h10384 : z10383.toInt = a1.toInt + 1 := h10384
          refine g_iload_n C dX8_walk_138 rfl 4 rfl ?_
          refine g_iconst (v := 1) C dX8_walk_139 (by decide) ?_
          refine s_iadd C dX8_walk_140 (by show -2147483648 ≤ a2.toInt + 1 ∧ a2.toInt + 1 ≤ 2147483647; omega) (fun z10385 h10386 => ?_)
          have h10386 : z10385.toInt = a2.toInt + 1 := h10386
          refine g_aload_n C dX8_walk_141 rfl 2 rfl ?_
          refine g_getI C fi_X8_42 (by decide) (h10382).1 (h10382).2 dX8_walk_142 ?_
          have u10388 := ti_rng (pI Y10375 a0 5)
          refine b_if_ne C 159 dX8_walk_145 (by decide) (fun h10387 => ?_) (fun h10387 => ?_)
          · have h10387 : (pI Y10375 a0 5).toInt ≠ 0 := ti_ne h10387
            refine g_iload_n C dX8_walk_159 rfl 5 rfl ?_
            refine g_lv (lv' := [(0, .ref a0), (4, .int z10345), (5, .int z10351)]) [2, 1, 0] rfl ?_
            exact J160 Y10375 z10345 z10351 a3 z10385 z10383 Iy10377 Xz10381 (by omega) (by omega) (by omega) (by omega) (by omega)
          · have h10387 : (pI Y10375 a0 5).toInt = 0 := congrArg Int32.toInt h10387
            refine g_aload_n C dX8_walk_148 rfl 2 rfl ?_
            obtain ⟨b10389, e10390, h10391⟩ := Iy10377.fld (h10382) 2 5 0 rfl
            refine g_getR C fi_X8_21 rfl e10390 (h10382).1 (h10382).2 dX8_walk_149 ?_
            refine g_iload_n C dX8_walk_152 rfl 5 rfl ?_
            refine g_callVI (rest := [.int z10385, .int z10383, .ref a0]) C mv_X8_93 [.int a3] (s_X5_spread Iy10377 h10391.at) (h10391.at).1 (h10391.at).2 rfl rfl (by decide) (Nat.le_of_ble_eq_true rfl) (by decide) dX8_walk_153 (fun r10392 Y10393 h10394 => ?_)
            obtain ⟨rfl, h10394⟩ := h10394
            have h10394 : True := h10394
            refine g_goto C 160 dX8_walk_156 (by decide) ?_
            refine g_lv (lv' := [(0, .ref a0), (4, .int z10345), (5, .int z10351)]) [2, 1, 0] rfl ?_
            exact J160 Y10375 z10345 z10351 r10392 z10385 z10383 Iy10377 Xz10381 (by omega) (by omega) (by omega) (by omega) (by omega)
        · have h10329 : z10326.toInt < (pI P a0 6).toInt := h10329
          exact ret _ _ _ _ _ dX8_walk_79 (by decide) (by decide) ⟨I, EK.rf⟩
  have J32 : G E ({ frames := 7, cells := 0, slots := 0, locals := 448 } : Room) D cy 6 P 0 0 32 [(0, .ref a0), (1, .int a1), (2, .int a2)] [] := by
    refine g_aload_n C dX8_walk_32 rfl 0 rfl ?_
    refine g_aload_n C dX8_walk_33 rfl 0 rfl ?_
    refine g_getI C fi_X8_38 (by decide) (ha0).1 (ha0).2 dX8_walk_34 ?_
    have h10395 := I.rg (ha0) 4 rfl
    refine g_iload_n C dX8_walk_37 rfl 1 rfl ?_
    refine s_isub C dX8_walk_38 (by show -2147483648 ≤ (pI P a0 4).toInt - a1.toInt ∧ (pI P a0 4).toInt - a1.toInt ≤ 2147483647; omega) (fun z10396 h10397 => ?_)
    have h10397 : z10396.toInt = (pI P a0 4).toInt - a1.toInt := h10397
    refine g_iload_n C dX8_walk_39 rfl 2 rfl ?_
    refine g_callVV (rest := []) C mv_X8_80 [.int z10396, .int a2] (s_X8_addAllWith I ha0 (by omega) (by omega)) (ha0).1 (ha0).2 rfl rfl (by decide) (Nat.le_of_ble_eq_true rfl) (by decide) dX8_walk_40 (fun Y10399 h10400 => ?_)
    obtain ⟨Iy10401, Xy10402⟩ := h10400
    have q10403 := Xy10402.keep ha0 (by decide) 4
    have Xz10404 : EK [0, 5, 13] P Y10399 := Xy10402.mono (by decide)
    have h10405 := Xy10402.at ha0
    exact ret _ _ _ _ _ dX8_walk_43 (by decide) (by decide) ⟨Iy10401, Xz10404⟩
  refine g_aload_n C dX8_walk_0 rfl 0 rfl ?_
  refine g_getI C fi_X8_42 (by decide) (ha0).1 (ha0).2 dX8_walk_1 ?_
  have u10407 := ti_rng (pI P a0 5)
  refine b_if_ne C 18 dX8_walk_4 (by decide) (fun h10406 => ?_) (fun h10406 => ?_)
  · have h10406 : (pI P a0 5).toInt ≠ 0 := ti_ne h10406
    refine g_aload_n C dX8_walk_18 rfl 0 rfl ?_
    obtain ⟨b10408, e10409, h10410⟩ := I.fld (ha0) 3 0 0 rfl
    refine g_getR C fi_X8_28 rfl e10409 (ha0).1 (ha0).2 dX8_walk_19 ?_
    refine g_getI C fi_X8_77 (by decide) (h10410.at).1 (h10410.at).2 dX8_walk_22 ?_
    have h10411 := I.rg (h10410.at) 2 rfl
    refine g_aload_n C dX8_walk_25 rfl 0 rfl ?_
    refine g_getI C fi_X8_51 (by decide) (ha0).1 (ha0).2 dX8_walk_26 ?_
    have h10412 := I.rg (ha0) 6 rfl
    refine b_icmp_ne C 44 dX8_walk_29 (by decide) (fun h10413 => ?_) (fun h10413 => ?_)
    · have h10413 : (pI P b10408 2).toInt ≠ (pI P a0 6).toInt := ti_ne h10413
      exact J44 
    · have h10413 : (pI P b10408 2).toInt = (pI P a0 6).toInt := congrArg Int32.toInt h10413
      refine g_lv (lv' := [(0, .ref a0), (1, .int a1), (2, .int a2)]) [0, 1, 2] rfl ?_
      exact J32 
  · have h10406 : (pI P a0 5).toInt = 0 := congrArg Int32.toInt h10406
    refine g_iload_n C dX8_walk_7 rfl 3 rfl ?_
    refine g_aload_n C dX8_walk_8 rfl 0 rfl ?_
    refine g_getI C fi_X8_56 (by decide) (ha0).1 (ha0).2 dX8_walk_9 ?_
    have u10415 := ti_rng a3
    have u10416 := ti_rng (pI P a0 7)
    refine b_icmp_ne C 44 dX8_walk_12 (by decide) (fun h10414 => ?_) (fun h10414 => ?_)
    · have h10414 : a3.toInt ≠ (pI P a0 7).toInt := ti_ne h10414
      exact J44 
    · have h10414 : a3.toInt = (pI P a0 7).toInt := congrArg Int32.toInt h10414
      refine g_goto C 32 dX8_walk_15 (by decide) ?_
      refine g_lv (lv' := [(0, .ref a0), (1, .int a1), (2, .int a2)]) [0, 1, 2] rfl ?_
      exact J32 
set_option maxHeartbeats 4000000 in
set_option maxRecDepth 100000 in
theorem s_X8_walk_L5 {P : PP} {a0 : Nat} {a1 : Int32} {a2 : Int32} {a3 : Int32} (I : IV P) (ha0 : At P a0 8) (ha1 : 6 ≤ a1.toInt ∧ a1.toInt ≤ 6) (ha2 : 0 ≤ a2.toInt ∧ a2.toInt ≤ 6) : CtrV yX8_walk cX8_walk 6 none ({ frames := 8, cells := 0, slots := 0, locals := 512 } : Room) 0 0 P [.ref a0, .int a1, .int a2, .int a3] (fun P2 => IV P2 ∧ EK [0, 5, 13] P P2) := by
  refine enV (lv := [(0, .ref a0), (1, .int a1), (2, .int a2), (3, .int a3)]) (by decide) (Nat.le_of_ble_eq_true rfl) rfl (fun E D cy C Ci0 ret => ?_)
  have J160 : ∀ (P160 : PP) (v160_4 : Int32) (v160_5 : Int32) (v160_s0 : Int32) (v160_s1 : Int32) (v160_s2 : Int32), (IV P160) → (EK [0, 5, 13] P P160) → (0 ≤ v160_4.toInt ∧ v160_4.toInt ≤ 20) → (0 ≤ v160_5.toInt ∧ v160_5.toInt ≤ 44) → (1 ≤ v160_s1.toInt ∧ v160_s1.toInt ≤ 7) → (7 ≤ v160_s2.toInt ∧ v160_s2.toInt ≤ 7) → (7 ≤ (pI P160 a0 4).toInt ∧ (pI P160 a0 4).toInt ≤ 11) → G E ({ frames := 8, cells := 0, slots := 0, locals := 512 } : Room) D cy 6 P160 0 0 160 [(0, .ref a0), (4, .int v160_4), (5, .int v160_5)] [.int v160_s0, .int v160_s1, .int v160_s2, .ref a0] := by
    intro P160 v160_4 v160_5 v160_s0 v160_s1 v160_s2 I160 X160 hv160_4 hv160_5 hv160_s1 hv160_s2 hq160_0
    have h10548 := X160.at ha0
    refine g_callVV (rest := []) C mv_X8_73 [.int v160_s2, .int v160_s1, .int v160_s0] (s_X8_walk_L4 I160 h10548 (by omega) (by omega)) (h10548).1 (h10548).2 rfl rfl (by decide) (Nat.le_of_ble_eq_true rfl) (by decide) dX8_walk_160 (fun Y10550 h10551 => ?_)
    obtain ⟨Iy10552, Xy10553⟩ := h10551
    have q10554 := Xy10553.keep h10548 (by decide) 4
    have Xz10555 : EK [0, 5, 13] P Y10550 := X160.tr (Xy10553.mono (by decide))
    have h10556 := Xy10553.at h10548
    refine g_aload_n C dX8_walk_163 rfl 0 rfl ?_
    obtain ⟨b10557, e10558, h10559⟩ := Iy10552.fld (h10556) 3 0 0 rfl
    refine g_getR C fi_X8_28 rfl e10558 (h10556).1 (h10556).2 dX8_walk_164 ?_
    refine g_iload C dX8_walk_167 1 rfl ?_
    refine g_callVV (rest := []) C mv_X8_96 [.int v160_4] (s_X0_cut Iy10552 h10559.at) (h10559.at).1 (h10559.at).2 rfl rfl (by decide) (Nat.le_of_ble_eq_true rfl) (by decide) dX8_walk_169 (fun Y10561 h10562 => ?_)
    obtain ⟨Iy10563, Xy10564⟩ := h10562
    have q10565 := Xy10564.keep h10556 (by decide) 4
    have Xz10566 : EK [0, 5, 13] P Y10561 := Xz10555.tr (Xy10564.mono (by decide))
    have h10567 := Xy10564.at h10556
    refine g_aload_n C dX8_walk_172 rfl 0 rfl ?_
    obtain ⟨b10568, e10569, h10570⟩ := Iy10563.fld (h10567) 2 5 0 rfl
    refine g_getR C fi_X8_21 rfl e10569 (h10567).1 (h10567).2 dX8_walk_173 ?_
    refine g_iload C dX8_walk_176 2 rfl ?_
    refine g_callVV (rest := []) C mv_X8_99 [.int v160_5] (s_X5_cut Iy10563 h10570.at) (h10570.at).1 (h10570.at).2 rfl rfl (by decide) (Nat.le_of_ble_eq_true rfl) (by decide) dX8_walk_178 (fun Y10572 h10573 => ?_)
    obtain ⟨Iy10574, Xy10575⟩ := h10573
    have q10576 := Xy10575.keep h10567 (by decide) 4
    have Xz10577 : EK [0, 5, 13] P Y10572 := Xz10566.tr (Xy10575.mono (by decide))
    have h10578 := Xy10575.at h10567
    exact ret _ _ _ _ _ dX8_walk_181 (by decide) (by decide) ⟨Iy10574, Xz10577⟩
  have J44 : G E ({ frames := 8, cells := 0, slots := 0, locals := 512 } : Room) D cy 6 P 0 0 44 [(0, .ref a0), (1, .int a1), (2, .int a2), (3, .int a3)] [] := by
    refine g_iload_n C dX8_walk_44 rfl 1 rfl ?_
    refine g_aload_n C dX8_walk_45 rfl 0 rfl ?_
    refine g_getI C fi_X8_38 (by decide) (ha0).1 (ha0).2 dX8_walk_46 ?_
    have h10579 := I.rg (ha0) 4 rfl
    refine b_icmp_ge C 79 dX8_walk_49 (by decide) (fun h10580 => ?_) (fun h10580 => ?_)
    · have h10580 : (pI P a0 4).toInt ≤ a1.toInt := h10580
      exact ret _ _ _ _ _ dX8_walk_79 (by decide) (by decide) ⟨I, EK.rf⟩
    · have h10580 : a1.toInt < (pI P a0 4).toInt := h10580
      refine g_iload_n C dX8_walk_52 rfl 1 rfl ?_
      refine g_bipush (v := 11) C dX8_walk_53 (by decide) ?_
      refine b_icmp_ge C 79 dX8_walk_55 (by decide) (fun h10581 => ?_) (fun h10581 => ?_)
      · have h10581 : 11 ≤ a1.toInt := h10581
        omega
      · have h10581 : a1.toInt < 11 := h10581
        refine g_aload_n C dX8_walk_58 rfl 0 rfl ?_
        obtain ⟨b10582, e10583, h10584⟩ := I.fld (ha0) 3 0 0 rfl
        refine g_getR C fi_X8_28 rfl e10583 (ha0).1 (ha0).2 dX8_walk_59 ?_
        refine g_getI C fi_X8_77 (by decide) (h10584.at).1 (h10584.at).2 dX8_walk_62 ?_
        have h10585 := I.rg (h10584.at) 2 rfl
        refine g_aload_n C dX8_walk_65 rfl 0 rfl ?_
        refine g_getI C fi_X8_38 (by decide) (ha0).1 (ha0).2 dX8_walk_66 ?_
        refine s_iadd C dX8_walk_69 (by show -2147483648 ≤ (pI P b10582 2).toInt + (pI P a0 4).toInt ∧ (pI P b10582 2).toInt + (pI P a0 4).toInt ≤ 2147483647; omega) (fun z10586 h10587 => ?_)
        have h10587 : z10586.toInt = (pI P b10582 2).toInt + (pI P a0 4).toInt := h10587
        refine g_iload_n C dX8_walk_70 rfl 1 rfl ?_
        refine s_isub C dX8_walk_71 (by show -2147483648 ≤ z10586.toInt - a1.toInt ∧ z10586.toInt - a1.toInt ≤ 2147483647; omega) (fun z10588 h10589 => ?_)
        have h10589 : z10588.toInt = z10586.toInt - a1.toInt := h10589
        refine g_aload_n C dX8_walk_72 rfl 0 rfl ?_
        refine g_getI C fi_X8_51 (by decide) (ha0).1 (ha0).2 dX8_walk_73 ?_
        have h10590 := I.rg (ha0) 6 rfl
        refine b_icmp_ge C 80 dX8_walk_76 (by decide) (fun h10591 => ?_) (fun h10591 => ?_)
        · have h10591 : (pI P a0 6).toInt ≤ z10588.toInt := h10591
          refine g_aload_n C dX8_walk_80 rfl 0 rfl ?_
          refine g_iload_n C dX8_walk_81 rfl 1 rfl ?_
          refine g_iconst (v := 1) C dX8_walk_82 (by decide) ?_
          refine s_iadd C dX8_walk_83 (by show -2147483648 ≤ a1.toInt + 1 ∧ a1.toInt + 1 ≤ 2147483647; omega) (fun z10592 h10593 => ?_)
          have h10593 : z10592.toInt = a1.toInt + 1 := h10593
          refine g_iload_n C dX8_walk_84 rfl 2 rfl ?_
          refine g_iload_n C dX8_walk_85 rfl 3 rfl ?_
          refine g_callVV (rest := []) C mv_X8_73 [.int z10592, .int a2, .int a3] (s_X8_walk_L4 I ha0 (by omega) (by omega)) (ha0).1 (ha0).2 rfl rfl (by decide) (Nat.le_of_ble_eq_true rfl) (by decide) dX8_walk_86 (fun Y10595 h10596 => ?_)
          obtain ⟨Iy10597, Xy10598⟩ := h10596
          have q10599 := Xy10598.keep ha0 (by decide) 4
          have q10600 := Xy10598.keep ha0 (by decide) 6
          have Xz10601 : EK [0, 5, 13] P Y10595 := Xy10598.mono (by decide)
          have h10602 := Xy10598.at ha0
          refine g_aload_n C dX8_walk_89 rfl 0 rfl ?_
          obtain ⟨b10603, e10604, h10605⟩ := Iy10597.fld (h10602) 3 0 0 rfl
          refine g_getR C fi_X8_28 rfl e10604 (h10602).1 (h10602).2 dX8_walk_90 ?_
          refine g_getI C fi_X8_77 (by decide) (h10605.at).1 (h10605.at).2 dX8_walk_93 ?_
          have h10606 := Iy10597.rg (h10605.at) 2 rfl
          refine g_topi (fun z10607 h10608 => ?_)
          have h10608 : z10607.toInt = (pI Y10595 b10603 2).toInt := congrArg Int32.toInt h10608
          refine g_istore (lv' := [(4, .int z10607), (0, .ref a0), (1, .int a1), (2, .int a2), (3, .int a3)]) C dX8_walk_96 (by decide) rfl ?_
          refine g_aload_n C dX8_walk_98 rfl 1 rfl ?_
          obtain ⟨b10609, e10610, h10611⟩ := Iy10597.fld (h10602) 2 5 0 rfl
          refine g_getR C fi_X8_21 rfl e10610 (h10602).1 (h10602).2 dX8_walk_99 ?_
          refine g_getI C fi_X8_84 (by decide) (h10611.at).1 (h10611.at).2 dX8_walk_102 ?_
          have h10612 := Iy10597.rg (h10611.at) 4 rfl
          refine g_topi (fun z10613 h10614 => ?_)
          have h10614 : z10613.toInt = (pI Y10595 b10609 4).toInt := congrArg Int32.toInt h10614
          refine g_istore (lv' := [(5, .int z10613), (4, .int z10607), (0, .ref a0), (1, .int a1), (2, .int a2), (3, .int a3)]) C dX8_walk_105 (by decide) rfl ?_
          refine g_aload_n C dX8_walk_107 rfl 2 rfl ?_
          refine g_getR C fi_X8_28 rfl e10604 (h10602).1 (h10602).2 dX8_walk_108 ?_
          refine g_aload_n C dX8_walk_111 rfl 2 rfl ?_
          obtain ⟨b10615, e10616, h10617⟩ := Iy10597.fld (h10602) 1 13 11 rfl
          refine g_getR C fi_X8_15 rfl e10616 (h10602).1 (h10602).2 dX8_walk_112 ?_
          refine g_iload_n C dX8_walk_115 rfl 3 rfl ?_
          refine g_iald (j := (a1.toInt.toNat)) C h10617.1 h10617.2.1 (ix_in h10617.2.2 (by omega)) dX8_walk_116 ?_
          refine g_topi (fun z10618 _ => ?_)
          refine g_callVV (rest := []) C mv_X8_87 [.int z10618] (s_X0_add Iy10597 h10605.at) (h10605.at).1 (h10605.at).2 rfl rfl (by decide) (Nat.le_of_ble_eq_true rfl) (by decide) dX8_walk_117 (fun Y10620 h10621 => ?_)
          obtain ⟨Iy10622, Xy10623⟩ := h10621
          have q10624 := Xy10623.keep h10602 (by decide) 4
          have q10625 := Xy10623.keep h10602 (by decide) 6
          have q10626 := Xy10623.keep (h10611.at) (by decide) 4
          have Xz10627 : EK [0, 5, 13] P Y10620 := Xz10601.tr (Xy10623.mono (by decide))
          have h10628 := Xy10623.at h10602
          refine g_aload_n C dX8_walk_120 rfl 2 rfl ?_
          obtain ⟨b10629, e10630, h10631⟩ := Iy10622.fld (h10628) 2 5 0 rfl
          refine g_getR C fi_X8_21 rfl e10630 (h10628).1 (h10628).2 dX8_walk_121 ?_
          refine g_aload_n C dX8_walk_124 rfl 2 rfl ?_
          obtain ⟨b10632, e10633, h10634⟩ := Iy10622.fld (h10628) 1 13 11 rfl
          refine g_getR C fi_X8_15 rfl e10633 (h10628).1 (h10628).2 dX8_walk_125 ?_
          refine g_iload_n C dX8_walk_128 rfl 3 rfl ?_
          refine g_iald (j := (a1.toInt.toNat)) C h10634.1 h10634.2.1 (ix_in h10634.2.2 (by omega)) dX8_walk_129 ?_
          refine g_topi (fun z10635 _ => ?_)
          refine g_iload_n C dX8_walk_130 rfl 3 rfl ?_
          refine g_callVV (rest := []) C mv_X8_91 [.int z10635, .int a1] (s_X5_add Iy10622 h10631.at) (h10631.at).1 (h10631.at).2 rfl rfl (by decide) (Nat.le_of_ble_eq_true rfl) (by decide) dX8_walk_131 (fun Y10637 h10638 => ?_)
          obtain ⟨Iy10639, Xy10640⟩ := h10638
          have q10641 := Xy10640.keep h10628 (by decide) 4
          have q10642 := Xy10640.keep h10628 (by decide) 6
          have Xz10643 : EK [0, 5, 13] P Y10637 := Xz10627.tr (Xy10640.mono (by decide))
          have h10644 := Xy10640.at h10628
          refine g_aload_n C dX8_walk_134 rfl 2 rfl ?_
          refine g_iload_n C dX8_walk_135 rfl 3 rfl ?_
          refine g_iconst (v := 1) C dX8_walk_136 (by decide) ?_
          refine s_iadd C dX8_walk_137 (by show -2147483648 ≤ a1.toInt + 1 ∧ a1.toInt + 1 ≤ 2147483647; omega) (fun z10645 h10646 => ?_)
          have h10646 : z10645.toInt = a1.toInt + 1 := h10646
          refine g_iload_n C dX8_walk_138 rfl 4 rfl ?_
          refine g_iconst (v := 1) C dX8_walk_139 (by decide) ?_
          refine s_iadd C dX8_walk_140 (by show -2147483648 ≤ a2.toInt + 1 ∧ a2.toInt + 1 ≤ 2147483647; omega) (fun z10647 h10648 => ?_)
          have h10648 : z10647.toInt = a2.toInt + 1 := h10648
          refine g_aload_n C dX8_walk_141 rfl 2 rfl ?_
          refine g_getI C fi_X8_42 (by decide) (h10644).1 (h10644).2 dX8_walk_142 ?_
          have u10650 := ti_rng (pI Y10637 a0 5)
          refine b_if_ne C 159 dX8_walk_145 (by decide) (fun h10649 => ?_) (fun h10649 => ?_)
          · have h10649 : (pI Y10637 a0 5).toInt ≠ 0 := ti_ne h10649
            refine g_iload_n C dX8_walk_159 rfl 5 rfl ?_
            refine g_lv (lv' := [(0, .ref a0), (4, .int z10607), (5, .int z10613)]) [2, 1, 0] rfl ?_
            exact J160 Y10637 z10607 z10613 a3 z10647 z10645 Iy10639 Xz10643 (by omega) (by omega) (by omega) (by omega) (by omega)
          · have h10649 : (pI Y10637 a0 5).toInt = 0 := congrArg Int32.toInt h10649
            refine g_aload_n C dX8_walk_148 rfl 2 rfl ?_
            obtain ⟨b10651, e10652, h10653⟩ := Iy10639.fld (h10644) 2 5 0 rfl
            refine g_getR C fi_X8_21 rfl e10652 (h10644).1 (h10644).2 dX8_walk_149 ?_
            refine g_iload_n C dX8_walk_152 rfl 5 rfl ?_
            refine g_callVI (rest := [.int z10647, .int z10645, .ref a0]) C mv_X8_93 [.int a3] (s_X5_spread Iy10639 h10653.at) (h10653.at).1 (h10653.at).2 rfl rfl (by decide) (Nat.le_of_ble_eq_true rfl) (by decide) dX8_walk_153 (fun r10654 Y10655 h10656 => ?_)
            obtain ⟨rfl, h10656⟩ := h10656
            have h10656 : True := h10656
            refine g_goto C 160 dX8_walk_156 (by decide) ?_
            refine g_lv (lv' := [(0, .ref a0), (4, .int z10607), (5, .int z10613)]) [2, 1, 0] rfl ?_
            exact J160 Y10637 z10607 z10613 r10654 z10647 z10645 Iy10639 Xz10643 (by omega) (by omega) (by omega) (by omega) (by omega)
        · have h10591 : z10588.toInt < (pI P a0 6).toInt := h10591
          exact ret _ _ _ _ _ dX8_walk_79 (by decide) (by decide) ⟨I, EK.rf⟩
  have J32 : G E ({ frames := 8, cells := 0, slots := 0, locals := 512 } : Room) D cy 6 P 0 0 32 [(0, .ref a0), (1, .int a1), (2, .int a2)] [] := by
    refine g_aload_n C dX8_walk_32 rfl 0 rfl ?_
    refine g_aload_n C dX8_walk_33 rfl 0 rfl ?_
    refine g_getI C fi_X8_38 (by decide) (ha0).1 (ha0).2 dX8_walk_34 ?_
    have h10657 := I.rg (ha0) 4 rfl
    refine g_iload_n C dX8_walk_37 rfl 1 rfl ?_
    refine s_isub C dX8_walk_38 (by show -2147483648 ≤ (pI P a0 4).toInt - a1.toInt ∧ (pI P a0 4).toInt - a1.toInt ≤ 2147483647; omega) (fun z10658 h10659 => ?_)
    have h10659 : z10658.toInt = (pI P a0 4).toInt - a1.toInt := h10659
    refine g_iload_n C dX8_walk_39 rfl 2 rfl ?_
    refine g_callVV (rest := []) C mv_X8_80 [.int z10658, .int a2] (s_X8_addAllWith I ha0 (by omega) (by omega)) (ha0).1 (ha0).2 rfl rfl (by decide) (Nat.le_of_ble_eq_true rfl) (by decide) dX8_walk_40 (fun Y10661 h10662 => ?_)
    obtain ⟨Iy10663, Xy10664⟩ := h10662
    have q10665 := Xy10664.keep ha0 (by decide) 4
    have Xz10666 : EK [0, 5, 13] P Y10661 := Xy10664.mono (by decide)
    have h10667 := Xy10664.at ha0
    exact ret _ _ _ _ _ dX8_walk_43 (by decide) (by decide) ⟨Iy10663, Xz10666⟩
  refine g_aload_n C dX8_walk_0 rfl 0 rfl ?_
  refine g_getI C fi_X8_42 (by decide) (ha0).1 (ha0).2 dX8_walk_1 ?_
  have u10669 := ti_rng (pI P a0 5)
  refine b_if_ne C 18 dX8_walk_4 (by decide) (fun h10668 => ?_) (fun h10668 => ?_)
  · have h10668 : (pI P a0 5).toInt ≠ 0 := ti_ne h10668
    refine g_aload_n C dX8_walk_18 rfl 0 rfl ?_
    obtain ⟨b10670, e10671, h10672⟩ := I.fld (ha0) 3 0 0 rfl
    refine g_getR C fi_X8_28 rfl e10671 (ha0).1 (ha0).2 dX8_walk_19 ?_
    refine g_getI C fi_X8_77 (by decide) (h10672.at).1 (h10672.at).2 dX8_walk_22 ?_
    have h10673 := I.rg (h10672.at) 2 rfl
    refine g_aload_n C dX8_walk_25 rfl 0 rfl ?_
    refine g_getI C fi_X8_51 (by decide) (ha0).1 (ha0).2 dX8_walk_26 ?_
    have h10674 := I.rg (ha0) 6 rfl
    refine b_icmp_ne C 44 dX8_walk_29 (by decide) (fun h10675 => ?_) (fun h10675 => ?_)
    · have h10675 : (pI P b10670 2).toInt ≠ (pI P a0 6).toInt := ti_ne h10675
      exact J44 
    · have h10675 : (pI P b10670 2).toInt = (pI P a0 6).toInt := congrArg Int32.toInt h10675
      refine g_lv (lv' := [(0, .ref a0), (1, .int a1), (2, .int a2)]) [0, 1, 2] rfl ?_
      exact J32 
  · have h10668 : (pI P a0 5).toInt = 0 := congrArg Int32.toInt h10668
    refine g_iload_n C dX8_walk_7 rfl 3 rfl ?_
    refine g_aload_n C dX8_walk_8 rfl 0 rfl ?_
    refine g_getI C fi_X8_56 (by decide) (ha0).1 (ha0).2 dX8_walk_9 ?_
    have u10677 := ti_rng a3
    have u10678 := ti_rng (pI P a0 7)
    refine b_icmp_ne C 44 dX8_walk_12 (by decide) (fun h10676 => ?_) (fun h10676 => ?_)
    · have h10676 : a3.toInt ≠ (pI P a0 7).toInt := ti_ne h10676
      exact J44 
    · have h10676 : a3.toInt = (pI P a0 7).toInt := congrArg Int32.toInt h10676
      refine g_goto C 32 dX8_walk_15 (by decide) ?_
      refine g_lv (lv' := [(0, .ref a0), (1, .int a1), (2, .int a2)]) [0, 1, 2] rfl ?_
      exact J32 
set_option maxHeartbeats 4000000 in
set_option maxRecDepth 100000 in
theorem s_X8_walk_L6 {P : PP} {a0 : Nat} {a1 : Int32} {a2 : Int32} {a3 : Int32} (I : IV P) (ha0 : At P a0 8) (ha1 : 5 ≤ a1.toInt ∧ a1.toInt ≤ 5) (ha2 : 0 ≤ a2.toInt ∧ a2.toInt ≤ 5) : CtrV yX8_walk cX8_walk 6 none ({ frames := 9, cells := 0, slots := 0, locals := 576 } : Room) 0 0 P [.ref a0, .int a1, .int a2, .int a3] (fun P2 => IV P2 ∧ EK [0, 5, 13] P P2) := by
  refine enV (lv := [(0, .ref a0), (1, .int a1), (2, .int a2), (3, .int a3)]) (by decide) (Nat.le_of_ble_eq_true rfl) rfl (fun E D cy C Ci0 ret => ?_)
  have J160 : ∀ (P160 : PP) (v160_4 : Int32) (v160_5 : Int32) (v160_s0 : Int32) (v160_s1 : Int32) (v160_s2 : Int32), (IV P160) → (EK [0, 5, 13] P P160) → (0 ≤ v160_4.toInt ∧ v160_4.toInt ≤ 20) → (0 ≤ v160_5.toInt ∧ v160_5.toInt ≤ 44) → (1 ≤ v160_s1.toInt ∧ v160_s1.toInt ≤ 6) → (6 ≤ v160_s2.toInt ∧ v160_s2.toInt ≤ 6) → (6 ≤ (pI P160 a0 4).toInt ∧ (pI P160 a0 4).toInt ≤ 11) → G E ({ frames := 9, cells := 0, slots := 0, locals := 576 } : Room) D cy 6 P160 0 0 160 [(0, .ref a0), (4, .int v160_4), (5, .int v160_5)] [.int v160_s0, .int v160_s1, .int v160_s2, .ref a0] := by
    intro P160 v160_4 v160_5 v160_s0 v160_s1 v160_s2 I160 X160 hv160_4 hv160_5 hv160_s1 hv160_s2 hq160_0
    have h10810 := X160.at ha0
    refine g_callVV (rest := []) C mv_X8_73 [.int v160_s2, .int v160_s1, .int v160_s0] (s_X8_walk_L5 I160 h10810 (by omega) (by omega)) (h10810).1 (h10810).2 rfl rfl (by decide) (Nat.le_of_ble_eq_true rfl) (by decide) dX8_walk_160 (fun Y10812 h10813 => ?_)
    obtain ⟨Iy10814, Xy10815⟩ := h10813
    have q10816 := Xy10815.keep h10810 (by decide) 4
    have Xz10817 : EK [0, 5, 13] P Y10812 := X160.tr (Xy10815.mono (by decide))
    have h10818 := Xy10815.at h10810
    refine g_aload_n C dX8_walk_163 rfl 0 rfl ?_
    obtain ⟨b10819, e10820, h10821⟩ := Iy10814.fld (h10818) 3 0 0 rfl
    refine g_getR C fi_X8_28 rfl e10820 (h10818).1 (h10818).2 dX8_walk_164 ?_
    refine g_iload C dX8_walk_167 1 rfl ?_
    refine g_callVV (rest := []) C mv_X8_96 [.int v160_4] (s_X0_cut Iy10814 h10821.at) (h10821.at).1 (h10821.at).2 rfl rfl (by decide) (Nat.le_of_ble_eq_true rfl) (by decide) dX8_walk_169 (fun Y10823 h10824 => ?_)
    obtain ⟨Iy10825, Xy10826⟩ := h10824
    have q10827 := Xy10826.keep h10818 (by decide) 4
    have Xz10828 : EK [0, 5, 13] P Y10823 := Xz10817.tr (Xy10826.mono (by decide))
    have h10829 := Xy10826.at h10818
    refine g_aload_n C dX8_walk_172 rfl 0 rfl ?_
    obtain ⟨b10830, e10831, h10832⟩ := Iy10825.fld (h10829) 2 5 0 rfl
    refine g_getR C fi_X8_21 rfl e10831 (h10829).1 (h10829).2 dX8_walk_173 ?_
    refine g_iload C dX8_walk_176 2 rfl ?_
    refine g_callVV (rest := []) C mv_X8_99 [.int v160_5] (s_X5_cut Iy10825 h10832.at) (h10832.at).1 (h10832.at).2 rfl rfl (by decide) (Nat.le_of_ble_eq_true rfl) (by decide) dX8_walk_178 (fun Y10834 h10835 => ?_)
    obtain ⟨Iy10836, Xy10837⟩ := h10835
    have q10838 := Xy10837.keep h10829 (by decide) 4
    have Xz10839 : EK [0, 5, 13] P Y10834 := Xz10828.tr (Xy10837.mono (by decide))
    have h10840 := Xy10837.at h10829
    exact ret _ _ _ _ _ dX8_walk_181 (by decide) (by decide) ⟨Iy10836, Xz10839⟩
  have J44 : G E ({ frames := 9, cells := 0, slots := 0, locals := 576 } : Room) D cy 6 P 0 0 44 [(0, .ref a0), (1, .int a1), (2, .int a2), (3, .int a3)] [] := by
    refine g_iload_n C dX8_walk_44 rfl 1 rfl ?_
    refine g_aload_n C dX8_walk_45 rfl 0 rfl ?_
    refine g_getI C fi_X8_38 (by decide) (ha0).1 (ha0).2 dX8_walk_46 ?_
    have h10841 := I.rg (ha0) 4 rfl
    refine b_icmp_ge C 79 dX8_walk_49 (by decide) (fun h10842 => ?_) (fun h10842 => ?_)
    · have h10842 : (pI P a0 4).toInt ≤ a1.toInt := h10842
      exact ret _ _ _ _ _ dX8_walk_79 (by decide) (by decide) ⟨I, EK.rf⟩
    · have h10842 : a1.toInt < (pI P a0 4).toInt := h10842
      refine g_iload_n C dX8_walk_52 rfl 1 rfl ?_
      refine g_bipush (v := 11) C dX8_walk_53 (by decide) ?_
      refine b_icmp_ge C 79 dX8_walk_55 (by decide) (fun h10843 => ?_) (fun h10843 => ?_)
      · have h10843 : 11 ≤ a1.toInt := h10843
        omega
      · have h10843 : a1.toInt < 11 := h10843
        refine g_aload_n C dX8_walk_58 rfl 0 rfl ?_
        obtain ⟨b10844, e10845, h10846⟩ := I.fld (ha0) 3 0 0 rfl
        refine g_getR C fi_X8_28 rfl e10845 (ha0).1 (ha0).2 dX8_walk_59 ?_
        refine g_getI C fi_X8_77 (by decide) (h10846.at).1 (h10846.at).2 dX8_walk_62 ?_
        have h10847 := I.rg (h10846.at) 2 rfl
        refine g_aload_n C dX8_walk_65 rfl 0 rfl ?_
        refine g_getI C fi_X8_38 (by decide) (ha0).1 (ha0).2 dX8_walk_66 ?_
        refine s_iadd C dX8_walk_69 (by show -2147483648 ≤ (pI P b10844 2).toInt + (pI P a0 4).toInt ∧ (pI P b10844 2).toInt + (pI P a0 4).toInt ≤ 2147483647; omega) (fun z10848 h10849 => ?_)
        have h10849 : z10848.toInt = (pI P b10844 2).toInt + (pI P a0 4).toInt := h10849
        refine g_iload_n C dX8_walk_70 rfl 1 rfl ?_
        refine s_isub C dX8_walk_71 (by show -2147483648 ≤ z10848.toInt - a1.toInt ∧ z10848.toInt - a1.toInt ≤ 2147483647; omega) (fun z10850 h10851 => ?_)
        have h10851 : z10850.toInt = z10848.toInt - a1.toInt := h10851
        refine g_aload_n C dX8_walk_72 rfl 0 rfl ?_
        refine g_getI C fi_X8_51 (by decide) (ha0).1 (ha0).2 dX8_walk_73 ?_
        have h10852 := I.rg (ha0) 6 rfl
        refine b_icmp_ge C 80 dX8_walk_76 (by decide) (fun h10853 => ?_) (fun h10853 => ?_)
        · have h10853 : (pI P a0 6).toInt ≤ z10850.toInt := h10853
          refine g_aload_n C dX8_walk_80 rfl 0 rfl ?_
          refine g_iload_n C dX8_walk_81 rfl 1 rfl ?_
          refine g_iconst (v := 1) C dX8_walk_82 (by decide) ?_
          refine s_iadd C dX8_walk_83 (by show -2147483648 ≤ a1.toInt + 1 ∧ a1.toInt + 1 ≤ 2147483647; omega) (fun z10854 h10855 => ?_)
          have h10855 : z10854.toInt = a1.toInt + 1 := h10855
          refine g_iload_n C dX8_walk_84 rfl 2 rfl ?_
          refine g_iload_n C dX8_walk_85 rfl 3 rfl ?_
          refine g_callVV (rest := []) C mv_X8_73 [.int z10854, .int a2, .int a3] (s_X8_walk_L5 I ha0 (by omega) (by omega)) (ha0).1 (ha0).2 rfl rfl (by decide) (Nat.le_of_ble_eq_true rfl) (by decide) dX8_walk_86 (fun Y10857 h10858 => ?_)
          obtain ⟨Iy10859, Xy10860⟩ := h10858
          have q10861 := Xy10860.keep ha0 (by decide) 4
          have q10862 := Xy10860.keep ha0 (by decide) 6
          have Xz10863 : EK [0, 5, 13] P Y10857 := Xy10860.mono (by decide)
          have h10864 := Xy10860.at ha0
          refine g_aload_n C dX8_walk_89 rfl 0 rfl ?_
          obtain ⟨b10865, e10866, h10867⟩ := Iy10859.fld (h10864) 3 0 0 rfl
          refine g_getR C fi_X8_28 rfl e10866 (h10864).1 (h10864).2 dX8_walk_90 ?_
          refine g_getI C fi_X8_77 (by decide) (h10867.at).1 (h10867.at).2 dX8_walk_93 ?_
          have h10868 := Iy10859.rg (h10867.at) 2 rfl
          refine g_topi (fun z10869 h10870 => ?_)
          have h10870 : z10869.toInt = (pI Y10857 b10865 2).toInt := congrArg Int32.toInt h10870
          refine g_istore (lv' := [(4, .int z10869), (0, .ref a0), (1, .int a1), (2, .int a2), (3, .int a3)]) C dX8_walk_96 (by decide) rfl ?_
          refine g_aload_n C dX8_walk_98 rfl 1 rfl ?_
          obtain ⟨b10871, e10872, h10873⟩ := Iy10859.fld (h10864) 2 5 0 rfl
          refine g_getR C fi_X8_21 rfl e10872 (h10864).1 (h10864).2 dX8_walk_99 ?_
          refine g_getI C fi_X8_84 (by decide) (h10873.at).1 (h10873.at).2 dX8_walk_102 ?_
          have h10874 := Iy10859.rg (h10873.at) 4 rfl
          refine g_topi (fun z10875 h10876 => ?_)
          have h10876 : z10875.toInt = (pI Y10857 b10871 4).toInt := congrArg Int32.toInt h10876
          refine g_istore (lv' := [(5, .int z10875), (4, .int z10869), (0, .ref a0), (1, .int a1), (2, .int a2), (3, .int a3)]) C dX8_walk_105 (by decide) rfl ?_
          refine g_aload_n C dX8_walk_107 rfl 2 rfl ?_
          refine g_getR C fi_X8_28 rfl e10866 (h10864).1 (h10864).2 dX8_walk_108 ?_
          refine g_aload_n C dX8_walk_111 rfl 2 rfl ?_
          obtain ⟨b10877, e10878, h10879⟩ := Iy10859.fld (h10864) 1 13 11 rfl
          refine g_getR C fi_X8_15 rfl e10878 (h10864).1 (h10864).2 dX8_walk_112 ?_
          refine g_iload_n C dX8_walk_115 rfl 3 rfl ?_
          refine g_iald (j := (a1.toInt.toNat)) C h10879.1 h10879.2.1 (ix_in h10879.2.2 (by omega)) dX8_walk_116 ?_
          refine g_topi (fun z10880 _ => ?_)
          refine g_callVV (rest := []) C mv_X8_87 [.int z10880] (s_X0_add Iy10859 h10867.at) (h10867.at).1 (h10867.at).2 rfl rfl (by decide) (Nat.le_of_ble_eq_true rfl) (by decide) dX8_walk_117 (fun Y10882 h10883 => ?_)
          obtain ⟨Iy10884, Xy10885⟩ := h10883
          have q10886 := Xy10885.keep h10864 (by decide) 4
          have q10887 := Xy10885.keep h10864 (by decide) 6
          have q10888 := Xy10885.keep (h10873.at) (by decide) 4
          have Xz10889 : EK [0, 5, 13] P Y10882 := Xz10863.tr (Xy10885.mono (by decide))
          have h10890 := Xy10885.at h10864
          refine g_aload_n C dX8_walk_120 rfl 2 rfl ?_
          obtain ⟨b10891, e10892, h10893⟩ := Iy10884.fld (h10890) 2 5 0 rfl
          refine g_getR C fi_X8_21 rfl e10892 (h10890).1 (h10890).2 dX8_walk_121 ?_
          refine g_aload_n C dX8_walk_124 rfl 2 rfl ?_
          obtain ⟨b10894, e10895, h10896⟩ := Iy10884.fld (h10890) 1 13 11 rfl
          refine g_getR C fi_X8_15 rfl e10895 (h10890).1 (h10890).2 dX8_walk_125 ?_
          refine g_iload_n C dX8_walk_128 rfl 3 rfl ?_
          refine g_iald (j := (a1.toInt.toNat)) C h10896.1 h10896.2.1 (ix_in h10896.2.2 (by omega)) dX8_walk_129 ?_
          refine g_topi (fun z10897 _ => ?_)
          refine g_iload_n C dX8_walk_130 rfl 3 rfl ?_
          refine g_callVV (rest := []) C mv_X8_91 [.int z10897, .int a1] (s_X5_add Iy10884 h10893.at) (h10893.at).1 (h10893.at).2 rfl rfl (by decide) (Nat.le_of_ble_eq_true rfl) (by decide) dX8_walk_131 (fun Y10899 h10900 => ?_)
          obtain ⟨Iy10901, Xy10902⟩ := h10900
          have q10903 := Xy10902.keep h10890 (by decide) 4
          have q10904 := Xy10902.keep h10890 (by decide) 6
          have Xz10905 : EK [0, 5, 13] P Y10899 := Xz10889.tr (Xy10902.mono (by decide))
          have h10906 := Xy10902.at h10890
          refine g_aload_n C dX8_walk_134 rfl 2 rfl ?_
          refine g_iload_n C dX8_walk_135 rfl 3 rfl ?_
          refine g_iconst (v := 1) C dX8_walk_136 (by decide) ?_
          refine s_iadd C dX8_walk_137 (by show -2147483648 ≤ a1.toInt + 1 ∧ a1.toInt + 1 ≤ 2147483647; omega) (fun z10907 h10908 => ?_)
          have h10908 : z10907.toInt = a1.toInt + 1 := h10908
          refine g_iload_n C dX8_walk_138 rfl 4 rfl ?_
          refine g_iconst (v := 1) C dX8_walk_139 (by decide) ?_
          refine s_iadd C dX8_walk_140 (by show -2147483648 ≤ a2.toInt + 1 ∧ a2.toInt + 1 ≤ 2147483647; omega) (fun z10909 h10910 => ?_)
          have h10910 : z10909.toInt = a2.toInt + 1 := h10910
          refine g_aload_n C dX8_walk_141 rfl 2 rfl ?_
          refine g_getI C fi_X8_42 (by decide) (h10906).1 (h10906).2 dX8_walk_142 ?_
          have u10912 := ti_rng (pI Y10899 a0 5)
          refine b_if_ne C 159 dX8_walk_145 (by decide) (fun h10911 => ?_) (fun h10911 => ?_)
          · have h10911 : (pI Y10899 a0 5).toInt ≠ 0 := ti_ne h10911
            refine g_iload_n C dX8_walk_159 rfl 5 rfl ?_
            refine g_lv (lv' := [(0, .ref a0), (4, .int z10869), (5, .int z10875)]) [2, 1, 0] rfl ?_
            exact J160 Y10899 z10869 z10875 a3 z10909 z10907 Iy10901 Xz10905 (by omega) (by omega) (by omega) (by omega) (by omega)
          · have h10911 : (pI Y10899 a0 5).toInt = 0 := congrArg Int32.toInt h10911
            refine g_aload_n C dX8_walk_148 rfl 2 rfl ?_
            obtain ⟨b10913, e10914, h10915⟩ := Iy10901.fld (h10906) 2 5 0 rfl
            refine g_getR C fi_X8_21 rfl e10914 (h10906).1 (h10906).2 dX8_walk_149 ?_
            refine g_iload_n C dX8_walk_152 rfl 5 rfl ?_
            refine g_callVI (rest := [.int z10909, .int z10907, .ref a0]) C mv_X8_93 [.int a3] (s_X5_spread Iy10901 h10915.at) (h10915.at).1 (h10915.at).2 rfl rfl (by decide) (Nat.le_of_ble_eq_true rfl) (by decide) dX8_walk_153 (fun r10916 Y10917 h10918 => ?_)
            obtain ⟨rfl, h10918⟩ := h10918
            have h10918 : True := h10918
            refine g_goto C 160 dX8_walk_156 (by decide) ?_
            refine g_lv (lv' := [(0, .ref a0), (4, .int z10869), (5, .int z10875)]) [2, 1, 0] rfl ?_
            exact J160 Y10899 z10869 z10875 r10916 z10909 z10907 Iy10901 Xz10905 (by omega) (by omega) (by omega) (by omega) (by omega)
        · have h10853 : z10850.toInt < (pI P a0 6).toInt := h10853
          exact ret _ _ _ _ _ dX8_walk_79 (by decide) (by decide) ⟨I, EK.rf⟩
  have J32 : G E ({ frames := 9, cells := 0, slots := 0, locals := 576 } : Room) D cy 6 P 0 0 32 [(0, .ref a0), (1, .int a1), (2, .int a2)] [] := by
    refine g_aload_n C dX8_walk_32 rfl 0 rfl ?_
    refine g_aload_n C dX8_walk_33 rfl 0 rfl ?_
    refine g_getI C fi_X8_38 (by decide) (ha0).1 (ha0).2 dX8_walk_34 ?_
    have h10919 := I.rg (ha0) 4 rfl
    refine g_iload_n C dX8_walk_37 rfl 1 rfl ?_
    refine s_isub C dX8_walk_38 (by show -2147483648 ≤ (pI P a0 4).toInt - a1.toInt ∧ (pI P a0 4).toInt - a1.toInt ≤ 2147483647; omega) (fun z10920 h10921 => ?_)
    have h10921 : z10920.toInt = (pI P a0 4).toInt - a1.toInt := h10921
    refine g_iload_n C dX8_walk_39 rfl 2 rfl ?_
    refine g_callVV (rest := []) C mv_X8_80 [.int z10920, .int a2] (s_X8_addAllWith I ha0 (by omega) (by omega)) (ha0).1 (ha0).2 rfl rfl (by decide) (Nat.le_of_ble_eq_true rfl) (by decide) dX8_walk_40 (fun Y10923 h10924 => ?_)
    obtain ⟨Iy10925, Xy10926⟩ := h10924
    have q10927 := Xy10926.keep ha0 (by decide) 4
    have Xz10928 : EK [0, 5, 13] P Y10923 := Xy10926.mono (by decide)
    have h10929 := Xy10926.at ha0
    exact ret _ _ _ _ _ dX8_walk_43 (by decide) (by decide) ⟨Iy10925, Xz10928⟩
  refine g_aload_n C dX8_walk_0 rfl 0 rfl ?_
  refine g_getI C fi_X8_42 (by decide) (ha0).1 (ha0).2 dX8_walk_1 ?_
  have u10931 := ti_rng (pI P a0 5)
  refine b_if_ne C 18 dX8_walk_4 (by decide) (fun h10930 => ?_) (fun h10930 => ?_)
  · have h10930 : (pI P a0 5).toInt ≠ 0 := ti_ne h10930
    refine g_aload_n C dX8_walk_18 rfl 0 rfl ?_
    obtain ⟨b10932, e10933, h10934⟩ := I.fld (ha0) 3 0 0 rfl
    refine g_getR C fi_X8_28 rfl e10933 (ha0).1 (ha0).2 dX8_walk_19 ?_
    refine g_getI C fi_X8_77 (by decide) (h10934.at).1 (h10934.at).2 dX8_walk_22 ?_
    have h10935 := I.rg (h10934.at) 2 rfl
    refine g_aload_n C dX8_walk_25 rfl 0 rfl ?_
    refine g_getI C fi_X8_51 (by decide) (ha0).1 (ha0).2 dX8_walk_26 ?_
    have h10936 := I.rg (ha0) 6 rfl
    refine b_icmp_ne C 44 dX8_walk_29 (by decide) (fun h10937 => ?_) (fun h10937 => ?_)
    · have h10937 : (pI P b10932 2).toInt ≠ (pI P a0 6).toInt := ti_ne h10937
      exact J44 
    · have h10937 : (pI P b10932 2).toInt = (pI P a0 6).toInt := congrArg Int32.toInt h10937
      refine g_lv (lv' := [(0, .ref a0), (1, .int a1), (2, .int a2)]) [0, 1, 2] rfl ?_
      exact J32 
  · have h10930 : (pI P a0 5).toInt = 0 := congrArg Int32.toInt h10930
    refine g_iload_n C dX8_walk_7 rfl 3 rfl ?_
    refine g_aload_n C dX8_walk_8 rfl 0 rfl ?_
    refine g_getI C fi_X8_56 (by decide) (ha0).1 (ha0).2 dX8_walk_9 ?_
    have u10939 := ti_rng a3
    have u10940 := ti_rng (pI P a0 7)
    refine b_icmp_ne C 44 dX8_walk_12 (by decide) (fun h10938 => ?_) (fun h10938 => ?_)
    · have h10938 : a3.toInt ≠ (pI P a0 7).toInt := ti_ne h10938
      exact J44 
    · have h10938 : a3.toInt = (pI P a0 7).toInt := congrArg Int32.toInt h10938
      refine g_goto C 32 dX8_walk_15 (by decide) ?_
      refine g_lv (lv' := [(0, .ref a0), (1, .int a1), (2, .int a2)]) [0, 1, 2] rfl ?_
      exact J32 
set_option maxHeartbeats 4000000 in
set_option maxRecDepth 100000 in
theorem s_X8_walk_L7 {P : PP} {a0 : Nat} {a1 : Int32} {a2 : Int32} {a3 : Int32} (I : IV P) (ha0 : At P a0 8) (ha1 : 4 ≤ a1.toInt ∧ a1.toInt ≤ 4) (ha2 : 0 ≤ a2.toInt ∧ a2.toInt ≤ 4) : CtrV yX8_walk cX8_walk 6 none ({ frames := 10, cells := 0, slots := 0, locals := 640 } : Room) 0 0 P [.ref a0, .int a1, .int a2, .int a3] (fun P2 => IV P2 ∧ EK [0, 5, 13] P P2) := by
  refine enV (lv := [(0, .ref a0), (1, .int a1), (2, .int a2), (3, .int a3)]) (by decide) (Nat.le_of_ble_eq_true rfl) rfl (fun E D cy C Ci0 ret => ?_)
  have J160 : ∀ (P160 : PP) (v160_4 : Int32) (v160_5 : Int32) (v160_s0 : Int32) (v160_s1 : Int32) (v160_s2 : Int32), (IV P160) → (EK [0, 5, 13] P P160) → (0 ≤ v160_4.toInt ∧ v160_4.toInt ≤ 20) → (0 ≤ v160_5.toInt ∧ v160_5.toInt ≤ 44) → (1 ≤ v160_s1.toInt ∧ v160_s1.toInt ≤ 5) → (5 ≤ v160_s2.toInt ∧ v160_s2.toInt ≤ 5) → (5 ≤ (pI P160 a0 4).toInt ∧ (pI P160 a0 4).toInt ≤ 11) → G E ({ frames := 10, cells := 0, slots := 0, locals := 640 } : Room) D cy 6 P160 0 0 160 [(0, .ref a0), (4, .int v160_4), (5, .int v160_5)] [.int v160_s0, .int v160_s1, .int v160_s2, .ref a0] := by
    intro P160 v160_4 v160_5 v160_s0 v160_s1 v160_s2 I160 X160 hv160_4 hv160_5 hv160_s1 hv160_s2 hq160_0
    have h11072 := X160.at ha0
    refine g_callVV (rest := []) C mv_X8_73 [.int v160_s2, .int v160_s1, .int v160_s0] (s_X8_walk_L6 I160 h11072 (by omega) (by omega)) (h11072).1 (h11072).2 rfl rfl (by decide) (Nat.le_of_ble_eq_true rfl) (by decide) dX8_walk_160 (fun Y11074 h11075 => ?_)
    obtain ⟨Iy11076, Xy11077⟩ := h11075
    have q11078 := Xy11077.keep h11072 (by decide) 4
    have Xz11079 : EK [0, 5, 13] P Y11074 := X160.tr (Xy11077.mono (by decide))
    have h11080 := Xy11077.at h11072
    refine g_aload_n C dX8_walk_163 rfl 0 rfl ?_
    obtain ⟨b11081, e11082, h11083⟩ := Iy11076.fld (h11080) 3 0 0 rfl
    refine g_getR C fi_X8_28 rfl e11082 (h11080).1 (h11080).2 dX8_walk_164 ?_
    refine g_iload C dX8_walk_167 1 rfl ?_
    refine g_callVV (rest := []) C mv_X8_96 [.int v160_4] (s_X0_cut Iy11076 h11083.at) (h11083.at).1 (h11083.at).2 rfl rfl (by decide) (Nat.le_of_ble_eq_true rfl) (by decide) dX8_walk_169 (fun Y11085 h11086 => ?_)
    obtain ⟨Iy11087, Xy11088⟩ := h11086
    have q11089 := Xy11088.keep h11080 (by decide) 4
    have Xz11090 : EK [0, 5, 13] P Y11085 := Xz11079.tr (Xy11088.mono (by decide))
    have h11091 := Xy11088.at h11080
    refine g_aload_n C dX8_walk_172 rfl 0 rfl ?_
    obtain ⟨b11092, e11093, h11094⟩ := Iy11087.fld (h11091) 2 5 0 rfl
    refine g_getR C fi_X8_21 rfl e11093 (h11091).1 (h11091).2 dX8_walk_173 ?_
    refine g_iload C dX8_walk_176 2 rfl ?_
    refine g_callVV (rest := []) C mv_X8_99 [.int v160_5] (s_X5_cut Iy11087 h11094.at) (h11094.at).1 (h11094.at).2 rfl rfl (by decide) (Nat.le_of_ble_eq_true rfl) (by decide) dX8_walk_178 (fun Y11096 h11097 => ?_)
    obtain ⟨Iy11098, Xy11099⟩ := h11097
    have q11100 := Xy11099.keep h11091 (by decide) 4
    have Xz11101 : EK [0, 5, 13] P Y11096 := Xz11090.tr (Xy11099.mono (by decide))
    have h11102 := Xy11099.at h11091
    exact ret _ _ _ _ _ dX8_walk_181 (by decide) (by decide) ⟨Iy11098, Xz11101⟩
  have J44 : G E ({ frames := 10, cells := 0, slots := 0, locals := 640 } : Room) D cy 6 P 0 0 44 [(0, .ref a0), (1, .int a1), (2, .int a2), (3, .int a3)] [] := by
    refine g_iload_n C dX8_walk_44 rfl 1 rfl ?_
    refine g_aload_n C dX8_walk_45 rfl 0 rfl ?_
    refine g_getI C fi_X8_38 (by decide) (ha0).1 (ha0).2 dX8_walk_46 ?_
    have h11103 := I.rg (ha0) 4 rfl
    refine b_icmp_ge C 79 dX8_walk_49 (by decide) (fun h11104 => ?_) (fun h11104 => ?_)
    · have h11104 : (pI P a0 4).toInt ≤ a1.toInt := h11104
      exact ret _ _ _ _ _ dX8_walk_79 (by decide) (by decide) ⟨I, EK.rf⟩
    · have h11104 : a1.toInt < (pI P a0 4).toInt := h11104
      refine g_iload_n C dX8_walk_52 rfl 1 rfl ?_
      refine g_bipush (v := 11) C dX8_walk_53 (by decide) ?_
      refine b_icmp_ge C 79 dX8_walk_55 (by decide) (fun h11105 => ?_) (fun h11105 => ?_)
      · have h11105 : 11 ≤ a1.toInt := h11105
        omega
      · have h11105 : a1.toInt < 11 := h11105
        refine g_aload_n C dX8_walk_58 rfl 0 rfl ?_
        obtain ⟨b11106, e11107, h11108⟩ := I.fld (ha0) 3 0 0 rfl
        refine g_getR C fi_X8_28 rfl e11107 (ha0).1 (ha0).2 dX8_walk_59 ?_
        refine g_getI C fi_X8_77 (by decide) (h11108.at).1 (h11108.at).2 dX8_walk_62 ?_
        have h11109 := I.rg (h11108.at) 2 rfl
        refine g_aload_n C dX8_walk_65 rfl 0 rfl ?_
        refine g_getI C fi_X8_38 (by decide) (ha0).1 (ha0).2 dX8_walk_66 ?_
        refine s_iadd C dX8_walk_69 (by show -2147483648 ≤ (pI P b11106 2).toInt + (pI P a0 4).toInt ∧ (pI P b11106 2).toInt + (pI P a0 4).toInt ≤ 2147483647; omega) (fun z11110 h11111 => ?_)
        have h11111 : z11110.toInt = (pI P b11106 2).toInt + (pI P a0 4).toInt := h11111
        refine g_iload_n C dX8_walk_70 rfl 1 rfl ?_
        refine s_isub C dX8_walk_71 (by show -2147483648 ≤ z11110.toInt - a1.toInt ∧ z11110.toInt - a1.toInt ≤ 2147483647; omega) (fun z11112 h11113 => ?_)
        have h11113 : z11112.toInt = z11110.toInt - a1.toInt := h11113
        refine g_aload_n C dX8_walk_72 rfl 0 rfl ?_
        refine g_getI C fi_X8_51 (by decide) (ha0).1 (ha0).2 dX8_walk_73 ?_
        have h11114 := I.rg (ha0) 6 rfl
        refine b_icmp_ge C 80 dX8_walk_76 (by decide) (fun h11115 => ?_) (fun h11115 => ?_)
        · have h11115 : (pI P a0 6).toInt ≤ z11112.toInt := h11115
          refine g_aload_n C dX8_walk_80 rfl 0 rfl ?_
          refine g_iload_n C dX8_walk_81 rfl 1 rfl ?_
          refine g_iconst (v := 1) C dX8_walk_82 (by decide) ?_
          refine s_iadd C dX8_walk_83 (by show -2147483648 ≤ a1.toInt + 1 ∧ a1.toInt + 1 ≤ 2147483647; omega) (fun z11116 h11117 => ?_)
          have h11117 : z11116.toInt = a1.toInt + 1 := h11117
          refine g_iload_n C dX8_walk_84 rfl 2 rfl ?_
          refine g_iload_n C dX8_walk_85 rfl 3 rfl ?_
          refine g_callVV (rest := []) C mv_X8_73 [.int z11116, .int a2, .int a3] (s_X8_walk_L6 I ha0 (by omega) (by omega)) (ha0).1 (ha0).2 rfl rfl (by decide) (Nat.le_of_ble_eq_true rfl) (by decide) dX8_walk_86 (fun Y11119 h11120 => ?_)
          obtain ⟨Iy11121, Xy11122⟩ := h11120
          have q11123 := Xy11122.keep ha0 (by decide) 4
          have q11124 := Xy11122.keep ha0 (by decide) 6
          have Xz11125 : EK [0, 5, 13] P Y11119 := Xy11122.mono (by decide)
          have h11126 := Xy11122.at ha0
          refine g_aload_n C dX8_walk_89 rfl 0 rfl ?_
          obtain ⟨b11127, e11128, h11129⟩ := Iy11121.fld (h11126) 3 0 0 rfl
          refine g_getR C fi_X8_28 rfl e11128 (h11126).1 (h11126).2 dX8_walk_90 ?_
          refine g_getI C fi_X8_77 (by decide) (h11129.at).1 (h11129.at).2 dX8_walk_93 ?_
          have h11130 := Iy11121.rg (h11129.at) 2 rfl
          refine g_topi (fun z11131 h11132 => ?_)
          have h11132 : z11131.toInt = (pI Y11119 b11127 2).toInt := congrArg Int32.toInt h11132
          refine g_istore (lv' := [(4, .int z11131), (0, .ref a0), (1, .int a1), (2, .int a2), (3, .int a3)]) C dX8_walk_96 (by decide) rfl ?_
          refine g_aload_n C dX8_walk_98 rfl 1 rfl ?_
          obtain ⟨b11133, e11134, h11135⟩ := Iy11121.fld (h11126) 2 5 0 rfl
          refine g_getR C fi_X8_21 rfl e11134 (h11126).1 (h11126).2 dX8_walk_99 ?_
          refine g_getI C fi_X8_84 (by decide) (h11135.at).1 (h11135.at).2 dX8_walk_102 ?_
          have h11136 := Iy11121.rg (h11135.at) 4 rfl
          refine g_topi (fun z11137 h11138 => ?_)
          have h11138 : z11137.toInt = (pI Y11119 b11133 4).toInt := congrArg Int32.toInt h11138
          refine g_istore (lv' := [(5, .int z11137), (4, .int z11131), (0, .ref a0), (1, .int a1), (2, .int a2), (3, .int a3)]) C dX8_walk_105 (by decide) rfl ?_
          refine g_aload_n C dX8_walk_107 rfl 2 rfl ?_
          refine g_getR C fi_X8_28 rfl e11128 (h11126).1 (h11126).2 dX8_walk_108 ?_
          refine g_aload_n C dX8_walk_111 rfl 2 rfl ?_
          obtain ⟨b11139, e11140, h11141⟩ := Iy11121.fld (h11126) 1 13 11 rfl
          refine g_getR C fi_X8_15 rfl e11140 (h11126).1 (h11126).2 dX8_walk_112 ?_
          refine g_iload_n C dX8_walk_115 rfl 3 rfl ?_
          refine g_iald (j := (a1.toInt.toNat)) C h11141.1 h11141.2.1 (ix_in h11141.2.2 (by omega)) dX8_walk_116 ?_
          refine g_topi (fun z11142 _ => ?_)
          refine g_callVV (rest := []) C mv_X8_87 [.int z11142] (s_X0_add Iy11121 h11129.at) (h11129.at).1 (h11129.at).2 rfl rfl (by decide) (Nat.le_of_ble_eq_true rfl) (by decide) dX8_walk_117 (fun Y11144 h11145 => ?_)
          obtain ⟨Iy11146, Xy11147⟩ := h11145
          have q11148 := Xy11147.keep h11126 (by decide) 4
          have q11149 := Xy11147.keep h11126 (by decide) 6
          have q11150 := Xy11147.keep (h11135.at) (by decide) 4
          have Xz11151 : EK [0, 5, 13] P Y11144 := Xz11125.tr (Xy11147.mono (by decide))
          have h11152 := Xy11147.at h11126
          refine g_aload_n C dX8_walk_120 rfl 2 rfl ?_
          obtain ⟨b11153, e11154, h11155⟩ := Iy11146.fld (h11152) 2 5 0 rfl
          refine g_getR C fi_X8_21 rfl e11154 (h11152).1 (h11152).2 dX8_walk_121 ?_
          refine g_aload_n C dX8_walk_124 rfl 2 rfl ?_
          obtain ⟨b11156, e11157, h11158⟩ := Iy11146.fld (h11152) 1 13 11 rfl
          refine g_getR C fi_X8_15 rfl e11157 (h11152).1 (h11152).2 dX8_walk_125 ?_
          refine g_iload_n C dX8_walk_128 rfl 3 rfl ?_
          refine g_iald (j := (a1.toInt.toNat)) C h11158.1 h11158.2.1 (ix_in h11158.2.2 (by omega)) dX8_walk_129 ?_
          refine g_topi (fun z11159 _ => ?_)
          refine g_iload_n C dX8_walk_130 rfl 3 rfl ?_
          refine g_callVV (rest := []) C mv_X8_91 [.int z11159, .int a1] (s_X5_add Iy11146 h11155.at) (h11155.at).1 (h11155.at).2 rfl rfl (by decide) (Nat.le_of_ble_eq_true rfl) (by decide) dX8_walk_131 (fun Y11161 h11162 => ?_)
          obtain ⟨Iy11163, Xy11164⟩ := h11162
          have q11165 := Xy11164.keep h11152 (by decide) 4
          have q11166 := Xy11164.keep h11152 (by decide) 6
          have Xz11167 : EK [0, 5, 13] P Y11161 := Xz11151.tr (Xy11164.mono (by decide))
          have h11168 := Xy11164.at h11152
          refine g_aload_n C dX8_walk_134 rfl 2 rfl ?_
          refine g_iload_n C dX8_walk_135 rfl 3 rfl ?_
          refine g_iconst (v := 1) C dX8_walk_136 (by decide) ?_
          refine s_iadd C dX8_walk_137 (by show -2147483648 ≤ a1.toInt + 1 ∧ a1.toInt + 1 ≤ 2147483647; omega) (fun z11169 h11170 => ?_)
          have h11170 : z11169.toInt = a1.toInt + 1 := h11170
          refine g_iload_n C dX8_walk_138 rfl 4 rfl ?_
          refine g_iconst (v := 1) C dX8_walk_139 (by decide) ?_
          refine s_iadd C dX8_walk_140 (by show -2147483648 ≤ a2.toInt + 1 ∧ a2.toInt + 1 ≤ 2147483647; omega) (fun z11171 h11172 => ?_)
          have h11172 : z11171.toInt = a2.toInt + 1 := h11172
          refine g_aload_n C dX8_walk_141 rfl 2 rfl ?_
          refine g_getI C fi_X8_42 (by decide) (h11168).1 (h11168).2 dX8_walk_142 ?_
          have u11174 := ti_rng (pI Y11161 a0 5)
          refine b_if_ne C 159 dX8_walk_145 (by decide) (fun h11173 => ?_) (fun h11173 => ?_)
          · have h11173 : (pI Y11161 a0 5).toInt ≠ 0 := ti_ne h11173
            refine g_iload_n C dX8_walk_159 rfl 5 rfl ?_
            refine g_lv (lv' := [(0, .ref a0), (4, .int z11131), (5, .int z11137)]) [2, 1, 0] rfl ?_
            exact J160 Y11161 z11131 z11137 a3 z11171 z11169 Iy11163 Xz11167 (by omega) (by omega) (by omega) (by omega) (by omega)
          · have h11173 : (pI Y11161 a0 5).toInt = 0 := congrArg Int32.toInt h11173
            refine g_aload_n C dX8_walk_148 rfl 2 rfl ?_
            obtain ⟨b11175, e11176, h11177⟩ := Iy11163.fld (h11168) 2 5 0 rfl
            refine g_getR C fi_X8_21 rfl e11176 (h11168).1 (h11168).2 dX8_walk_149 ?_
            refine g_iload_n C dX8_walk_152 rfl 5 rfl ?_
            refine g_callVI (rest := [.int z11171, .int z11169, .ref a0]) C mv_X8_93 [.int a3] (s_X5_spread Iy11163 h11177.at) (h11177.at).1 (h11177.at).2 rfl rfl (by decide) (Nat.le_of_ble_eq_true rfl) (by decide) dX8_walk_153 (fun r11178 Y11179 h11180 => ?_)
            obtain ⟨rfl, h11180⟩ := h11180
            have h11180 : True := h11180
            refine g_goto C 160 dX8_walk_156 (by decide) ?_
            refine g_lv (lv' := [(0, .ref a0), (4, .int z11131), (5, .int z11137)]) [2, 1, 0] rfl ?_
            exact J160 Y11161 z11131 z11137 r11178 z11171 z11169 Iy11163 Xz11167 (by omega) (by omega) (by omega) (by omega) (by omega)
        · have h11115 : z11112.toInt < (pI P a0 6).toInt := h11115
          exact ret _ _ _ _ _ dX8_walk_79 (by decide) (by decide) ⟨I, EK.rf⟩
  have J32 : G E ({ frames := 10, cells := 0, slots := 0, locals := 640 } : Room) D cy 6 P 0 0 32 [(0, .ref a0), (1, .int a1), (2, .int a2)] [] := by
    refine g_aload_n C dX8_walk_32 rfl 0 rfl ?_
    refine g_aload_n C dX8_walk_33 rfl 0 rfl ?_
    refine g_getI C fi_X8_38 (by decide) (ha0).1 (ha0).2 dX8_walk_34 ?_
    have h11181 := I.rg (ha0) 4 rfl
    refine g_iload_n C dX8_walk_37 rfl 1 rfl ?_
    refine s_isub C dX8_walk_38 (by show -2147483648 ≤ (pI P a0 4).toInt - a1.toInt ∧ (pI P a0 4).toInt - a1.toInt ≤ 2147483647; omega) (fun z11182 h11183 => ?_)
    have h11183 : z11182.toInt = (pI P a0 4).toInt - a1.toInt := h11183
    refine g_iload_n C dX8_walk_39 rfl 2 rfl ?_
    refine g_callVV (rest := []) C mv_X8_80 [.int z11182, .int a2] (s_X8_addAllWith I ha0 (by omega) (by omega)) (ha0).1 (ha0).2 rfl rfl (by decide) (Nat.le_of_ble_eq_true rfl) (by decide) dX8_walk_40 (fun Y11185 h11186 => ?_)
    obtain ⟨Iy11187, Xy11188⟩ := h11186
    have q11189 := Xy11188.keep ha0 (by decide) 4
    have Xz11190 : EK [0, 5, 13] P Y11185 := Xy11188.mono (by decide)
    have h11191 := Xy11188.at ha0
    exact ret _ _ _ _ _ dX8_walk_43 (by decide) (by decide) ⟨Iy11187, Xz11190⟩
  refine g_aload_n C dX8_walk_0 rfl 0 rfl ?_
  refine g_getI C fi_X8_42 (by decide) (ha0).1 (ha0).2 dX8_walk_1 ?_
  have u11193 := ti_rng (pI P a0 5)
  refine b_if_ne C 18 dX8_walk_4 (by decide) (fun h11192 => ?_) (fun h11192 => ?_)
  · have h11192 : (pI P a0 5).toInt ≠ 0 := ti_ne h11192
    refine g_aload_n C dX8_walk_18 rfl 0 rfl ?_
    obtain ⟨b11194, e11195, h11196⟩ := I.fld (ha0) 3 0 0 rfl
    refine g_getR C fi_X8_28 rfl e11195 (ha0).1 (ha0).2 dX8_walk_19 ?_
    refine g_getI C fi_X8_77 (by decide) (h11196.at).1 (h11196.at).2 dX8_walk_22 ?_
    have h11197 := I.rg (h11196.at) 2 rfl
    refine g_aload_n C dX8_walk_25 rfl 0 rfl ?_
    refine g_getI C fi_X8_51 (by decide) (ha0).1 (ha0).2 dX8_walk_26 ?_
    have h11198 := I.rg (ha0) 6 rfl
    refine b_icmp_ne C 44 dX8_walk_29 (by decide) (fun h11199 => ?_) (fun h11199 => ?_)
    · have h11199 : (pI P b11194 2).toInt ≠ (pI P a0 6).toInt := ti_ne h11199
      exact J44 
    · have h11199 : (pI P b11194 2).toInt = (pI P a0 6).toInt := congrArg Int32.toInt h11199
      refine g_lv (lv' := [(0, .ref a0), (1, .int a1), (2, .int a2)]) [0, 1, 2] rfl ?_
      exact J32 
  · have h11192 : (pI P a0 5).toInt = 0 := congrArg Int32.toInt h11192
    refine g_iload_n C dX8_walk_7 rfl 3 rfl ?_
    refine g_aload_n C dX8_walk_8 rfl 0 rfl ?_
    refine g_getI C fi_X8_56 (by decide) (ha0).1 (ha0).2 dX8_walk_9 ?_
    have u11201 := ti_rng a3
    have u11202 := ti_rng (pI P a0 7)
    refine b_icmp_ne C 44 dX8_walk_12 (by decide) (fun h11200 => ?_) (fun h11200 => ?_)
    · have h11200 : a3.toInt ≠ (pI P a0 7).toInt := ti_ne h11200
      exact J44 
    · have h11200 : a3.toInt = (pI P a0 7).toInt := congrArg Int32.toInt h11200
      refine g_goto C 32 dX8_walk_15 (by decide) ?_
      refine g_lv (lv' := [(0, .ref a0), (1, .int a1), (2, .int a2)]) [0, 1, 2] rfl ?_
      exact J32 
set_option maxHeartbeats 4000000 in
set_option maxRecDepth 100000 in
theorem s_X8_walk_L8 {P : PP} {a0 : Nat} {a1 : Int32} {a2 : Int32} {a3 : Int32} (I : IV P) (ha0 : At P a0 8) (ha1 : 3 ≤ a1.toInt ∧ a1.toInt ≤ 3) (ha2 : 0 ≤ a2.toInt ∧ a2.toInt ≤ 3) : CtrV yX8_walk cX8_walk 6 none ({ frames := 11, cells := 0, slots := 0, locals := 704 } : Room) 0 0 P [.ref a0, .int a1, .int a2, .int a3] (fun P2 => IV P2 ∧ EK [0, 5, 13] P P2) := by
  refine enV (lv := [(0, .ref a0), (1, .int a1), (2, .int a2), (3, .int a3)]) (by decide) (Nat.le_of_ble_eq_true rfl) rfl (fun E D cy C Ci0 ret => ?_)
  have J160 : ∀ (P160 : PP) (v160_4 : Int32) (v160_5 : Int32) (v160_s0 : Int32) (v160_s1 : Int32) (v160_s2 : Int32), (IV P160) → (EK [0, 5, 13] P P160) → (0 ≤ v160_4.toInt ∧ v160_4.toInt ≤ 20) → (0 ≤ v160_5.toInt ∧ v160_5.toInt ≤ 44) → (1 ≤ v160_s1.toInt ∧ v160_s1.toInt ≤ 4) → (4 ≤ v160_s2.toInt ∧ v160_s2.toInt ≤ 4) → (4 ≤ (pI P160 a0 4).toInt ∧ (pI P160 a0 4).toInt ≤ 11) → G E ({ frames := 11, cells := 0, slots := 0, locals := 704 } : Room) D cy 6 P160 0 0 160 [(0, .ref a0), (4, .int v160_4), (5, .int v160_5)] [.int v160_s0, .int v160_s1, .int v160_s2, .ref a0] := by
    intro P160 v160_4 v160_5 v160_s0 v160_s1 v160_s2 I160 X160 hv160_4 hv160_5 hv160_s1 hv160_s2 hq160_0
    have h11334 := X160.at ha0
    refine g_callVV (rest := []) C mv_X8_73 [.int v160_s2, .int v160_s1, .int v160_s0] (s_X8_walk_L7 I160 h11334 (by omega) (by omega)) (h11334).1 (h11334).2 rfl rfl (by decide) (Nat.le_of_ble_eq_true rfl) (by decide) dX8_walk_160 (fun Y11336 h11337 => ?_)
    obtain ⟨Iy11338, Xy11339⟩ := h11337
    have q11340 := Xy11339.keep h11334 (by decide) 4
    have Xz11341 : EK [0, 5, 13] P Y11336 := X160.tr (Xy11339.mono (by decide))
    have h11342 := Xy11339.at h11334
    refine g_aload_n C dX8_walk_163 rfl 0 rfl ?_
    obtain ⟨b11343, e11344, h11345⟩ := Iy11338.fld (h11342) 3 0 0 rfl
    refine g_getR C fi_X8_28 rfl e11344 (h11342).1 (h11342).2 dX8_walk_164 ?_
    refine g_iload C dX8_walk_167 1 rfl ?_
    refine g_callVV (rest := []) C mv_X8_96 [.int v160_4] (s_X0_cut Iy11338 h11345.at) (h11345.at).1 (h11345.at).2 rfl rfl (by decide) (Nat.le_of_ble_eq_true rfl) (by decide) dX8_walk_169 (fun Y11347 h11348 => ?_)
    obtain ⟨Iy11349, Xy11350⟩ := h11348
    have q11351 := Xy11350.keep h11342 (by decide) 4
    have Xz11352 : EK [0, 5, 13] P Y11347 := Xz11341.tr (Xy11350.mono (by decide))
    have h11353 := Xy11350.at h11342
    refine g_aload_n C dX8_walk_172 rfl 0 rfl ?_
    obtain ⟨b11354, e11355, h11356⟩ := Iy11349.fld (h11353) 2 5 0 rfl
    refine g_getR C fi_X8_21 rfl e11355 (h11353).1 (h11353).2 dX8_walk_173 ?_
    refine g_iload C dX8_walk_176 2 rfl ?_
    refine g_callVV (rest := []) C mv_X8_99 [.int v160_5] (s_X5_cut Iy11349 h11356.at) (h11356.at).1 (h11356.at).2 rfl rfl (by decide) (Nat.le_of_ble_eq_true rfl) (by decide) dX8_walk_178 (fun Y11358 h11359 => ?_)
    obtain ⟨Iy11360, Xy11361⟩ := h11359
    have q11362 := Xy11361.keep h11353 (by decide) 4
    have Xz11363 : EK [0, 5, 13] P Y11358 := Xz11352.tr (Xy11361.mono (by decide))
    have h11364 := Xy11361.at h11353
    exact ret _ _ _ _ _ dX8_walk_181 (by decide) (by decide) ⟨Iy11360, Xz11363⟩
  have J44 : G E ({ frames := 11, cells := 0, slots := 0, locals := 704 } : Room) D cy 6 P 0 0 44 [(0, .ref a0), (1, .int a1), (2, .int a2), (3, .int a3)] [] := by
    refine g_iload_n C dX8_walk_44 rfl 1 rfl ?_
    refine g_aload_n C dX8_walk_45 rfl 0 rfl ?_
    refine g_getI C fi_X8_38 (by decide) (ha0).1 (ha0).2 dX8_walk_46 ?_
    have h11365 := I.rg (ha0) 4 rfl
    refine b_icmp_ge C 79 dX8_walk_49 (by decide) (fun h11366 => ?_) (fun h11366 => ?_)
    · have h11366 : (pI P a0 4).toInt ≤ a1.toInt := h11366
      exact ret _ _ _ _ _ dX8_walk_79 (by decide) (by decide) ⟨I, EK.rf⟩
    · have h11366 : a1.toInt < (pI P a0 4).toInt := h11366
      refine g_iload_n C dX8_walk_52 rfl 1 rfl ?_
      refine g_bipush (v := 11) C dX8_walk_53 (by decide) ?_
      refine b_icmp_ge C 79 dX8_walk_55 (by decide) (fun h11367 => ?_) (fun h11367 => ?_)
      · have h11367 : 11 ≤ a1.toInt := h11367
        omega
      · have h11367 : a1.toInt < 11 := h11367
        refine g_aload_n C dX8_walk_58 rfl 0 rfl ?_
        obtain ⟨b11368, e11369, h11370⟩ := I.fld (ha0) 3 0 0 rfl
        refine g_getR C fi_X8_28 rfl e11369 (ha0).1 (ha0).2 dX8_walk_59 ?_
        refine g_getI C fi_X8_77 (by decide) (h11370.at).1 (h11370.at).2 dX8_walk_62 ?_
        have h11371 := I.rg (h11370.at) 2 rfl
        refine g_aload_n C dX8_walk_65 rfl 0 rfl ?_
        refine g_getI C fi_X8_38 (by decide) (ha0).1 (ha0).2 dX8_walk_66 ?_
        refine s_iadd C dX8_walk_69 (by show -2147483648 ≤ (pI P b11368 2).toInt + (pI P a0 4).toInt ∧ (pI P b11368 2).toInt + (pI P a0 4).toInt ≤ 2147483647; omega) (fun z11372 h11373 => ?_)
        have h11373 : z11372.toInt = (pI P b11368 2).toInt + (pI P a0 4).toInt := h11373
        refine g_iload_n C dX8_walk_70 rfl 1 rfl ?_
        refine s_isub C dX8_walk_71 (by show -2147483648 ≤ z11372.toInt - a1.toInt ∧ z11372.toInt - a1.toInt ≤ 2147483647; omega) (fun z11374 h11375 => ?_)
        have h11375 : z11374.toInt = z11372.toInt - a1.toInt := h11375
        refine g_aload_n C dX8_walk_72 rfl 0 rfl ?_
        refine g_getI C fi_X8_51 (by decide) (ha0).1 (ha0).2 dX8_walk_73 ?_
        have h11376 := I.rg (ha0) 6 rfl
        refine b_icmp_ge C 80 dX8_walk_76 (by decide) (fun h11377 => ?_) (fun h11377 => ?_)
        · have h11377 : (pI P a0 6).toInt ≤ z11374.toInt := h11377
          refine g_aload_n C dX8_walk_80 rfl 0 rfl ?_
          refine g_iload_n C dX8_walk_81 rfl 1 rfl ?_
          refine g_iconst (v := 1) C dX8_walk_82 (by decide) ?_
          refine s_iadd C dX8_walk_83 (by show -2147483648 ≤ a1.toInt + 1 ∧ a1.toInt + 1 ≤ 2147483647; omega) (fun z11378 h11379 => ?_)
          have h11379 : z11378.toInt = a1.toInt + 1 := h11379
          refine g_iload_n C dX8_walk_84 rfl 2 rfl ?_
          refine g_iload_n C dX8_walk_85 rfl 3 rfl ?_
          refine g_callVV (rest := []) C mv_X8_73 [.int z11378, .int a2, .int a3] (s_X8_walk_L7 I ha0 (by omega) (by omega)) (ha0).1 (ha0).2 rfl rfl (by decide) (Nat.le_of_ble_eq_true rfl) (by decide) dX8_walk_86 (fun Y11381 h11382 => ?_)
          obtain ⟨Iy11383, Xy11384⟩ := h11382
          have q11385 := Xy11384.keep ha0 (by decide) 4
          have q11386 := Xy11384.keep ha0 (by decide) 6
          have Xz11387 : EK [0, 5, 13] P Y11381 := Xy11384.mono (by decide)
          have h11388 := Xy11384.at ha0
          refine g_aload_n C dX8_walk_89 rfl 0 rfl ?_
          obtain ⟨b11389, e11390, h11391⟩ := Iy11383.fld (h11388) 3 0 0 rfl
          refine g_getR C fi_X8_28 rfl e11390 (h11388).1 (h11388).2 dX8_walk_90 ?_
          refine g_getI C fi_X8_77 (by decide) (h11391.at).1 (h11391.at).2 dX8_walk_93 ?_
          have h11392 := Iy11383.rg (h11391.at) 2 rfl
          refine g_topi (fun z11393 h11394 => ?_)
          have h11394 : z11393.toInt = (pI Y11381 b11389 2).toInt := congrArg Int32.toInt h11394
          refine g_istore (lv' := [(4, .int z11393), (0, .ref a0), (1, .int a1), (2, .int a2), (3, .int a3)]) C dX8_walk_96 (by decide) rfl ?_
          refine g_aload_n C dX8_walk_98 rfl 1 rfl ?_
          obtain ⟨b11395, e11396, h11397⟩ := Iy11383.fld (h11388) 2 5 0 rfl
          refine g_getR C fi_X8_21 rfl e11396 (h11388).1 (h11388).2 dX8_walk_99 ?_
          refine g_getI C fi_X8_84 (by decide) (h11397.at).1 (h11397.at).2 dX8_walk_102 ?_
          have h11398 := Iy11383.rg (h11397.at) 4 rfl
          refine g_topi (fun z11399 h11400 => ?_)
          have h11400 : z11399.toInt = (pI Y11381 b11395 4).toInt := congrArg Int32.toInt h11400
          refine g_istore (lv' := [(5, .int z11399), (4, .int z11393), (0, .ref a0), (1, .int a1), (2, .int a2), (3, .int a3)]) C dX8_walk_105 (by decide) rfl ?_
          refine g_aload_n C dX8_walk_107 rfl 2 rfl ?_
          refine g_getR C fi_X8_28 rfl e11390 (h11388).1 (h11388).2 dX8_walk_108 ?_
          refine g_aload_n C dX8_walk_111 rfl 2 rfl ?_
          obtain ⟨b11401, e11402, h11403⟩ := Iy11383.fld (h11388) 1 13 11 rfl
          refine g_getR C fi_X8_15 rfl e11402 (h11388).1 (h11388).2 dX8_walk_112 ?_
          refine g_iload_n C dX8_walk_115 rfl 3 rfl ?_
          refine g_iald (j := (a1.toInt.toNat)) C h11403.1 h11403.2.1 (ix_in h11403.2.2 (by omega)) dX8_walk_116 ?_
          refine g_topi (fun z11404 _ => ?_)
          refine g_callVV (rest := []) C mv_X8_87 [.int z11404] (s_X0_add Iy11383 h11391.at) (h11391.at).1 (h11391.at).2 rfl rfl (by decide) (Nat.le_of_ble_eq_true rfl) (by decide) dX8_walk_117 (fun Y11406 h11407 => ?_)
          obtain ⟨Iy11408, Xy11409⟩ := h11407
          have q11410 := Xy11409.keep h11388 (by decide) 4
          have q11411 := Xy11409.keep h11388 (by decide) 6
          have q11412 := Xy11409.keep (h11397.at) (by decide) 4
          have Xz11413 : EK [0, 5, 13] P Y11406 := Xz11387.tr (Xy11409.mono (by decide))
          have h11414 := Xy11409.at h11388
          refine g_aload_n C dX8_walk_120 rfl 2 rfl ?_
          obtain ⟨b11415, e11416, h11417⟩ := Iy11408.fld (h11414) 2 5 0 rfl
          refine g_getR C fi_X8_21 rfl e11416 (h11414).1 (h11414).2 dX8_walk_121 ?_
          refine g_aload_n C dX8_walk_124 rfl 2 rfl ?_
          obtain ⟨b11418, e11419, h11420⟩ := Iy11408.fld (h11414) 1 13 11 rfl
          refine g_getR C fi_X8_15 rfl e11419 (h11414).1 (h11414).2 dX8_walk_125 ?_
          refine g_iload_n C dX8_walk_128 rfl 3 rfl ?_
          refine g_iald (j := (a1.toInt.toNat)) C h11420.1 h11420.2.1 (ix_in h11420.2.2 (by omega)) dX8_walk_129 ?_
          refine g_topi (fun z11421 _ => ?_)
          refine g_iload_n C dX8_walk_130 rfl 3 rfl ?_
          refine g_callVV (rest := []) C mv_X8_91 [.int z11421, .int a1] (s_X5_add Iy11408 h11417.at) (h11417.at).1 (h11417.at).2 rfl rfl (by decide) (Nat.le_of_ble_eq_true rfl) (by decide) dX8_walk_131 (fun Y11423 h11424 => ?_)
          obtain ⟨Iy11425, Xy11426⟩ := h11424
          have q11427 := Xy11426.keep h11414 (by decide) 4
          have q11428 := Xy11426.keep h11414 (by decide) 6
          have Xz11429 : EK [0, 5, 13] P Y11423 := Xz11413.tr (Xy11426.mono (by decide))
          have h11430 := Xy11426.at h11414
          refine g_aload_n C dX8_walk_134 rfl 2 rfl ?_
          refine g_iload_n C dX8_walk_135 rfl 3 rfl ?_
          refine g_iconst (v := 1) C dX8_walk_136 (by decide) ?_
          refine s_iadd C dX8_walk_137 (by show -2147483648 ≤ a1.toInt + 1 ∧ a1.toInt + 1 ≤ 2147483647; omega) (fun z11431 h11432 => ?_)
          have h11432 : z11431.toInt = a1.toInt + 1 := h11432
          refine g_iload_n C dX8_walk_138 rfl 4 rfl ?_
          refine g_iconst (v := 1) C dX8_walk_139 (by decide) ?_
          refine s_iadd C dX8_walk_140 (by show -2147483648 ≤ a2.toInt + 1 ∧ a2.toInt + 1 ≤ 2147483647; omega) (fun z11433 h11434 => ?_)
          have h11434 : z11433.toInt = a2.toInt + 1 := h11434
          refine g_aload_n C dX8_walk_141 rfl 2 rfl ?_
          refine g_getI C fi_X8_42 (by decide) (h11430).1 (h11430).2 dX8_walk_142 ?_
          have u11436 := ti_rng (pI Y11423 a0 5)
          refine b_if_ne C 159 dX8_walk_145 (by decide) (fun h11435 => ?_) (fun h11435 => ?_)
          · have h11435 : (pI Y11423 a0 5).toInt ≠ 0 := ti_ne h11435
            refine g_iload_n C dX8_walk_159 rfl 5 rfl ?_
            refine g_lv (lv' := [(0, .ref a0), (4, .int z11393), (5, .int z11399)]) [2, 1, 0] rfl ?_
            exact J160 Y11423 z11393 z11399 a3 z11433 z11431 Iy11425 Xz11429 (by omega) (by omega) (by omega) (by omega) (by omega)
          · have h11435 : (pI Y11423 a0 5).toInt = 0 := congrArg Int32.toInt h11435
            refine g_aload_n C dX8_walk_148 rfl 2 rfl ?_
            obtain ⟨b11437, e11438, h11439⟩ := Iy11425.fld (h11430) 2 5 0 rfl
            refine g_getR C fi_X8_21 rfl e11438 (h11430).1 (h11430).2 dX8_walk_149 ?_
            refine g_iload_n C dX8_walk_152 rfl 5 rfl ?_
            refine g_callVI (rest := [.int z11433, .int z11431, .ref a0]) C mv_X8_93 [.int a3] (s_X5_spread Iy11425 h11439.at) (h11439.at).1 (h11439.at).2 rfl rfl (by decide) (Nat.le_of_ble_eq_true rfl) (by decide) dX8_walk_153 (fun r11440 Y11441 h11442 => ?_)
            obtain ⟨rfl, h11442⟩ := h11442
            have h11442 : True := h11442
            refine g_goto C 160 dX8_walk_156 (by decide) ?_
            refine g_lv (lv' := [(0, .ref a0), (4, .int z11393), (5, .int z11399)]) [2, 1, 0] rfl ?_
            exact J160 Y11423 z11393 z11399 r11440 z11433 z11431 Iy11425 Xz11429 (by omega) (by omega) (by omega) (by omega) (by omega)
        · have h11377 : z11374.toInt < (pI P a0 6).toInt := h11377
          exact ret _ _ _ _ _ dX8_walk_79 (by decide) (by decide) ⟨I, EK.rf⟩
  have J32 : G E ({ frames := 11, cells := 0, slots := 0, locals := 704 } : Room) D cy 6 P 0 0 32 [(0, .ref a0), (1, .int a1), (2, .int a2)] [] := by
    refine g_aload_n C dX8_walk_32 rfl 0 rfl ?_
    refine g_aload_n C dX8_walk_33 rfl 0 rfl ?_
    refine g_getI C fi_X8_38 (by decide) (ha0).1 (ha0).2 dX8_walk_34 ?_
    have h11443 := I.rg (ha0) 4 rfl
    refine g_iload_n C dX8_walk_37 rfl 1 rfl ?_
    refine s_isub C dX8_walk_38 (by show -2147483648 ≤ (pI P a0 4).toInt - a1.toInt ∧ (pI P a0 4).toInt - a1.toInt ≤ 2147483647; omega) (fun z11444 h11445 => ?_)
    have h11445 : z11444.toInt = (pI P a0 4).toInt - a1.toInt := h11445
    refine g_iload_n C dX8_walk_39 rfl 2 rfl ?_
    refine g_callVV (rest := []) C mv_X8_80 [.int z11444, .int a2] (s_X8_addAllWith I ha0 (by omega) (by omega)) (ha0).1 (ha0).2 rfl rfl (by decide) (Nat.le_of_ble_eq_true rfl) (by decide) dX8_walk_40 (fun Y11447 h11448 => ?_)
    obtain ⟨Iy11449, Xy11450⟩ := h11448
    have q11451 := Xy11450.keep ha0 (by decide) 4
    have Xz11452 : EK [0, 5, 13] P Y11447 := Xy11450.mono (by decide)
    have h11453 := Xy11450.at ha0
    exact ret _ _ _ _ _ dX8_walk_43 (by decide) (by decide) ⟨Iy11449, Xz11452⟩
  refine g_aload_n C dX8_walk_0 rfl 0 rfl ?_
  refine g_getI C fi_X8_42 (by decide) (ha0).1 (ha0).2 dX8_walk_1 ?_
  have u11455 := ti_rng (pI P a0 5)
  refine b_if_ne C 18 dX8_walk_4 (by decide) (fun h11454 => ?_) (fun h11454 => ?_)
  · have h11454 : (pI P a0 5).toInt ≠ 0 := ti_ne h11454
    refine g_aload_n C dX8_walk_18 rfl 0 rfl ?_
    obtain ⟨b11456, e11457, h11458⟩ := I.fld (ha0) 3 0 0 rfl
    refine g_getR C fi_X8_28 rfl e11457 (ha0).1 (ha0).2 dX8_walk_19 ?_
    refine g_getI C fi_X8_77 (by decide) (h11458.at).1 (h11458.at).2 dX8_walk_22 ?_
    have h11459 := I.rg (h11458.at) 2 rfl
    refine g_aload_n C dX8_walk_25 rfl 0 rfl ?_
    refine g_getI C fi_X8_51 (by decide) (ha0).1 (ha0).2 dX8_walk_26 ?_
    have h11460 := I.rg (ha0) 6 rfl
    refine b_icmp_ne C 44 dX8_walk_29 (by decide) (fun h11461 => ?_) (fun h11461 => ?_)
    · have h11461 : (pI P b11456 2).toInt ≠ (pI P a0 6).toInt := ti_ne h11461
      exact J44 
    · have h11461 : (pI P b11456 2).toInt = (pI P a0 6).toInt := congrArg Int32.toInt h11461
      refine g_lv (lv' := [(0, .ref a0), (1, .int a1), (2, .int a2)]) [0, 1, 2] rfl ?_
      exact J32 
  · have h11454 : (pI P a0 5).toInt = 0 := congrArg Int32.toInt h11454
    refine g_iload_n C dX8_walk_7 rfl 3 rfl ?_
    refine g_aload_n C dX8_walk_8 rfl 0 rfl ?_
    refine g_getI C fi_X8_56 (by decide) (ha0).1 (ha0).2 dX8_walk_9 ?_
    have u11463 := ti_rng a3
    have u11464 := ti_rng (pI P a0 7)
    refine b_icmp_ne C 44 dX8_walk_12 (by decide) (fun h11462 => ?_) (fun h11462 => ?_)
    · have h11462 : a3.toInt ≠ (pI P a0 7).toInt := ti_ne h11462
      exact J44 
    · have h11462 : a3.toInt = (pI P a0 7).toInt := congrArg Int32.toInt h11462
      refine g_goto C 32 dX8_walk_15 (by decide) ?_
      refine g_lv (lv' := [(0, .ref a0), (1, .int a1), (2, .int a2)]) [0, 1, 2] rfl ?_
      exact J32 
set_option maxHeartbeats 4000000 in
set_option maxRecDepth 100000 in
theorem s_X8_walk_L9 {P : PP} {a0 : Nat} {a1 : Int32} {a2 : Int32} {a3 : Int32} (I : IV P) (ha0 : At P a0 8) (ha1 : 2 ≤ a1.toInt ∧ a1.toInt ≤ 2) (ha2 : 0 ≤ a2.toInt ∧ a2.toInt ≤ 2) : CtrV yX8_walk cX8_walk 6 none ({ frames := 12, cells := 0, slots := 0, locals := 768 } : Room) 0 0 P [.ref a0, .int a1, .int a2, .int a3] (fun P2 => IV P2 ∧ EK [0, 5, 13] P P2) := by
  refine enV (lv := [(0, .ref a0), (1, .int a1), (2, .int a2), (3, .int a3)]) (by decide) (Nat.le_of_ble_eq_true rfl) rfl (fun E D cy C Ci0 ret => ?_)
  have J160 : ∀ (P160 : PP) (v160_4 : Int32) (v160_5 : Int32) (v160_s0 : Int32) (v160_s1 : Int32) (v160_s2 : Int32), (IV P160) → (EK [0, 5, 13] P P160) → (0 ≤ v160_4.toInt ∧ v160_4.toInt ≤ 20) → (0 ≤ v160_5.toInt ∧ v160_5.toInt ≤ 44) → (1 ≤ v160_s1.toInt ∧ v160_s1.toInt ≤ 3) → (3 ≤ v160_s2.toInt ∧ v160_s2.toInt ≤ 3) → (3 ≤ (pI P160 a0 4).toInt ∧ (pI P160 a0 4).toInt ≤ 11) → G E ({ frames := 12, cells := 0, slots := 0, locals := 768 } : Room) D cy 6 P160 0 0 160 [(0, .ref a0), (4, .int v160_4), (5, .int v160_5)] [.int v160_s0, .int v160_s1, .int v160_s2, .ref a0] := by
    intro P160 v160_4 v160_5 v160_s0 v160_s1 v160_s2 I160 X160 hv160_4 hv160_5 hv160_s1 hv160_s2 hq160_0
    have h11596 := X160.at ha0
    refine g_callVV (rest := []) C mv_X8_73 [.int v160_s2, .int v160_s1, .int v160_s0] (s_X8_walk_L8 I160 h11596 (by omega) (by omega)) (h11596).1 (h11596).2 rfl rfl (by decide) (Nat.le_of_ble_eq_true rfl) (by decide) dX8_walk_160 (fun Y11598 h11599 => ?_)
    obtain ⟨Iy11600, Xy11601⟩ := h11599
    have q11602 := Xy11601.keep h11596 (by decide) 4
    have Xz11603 : EK [0, 5, 13] P Y11598 := X160.tr (Xy11601.mono (by decide))
    have h11604 := Xy11601.at h11596
    refine g_aload_n C dX8_walk_163 rfl 0 rfl ?_
    obtain ⟨b11605, e11606, h11607⟩ := Iy11600.fld (h11604) 3 0 0 rfl
    refine g_getR C fi_X8_28 rfl e11606 (h11604).1 (h11604).2 dX8_walk_164 ?_
    refine g_iload C dX8_walk_167 1 rfl ?_
    refine g_callVV (rest := []) C mv_X8_96 [.int v160_4] (s_X0_cut Iy11600 h11607.at) (h11607.at).1 (h11607.at).2 rfl rfl (by decide) (Nat.le_of_ble_eq_true rfl) (by decide) dX8_walk_169 (fun Y11609 h11610 => ?_)
    obtain ⟨Iy11611, Xy11612⟩ := h11610
    have q11613 := Xy11612.keep h11604 (by decide) 4
    have Xz11614 : EK [0, 5, 13] P Y11609 := Xz11603.tr (Xy11612.mono (by decide))
    have h11615 := Xy11612.at h11604
    refine g_aload_n C dX8_walk_172 rfl 0 rfl ?_
    obtain ⟨b11616, e11617, h11618⟩ := Iy11611.fld (h11615) 2 5 0 rfl
    refine g_getR C fi_X8_21 rfl e11617 (h11615).1 (h11615).2 dX8_walk_173 ?_
    refine g_iload C dX8_walk_176 2 rfl ?_
    refine g_callVV (rest := []) C mv_X8_99 [.int v160_5] (s_X5_cut Iy11611 h11618.at) (h11618.at).1 (h11618.at).2 rfl rfl (by decide) (Nat.le_of_ble_eq_true rfl) (by decide) dX8_walk_178 (fun Y11620 h11621 => ?_)
    obtain ⟨Iy11622, Xy11623⟩ := h11621
    have q11624 := Xy11623.keep h11615 (by decide) 4
    have Xz11625 : EK [0, 5, 13] P Y11620 := Xz11614.tr (Xy11623.mono (by decide))
    have h11626 := Xy11623.at h11615
    exact ret _ _ _ _ _ dX8_walk_181 (by decide) (by decide) ⟨Iy11622, Xz11625⟩
  have J44 : G E ({ frames := 12, cells := 0, slots := 0, locals := 768 } : Room) D cy 6 P 0 0 44 [(0, .ref a0), (1, .int a1), (2, .int a2), (3, .int a3)] [] := by
    refine g_iload_n C dX8_walk_44 rfl 1 rfl ?_
    refine g_aload_n C dX8_walk_45 rfl 0 rfl ?_
    refine g_getI C fi_X8_38 (by decide) (ha0).1 (ha0).2 dX8_walk_46 ?_
    have h11627 := I.rg (ha0) 4 rfl
    refine b_icmp_ge C 79 dX8_walk_49 (by decide) (fun h11628 => ?_) (fun h11628 => ?_)
    · have h11628 : (pI P a0 4).toInt ≤ a1.toInt := h11628
      exact ret _ _ _ _ _ dX8_walk_79 (by decide) (by decide) ⟨I, EK.rf⟩
    · have h11628 : a1.toInt < (pI P a0 4).toInt := h11628
      refine g_iload_n C dX8_walk_52 rfl 1 rfl ?_
      refine g_bipush (v := 11) C dX8_walk_53 (by decide) ?_
      refine b_icmp_ge C 79 dX8_walk_55 (by decide) (fun h11629 => ?_) (fun h11629 => ?_)
      · have h11629 : 11 ≤ a1.toInt := h11629
        omega
      · have h11629 : a1.toInt < 11 := h11629
        refine g_aload_n C dX8_walk_58 rfl 0 rfl ?_
        obtain ⟨b11630, e11631, h11632⟩ := I.fld (ha0) 3 0 0 rfl
        refine g_getR C fi_X8_28 rfl e11631 (ha0).1 (ha0).2 dX8_walk_59 ?_
        refine g_getI C fi_X8_77 (by decide) (h11632.at).1 (h11632.at).2 dX8_walk_62 ?_
        have h11633 := I.rg (h11632.at) 2 rfl
        refine g_aload_n C dX8_walk_65 rfl 0 rfl ?_
        refine g_getI C fi_X8_38 (by decide) (ha0).1 (ha0).2 dX8_walk_66 ?_
        refine s_iadd C dX8_walk_69 (by show -2147483648 ≤ (pI P b11630 2).toInt + (pI P a0 4).toInt ∧ (pI P b11630 2).toInt + (pI P a0 4).toInt ≤ 2147483647; omega) (fun z11634 h11635 => ?_)
        have h11635 : z11634.toInt = (pI P b11630 2).toInt + (pI P a0 4).toInt := h11635
        refine g_iload_n C dX8_walk_70 rfl 1 rfl ?_
        refine s_isub C dX8_walk_71 (by show -2147483648 ≤ z11634.toInt - a1.toInt ∧ z11634.toInt - a1.toInt ≤ 2147483647; omega) (fun z11636 h11637 => ?_)
        have h11637 : z11636.toInt = z11634.toInt - a1.toInt := h11637
        refine g_aload_n C dX8_walk_72 rfl 0 rfl ?_
        refine g_getI C fi_X8_51 (by decide) (ha0).1 (ha0).2 dX8_walk_73 ?_
        have h11638 := I.rg (ha0) 6 rfl
        refine b_icmp_ge C 80 dX8_walk_76 (by decide) (fun h11639 => ?_) (fun h11639 => ?_)
        · have h11639 : (pI P a0 6).toInt ≤ z11636.toInt := h11639
          refine g_aload_n C dX8_walk_80 rfl 0 rfl ?_
          refine g_iload_n C dX8_walk_81 rfl 1 rfl ?_
          refine g_iconst (v := 1) C dX8_walk_82 (by decide) ?_
          refine s_iadd C dX8_walk_83 (by show -2147483648 ≤ a1.toInt + 1 ∧ a1.toInt + 1 ≤ 2147483647; omega) (fun z11640 h11641 => ?_)
          have h11641 : z11640.toInt = a1.toInt + 1 := h11641
          refine g_iload_n C dX8_walk_84 rfl 2 rfl ?_
          refine g_iload_n C dX8_walk_85 rfl 3 rfl ?_
          refine g_callVV (rest := []) C mv_X8_73 [.int z11640, .int a2, .int a3] (s_X8_walk_L8 I ha0 (by omega) (by omega)) (ha0).1 (ha0).2 rfl rfl (by decide) (Nat.le_of_ble_eq_true rfl) (by decide) dX8_walk_86 (fun Y11643 h11644 => ?_)
          obtain ⟨Iy11645, Xy11646⟩ := h11644
          have q11647 := Xy11646.keep ha0 (by decide) 4
          have q11648 := Xy11646.keep ha0 (by decide) 6
          have Xz11649 : EK [0, 5, 13] P Y11643 := Xy11646.mono (by decide)
          have h11650 := Xy11646.at ha0
          refine g_aload_n C dX8_walk_89 rfl 0 rfl ?_
          obtain ⟨b11651, e11652, h11653⟩ := Iy11645.fld (h11650) 3 0 0 rfl
          refine g_getR C fi_X8_28 rfl e11652 (h11650).1 (h11650).2 dX8_walk_90 ?_
          refine g_getI C fi_X8_77 (by decide) (h11653.at).1 (h11653.at).2 dX8_walk_93 ?_
          have h11654 := Iy11645.rg (h11653.at) 2 rfl
          refine g_topi (fun z11655 h11656 => ?_)
          have h11656 : z11655.toInt = (pI Y11643 b11651 2).toInt := congrArg Int32.toInt h11656
          refine g_istore (lv' := [(4, .int z11655), (0, .ref a0), (1, .int a1), (2, .int a2), (3, .int a3)]) C dX8_walk_96 (by decide) rfl ?_
          refine g_aload_n C dX8_walk_98 rfl 1 rfl ?_
          obtain ⟨b11657, e11658, h11659⟩ := Iy11645.fld (h11650) 2 5 0 rfl
          refine g_getR C fi_X8_21 rfl e11658 (h11650).1 (h11650).2 dX8_walk_99 ?_
          refine g_getI C fi_X8_84 (by decide) (h11659.at).1 (h11659.at).2 dX8_walk_102 ?_
          have h11660 := Iy11645.rg (h11659.at) 4 rfl
          refine g_topi (fun z11661 h11662 => ?_)
          have h11662 : z11661.toInt = (pI Y11643 b11657 4).toInt := congrArg Int32.toInt h11662
          refine g_istore (lv' := [(5, .int z11661), (4, .int z11655), (0, .ref a0), (1, .int a1), (2, .int a2), (3, .int a3)]) C dX8_walk_105 (by decide) rfl ?_
          refine g_aload_n C dX8_walk_107 rfl 2 rfl ?_
          refine g_getR C fi_X8_28 rfl e11652 (h11650).1 (h11650).2 dX8_walk_108 ?_
          refine g_aload_n C dX8_walk_111 rfl 2 rfl ?_
          obtain ⟨b11663, e11664, h11665⟩ := Iy11645.fld (h11650) 1 13 11 rfl
          refine g_getR C fi_X8_15 rfl e11664 (h11650).1 (h11650).2 dX8_walk_112 ?_
          refine g_iload_n C dX8_walk_115 rfl 3 rfl ?_
          refine g_iald (j := (a1.toInt.toNat)) C h11665.1 h11665.2.1 (ix_in h11665.2.2 (by omega)) dX8_walk_116 ?_
          refine g_topi (fun z11666 _ => ?_)
          refine g_callVV (rest := []) C mv_X8_87 [.int z11666] (s_X0_add Iy11645 h11653.at) (h11653.at).1 (h11653.at).2 rfl rfl (by decide) (Nat.le_of_ble_eq_true rfl) (by decide) dX8_walk_117 (fun Y11668 h11669 => ?_)
          obtain ⟨Iy11670, Xy11671⟩ := h11669
          have q11672 := Xy11671.keep h11650 (by decide) 4
          have q11673 := Xy11671.keep h11650 (by decide) 6
          have q11674 := Xy11671.keep (h11659.at) (by decide) 4
          have Xz11675 : EK [0, 5, 13] P Y11668 := Xz11649.tr (Xy11671.mono (by decide))
          have h11676 := Xy11671.at h11650
          refine g_aload_n C dX8_walk_120 rfl 2 rfl ?_
          obtain ⟨b11677, e11678, h11679⟩ := Iy11670.fld (h11676) 2 5 0 rfl
          refine g_getR C fi_X8_21 rfl e11678 (h11676).1 (h11676).2 dX8_walk_121 ?_
          refine g_aload_n C dX8_walk_124 rfl 2 rfl ?_
          obtain ⟨b11680, e11681, h11682⟩ := Iy11670.fld (h11676) 1 13 11 rfl
          refine g_getR C fi_X8_15 rfl e11681 (h11676).1 (h11676).2 dX8_walk_125 ?_
          refine g_iload_n C dX8_walk_128 rfl 3 rfl ?_
          refine g_iald (j := (a1.toInt.toNat)) C h11682.1 h11682.2.1 (ix_in h11682.2.2 (by omega)) dX8_walk_129 ?_
          refine g_topi (fun z11683 _ => ?_)
          refine g_iload_n C dX8_walk_130 rfl 3 rfl ?_
          refine g_callVV (rest := []) C mv_X8_91 [.int z11683, .int a1] (s_X5_add Iy11670 h11679.at) (h11679.at).1 (h11679.at).2 rfl rfl (by decide) (Nat.le_of_ble_eq_true rfl) (by decide) dX8_walk_131 (fun Y11685 h11686 => ?_)
          obtain ⟨Iy11687, Xy11688⟩ := h11686
          have q11689 := Xy11688.keep h11676 (by decide) 4
          have q11690 := Xy11688.keep h11676 (by decide) 6
          have Xz11691 : EK [0, 5, 13] P Y11685 := Xz11675.tr (Xy11688.mono (by decide))
          have h11692 := Xy11688.at h11676
          refine g_aload_n C dX8_walk_134 rfl 2 rfl ?_
          refine g_iload_n C dX8_walk_135 rfl 3 rfl ?_
          refine g_iconst (v := 1) C dX8_walk_136 (by decide) ?_
          refine s_iadd C dX8_walk_137 (by show -2147483648 ≤ a1.toInt + 1 ∧ a1.toInt + 1 ≤ 2147483647; omega) (fun z11693 h11694 => ?_)
          have h11694 : z11693.toInt = a1.toInt + 1 := h11694
          refine g_iload_n C dX8_walk_138 rfl 4 rfl ?_
          refine g_iconst (v := 1) C dX8_walk_139 (by decide) ?_
          refine s_iadd C dX8_walk_140 (by show -2147483648 ≤ a2.toInt + 1 ∧ a2.toInt + 1 ≤ 2147483647; omega) (fun z11695 h11696 => ?_)
          have h11696 : z11695.toInt = a2.toInt + 1 := h11696
          refine g_aload_n C dX8_walk_141 rfl 2 rfl ?_
          refine g_getI C fi_X8_42 (by decide) (h11692).1 (h11692).2 dX8_walk_142 ?_
          have u11698 := ti_rng (pI Y11685 a0 5)
          refine b_if_ne C 159 dX8_walk_145 (by decide) (fun h11697 => ?_) (fun h11697 => ?_)
          · have h11697 : (pI Y11685 a0 5).toInt ≠ 0 := ti_ne h11697
            refine g_iload_n C dX8_walk_159 rfl 5 rfl ?_
            refine g_lv (lv' := [(0, .ref a0), (4, .int z11655), (5, .int z11661)]) [2, 1, 0] rfl ?_
            exact J160 Y11685 z11655 z11661 a3 z11695 z11693 Iy11687 Xz11691 (by omega) (by omega) (by omega) (by omega) (by omega)
          · have h11697 : (pI Y11685 a0 5).toInt = 0 := congrArg Int32.toInt h11697
            refine g_aload_n C dX8_walk_148 rfl 2 rfl ?_
            obtain ⟨b11699, e11700, h11701⟩ := Iy11687.fld (h11692) 2 5 0 rfl
            refine g_getR C fi_X8_21 rfl e11700 (h11692).1 (h11692).2 dX8_walk_149 ?_
            refine g_iload_n C dX8_walk_152 rfl 5 rfl ?_
            refine g_callVI (rest := [.int z11695, .int z11693, .ref a0]) C mv_X8_93 [.int a3] (s_X5_spread Iy11687 h11701.at) (h11701.at).1 (h11701.at).2 rfl rfl (by decide) (Nat.le_of_ble_eq_true rfl) (by decide) dX8_walk_153 (fun r11702 Y11703 h11704 => ?_)
            obtain ⟨rfl, h11704⟩ := h11704
            have h11704 : True := h11704
            refine g_goto C 160 dX8_walk_156 (by decide) ?_
            refine g_lv (lv' := [(0, .ref a0), (4, .int z11655), (5, .int z11661)]) [2, 1, 0] rfl ?_
            exact J160 Y11685 z11655 z11661 r11702 z11695 z11693 Iy11687 Xz11691 (by omega) (by omega) (by omega) (by omega) (by omega)
        · have h11639 : z11636.toInt < (pI P a0 6).toInt := h11639
          exact ret _ _ _ _ _ dX8_walk_79 (by decide) (by decide) ⟨I, EK.rf⟩
  have J32 : G E ({ frames := 12, cells := 0, slots := 0, locals := 768 } : Room) D cy 6 P 0 0 32 [(0, .ref a0), (1, .int a1), (2, .int a2)] [] := by
    refine g_aload_n C dX8_walk_32 rfl 0 rfl ?_
    refine g_aload_n C dX8_walk_33 rfl 0 rfl ?_
    refine g_getI C fi_X8_38 (by decide) (ha0).1 (ha0).2 dX8_walk_34 ?_
    have h11705 := I.rg (ha0) 4 rfl
    refine g_iload_n C dX8_walk_37 rfl 1 rfl ?_
    refine s_isub C dX8_walk_38 (by show -2147483648 ≤ (pI P a0 4).toInt - a1.toInt ∧ (pI P a0 4).toInt - a1.toInt ≤ 2147483647; omega) (fun z11706 h11707 => ?_)
    have h11707 : z11706.toInt = (pI P a0 4).toInt - a1.toInt := h11707
    refine g_iload_n C dX8_walk_39 rfl 2 rfl ?_
    refine g_callVV (rest := []) C mv_X8_80 [.int z11706, .int a2] (s_X8_addAllWith I ha0 (by omega) (by omega)) (ha0).1 (ha0).2 rfl rfl (by decide) (Nat.le_of_ble_eq_true rfl) (by decide) dX8_walk_40 (fun Y11709 h11710 => ?_)
    obtain ⟨Iy11711, Xy11712⟩ := h11710
    have q11713 := Xy11712.keep ha0 (by decide) 4
    have Xz11714 : EK [0, 5, 13] P Y11709 := Xy11712.mono (by decide)
    have h11715 := Xy11712.at ha0
    exact ret _ _ _ _ _ dX8_walk_43 (by decide) (by decide) ⟨Iy11711, Xz11714⟩
  refine g_aload_n C dX8_walk_0 rfl 0 rfl ?_
  refine g_getI C fi_X8_42 (by decide) (ha0).1 (ha0).2 dX8_walk_1 ?_
  have u11717 := ti_rng (pI P a0 5)
  refine b_if_ne C 18 dX8_walk_4 (by decide) (fun h11716 => ?_) (fun h11716 => ?_)
  · have h11716 : (pI P a0 5).toInt ≠ 0 := ti_ne h11716
    refine g_aload_n C dX8_walk_18 rfl 0 rfl ?_
    obtain ⟨b11718, e11719, h11720⟩ := I.fld (ha0) 3 0 0 rfl
    refine g_getR C fi_X8_28 rfl e11719 (ha0).1 (ha0).2 dX8_walk_19 ?_
    refine g_getI C fi_X8_77 (by decide) (h11720.at).1 (h11720.at).2 dX8_walk_22 ?_
    have h11721 := I.rg (h11720.at) 2 rfl
    refine g_aload_n C dX8_walk_25 rfl 0 rfl ?_
    refine g_getI C fi_X8_51 (by decide) (ha0).1 (ha0).2 dX8_walk_26 ?_
    have h11722 := I.rg (ha0) 6 rfl
    refine b_icmp_ne C 44 dX8_walk_29 (by decide) (fun h11723 => ?_) (fun h11723 => ?_)
    · have h11723 : (pI P b11718 2).toInt ≠ (pI P a0 6).toInt := ti_ne h11723
      exact J44 
    · have h11723 : (pI P b11718 2).toInt = (pI P a0 6).toInt := congrArg Int32.toInt h11723
      refine g_lv (lv' := [(0, .ref a0), (1, .int a1), (2, .int a2)]) [0, 1, 2] rfl ?_
      exact J32 
  · have h11716 : (pI P a0 5).toInt = 0 := congrArg Int32.toInt h11716
    refine g_iload_n C dX8_walk_7 rfl 3 rfl ?_
    refine g_aload_n C dX8_walk_8 rfl 0 rfl ?_
    refine g_getI C fi_X8_56 (by decide) (ha0).1 (ha0).2 dX8_walk_9 ?_
    have u11725 := ti_rng a3
    have u11726 := ti_rng (pI P a0 7)
    refine b_icmp_ne C 44 dX8_walk_12 (by decide) (fun h11724 => ?_) (fun h11724 => ?_)
    · have h11724 : a3.toInt ≠ (pI P a0 7).toInt := ti_ne h11724
      exact J44 
    · have h11724 : a3.toInt = (pI P a0 7).toInt := congrArg Int32.toInt h11724
      refine g_goto C 32 dX8_walk_15 (by decide) ?_
      refine g_lv (lv' := [(0, .ref a0), (1, .int a1), (2, .int a2)]) [0, 1, 2] rfl ?_
      exact J32 
set_option maxHeartbeats 4000000 in
set_option maxRecDepth 100000 in
theorem s_X8_walk_L10 {P : PP} {a0 : Nat} {a1 : Int32} {a2 : Int32} {a3 : Int32} (I : IV P) (ha0 : At P a0 8) (ha1 : 1 ≤ a1.toInt ∧ a1.toInt ≤ 1) (ha2 : 0 ≤ a2.toInt ∧ a2.toInt ≤ 1) : CtrV yX8_walk cX8_walk 6 none ({ frames := 13, cells := 0, slots := 0, locals := 832 } : Room) 0 0 P [.ref a0, .int a1, .int a2, .int a3] (fun P2 => IV P2 ∧ EK [0, 5, 13] P P2) := by
  refine enV (lv := [(0, .ref a0), (1, .int a1), (2, .int a2), (3, .int a3)]) (by decide) (Nat.le_of_ble_eq_true rfl) rfl (fun E D cy C Ci0 ret => ?_)
  have J160 : ∀ (P160 : PP) (v160_4 : Int32) (v160_5 : Int32) (v160_s0 : Int32) (v160_s1 : Int32) (v160_s2 : Int32), (IV P160) → (EK [0, 5, 13] P P160) → (0 ≤ v160_4.toInt ∧ v160_4.toInt ≤ 20) → (0 ≤ v160_5.toInt ∧ v160_5.toInt ≤ 44) → (1 ≤ v160_s1.toInt ∧ v160_s1.toInt ≤ 2) → (2 ≤ v160_s2.toInt ∧ v160_s2.toInt ≤ 2) → (2 ≤ (pI P160 a0 4).toInt ∧ (pI P160 a0 4).toInt ≤ 11) → G E ({ frames := 13, cells := 0, slots := 0, locals := 832 } : Room) D cy 6 P160 0 0 160 [(0, .ref a0), (4, .int v160_4), (5, .int v160_5)] [.int v160_s0, .int v160_s1, .int v160_s2, .ref a0] := by
    intro P160 v160_4 v160_5 v160_s0 v160_s1 v160_s2 I160 X160 hv160_4 hv160_5 hv160_s1 hv160_s2 hq160_0
    have h11858 := X160.at ha0
    refine g_callVV (rest := []) C mv_X8_73 [.int v160_s2, .int v160_s1, .int v160_s0] (s_X8_walk_L9 I160 h11858 (by omega) (by omega)) (h11858).1 (h11858).2 rfl rfl (by decide) (Nat.le_of_ble_eq_true rfl) (by decide) dX8_walk_160 (fun Y11860 h11861 => ?_)
    obtain ⟨Iy11862, Xy11863⟩ := h11861
    have q11864 := Xy11863.keep h11858 (by decide) 4
    have Xz11865 : EK [0, 5, 13] P Y11860 := X160.tr (Xy11863.mono (by decide))
    have h11866 := Xy11863.at h11858
    refine g_aload_n C dX8_walk_163 rfl 0 rfl ?_
    obtain ⟨b11867, e11868, h11869⟩ := Iy11862.fld (h11866) 3 0 0 rfl
    refine g_getR C fi_X8_28 rfl e11868 (h11866).1 (h11866).2 dX8_walk_164 ?_
    refine g_iload C dX8_walk_167 1 rfl ?_
    refine g_callVV (rest := []) C mv_X8_96 [.int v160_4] (s_X0_cut Iy11862 h11869.at) (h11869.at).1 (h11869.at).2 rfl rfl (by decide) (Nat.le_of_ble_eq_true rfl) (by decide) dX8_walk_169 (fun Y11871 h11872 => ?_)
    obtain ⟨Iy11873, Xy11874⟩ := h11872
    have q11875 := Xy11874.keep h11866 (by decide) 4
    have Xz11876 : EK [0, 5, 13] P Y11871 := Xz11865.tr (Xy11874.mono (by decide))
    have h11877 := Xy11874.at h11866
    refine g_aload_n C dX8_walk_172 rfl 0 rfl ?_
    obtain ⟨b11878, e11879, h11880⟩ := Iy11873.fld (h11877) 2 5 0 rfl
    refine g_getR C fi_X8_21 rfl e11879 (h11877).1 (h11877).2 dX8_walk_173 ?_
    refine g_iload C dX8_walk_176 2 rfl ?_
    refine g_callVV (rest := []) C mv_X8_99 [.int v160_5] (s_X5_cut Iy11873 h11880.at) (h11880.at).1 (h11880.at).2 rfl rfl (by decide) (Nat.le_of_ble_eq_true rfl) (by decide) dX8_walk_178 (fun Y11882 h11883 => ?_)
    obtain ⟨Iy11884, Xy11885⟩ := h11883
    have q11886 := Xy11885.keep h11877 (by decide) 4
    have Xz11887 : EK [0, 5, 13] P Y11882 := Xz11876.tr (Xy11885.mono (by decide))
    have h11888 := Xy11885.at h11877
    exact ret _ _ _ _ _ dX8_walk_181 (by decide) (by decide) ⟨Iy11884, Xz11887⟩
  have J44 : G E ({ frames := 13, cells := 0, slots := 0, locals := 832 } : Room) D cy 6 P 0 0 44 [(0, .ref a0), (1, .int a1), (2, .int a2), (3, .int a3)] [] := by
    refine g_iload_n C dX8_walk_44 rfl 1 rfl ?_
    refine g_aload_n C dX8_walk_45 rfl 0 rfl ?_
    refine g_getI C fi_X8_38 (by decide) (ha0).1 (ha0).2 dX8_walk_46 ?_
    have h11889 := I.rg (ha0) 4 rfl
    refine b_icmp_ge C 79 dX8_walk_49 (by decide) (fun h11890 => ?_) (fun h11890 => ?_)
    · have h11890 : (pI P a0 4).toInt ≤ a1.toInt := h11890
      exact ret _ _ _ _ _ dX8_walk_79 (by decide) (by decide) ⟨I, EK.rf⟩
    · have h11890 : a1.toInt < (pI P a0 4).toInt := h11890
      refine g_iload_n C dX8_walk_52 rfl 1 rfl ?_
      refine g_bipush (v := 11) C dX8_walk_53 (by decide) ?_
      refine b_icmp_ge C 79 dX8_walk_55 (by decide) (fun h11891 => ?_) (fun h11891 => ?_)
      · have h11891 : 11 ≤ a1.toInt := h11891
        omega
      · have h11891 : a1.toInt < 11 := h11891
        refine g_aload_n C dX8_walk_58 rfl 0 rfl ?_
        obtain ⟨b11892, e11893, h11894⟩ := I.fld (ha0) 3 0 0 rfl
        refine g_getR C fi_X8_28 rfl e11893 (ha0).1 (ha0).2 dX8_walk_59 ?_
        refine g_getI C fi_X8_77 (by decide) (h11894.at).1 (h11894.at).2 dX8_walk_62 ?_
        have h11895 := I.rg (h11894.at) 2 rfl
        refine g_aload_n C dX8_walk_65 rfl 0 rfl ?_
        refine g_getI C fi_X8_38 (by decide) (ha0).1 (ha0).2 dX8_walk_66 ?_
        refine s_iadd C dX8_walk_69 (by show -2147483648 ≤ (pI P b11892 2).toInt + (pI P a0 4).toInt ∧ (pI P b11892 2).toInt + (pI P a0 4).toInt ≤ 2147483647; omega) (fun z11896 h11897 => ?_)
        have h11897 : z11896.toInt = (pI P b11892 2).toInt + (pI P a0 4).toInt := h11897
        refine g_iload_n C dX8_walk_70 rfl 1 rfl ?_
        refine s_isub C dX8_walk_71 (by show -2147483648 ≤ z11896.toInt - a1.toInt ∧ z11896.toInt - a1.toInt ≤ 2147483647; omega) (fun z11898 h11899 => ?_)
        have h11899 : z11898.toInt = z11896.toInt - a1.toInt := h11899
        refine g_aload_n C dX8_walk_72 rfl 0 rfl ?_
        refine g_getI C fi_X8_51 (by decide) (ha0).1 (ha0).2 dX8_walk_73 ?_
        have h11900 := I.rg (ha0) 6 rfl
        refine b_icmp_ge C 80 dX8_walk_76 (by decide) (fun h11901 => ?_) (fun h11901 => ?_)
        · have h11901 : (pI P a0 6).toInt ≤ z11898.toInt := h11901
          refine g_aload_n C dX8_walk_80 rfl 0 rfl ?_
          refine g_iload_n C dX8_walk_81 rfl 1 rfl ?_
          refine g_iconst (v := 1) C dX8_walk_82 (by decide) ?_
          refine s_iadd C dX8_walk_83 (by show -2147483648 ≤ a1.toInt + 1 ∧ a1.toInt + 1 ≤ 2147483647; omega) (fun z11902 h11903 => ?_)
          have h11903 : z11902.toInt = a1.toInt + 1 := h11903
          refine g_iload_n C dX8_walk_84 rfl 2 rfl ?_
          refine g_iload_n C dX8_walk_85 rfl 3 rfl ?_
          refine g_callVV (rest := []) C mv_X8_73 [.int z11902, .int a2, .int a3] (s_X8_walk_L9 I ha0 (by omega) (by omega)) (ha0).1 (ha0).2 rfl rfl (by decide) (Nat.le_of_ble_eq_true rfl) (by decide) dX8_walk_86 (fun Y11905 h11906 => ?_)
          obtain ⟨Iy11907, Xy11908⟩ := h11906
          have q11909 := Xy11908.keep ha0 (by decide) 4
          have q11910 := Xy11908.keep ha0 (by decide) 6
          have Xz11911 : EK [0, 5, 13] P Y11905 := Xy11908.mono (by decide)
          have h11912 := Xy11908.at ha0
          refine g_aload_n C dX8_walk_89 rfl 0 rfl ?_
          obtain ⟨b11913, e11914, h11915⟩ := Iy11907.fld (h11912) 3 0 0 rfl
          refine g_getR C fi_X8_28 rfl e11914 (h11912).1 (h11912).2 dX8_walk_90 ?_
          refine g_getI C fi_X8_77 (by decide) (h11915.at).1 (h11915.at).2 dX8_walk_93 ?_
          have h11916 := Iy11907.rg (h11915.at) 2 rfl
          refine g_topi (fun z11917 h11918 => ?_)
          have h11918 : z11917.toInt = (pI Y11905 b11913 2).toInt := congrArg Int32.toInt h11918
          refine g_istore (lv' := [(4, .int z11917), (0, .ref a0), (1, .int a1), (2, .int a2), (3, .int a3)]) C dX8_walk_96 (by decide) rfl ?_
          refine g_aload_n C dX8_walk_98 rfl 1 rfl ?_
          obtain ⟨b11919, e11920, h11921⟩ := Iy11907.fld (h11912) 2 5 0 rfl
          refine g_getR C fi_X8_21 rfl e11920 (h11912).1 (h11912).2 dX8_walk_99 ?_
          refine g_getI C fi_X8_84 (by decide) (h11921.at).1 (h11921.at).2 dX8_walk_102 ?_
          have h11922 := Iy11907.rg (h11921.at) 4 rfl
          refine g_topi (fun z11923 h11924 => ?_)
          have h11924 : z11923.toInt = (pI Y11905 b11919 4).toInt := congrArg Int32.toInt h11924
          refine g_istore (lv' := [(5, .int z11923), (4, .int z11917), (0, .ref a0), (1, .int a1), (2, .int a2), (3, .int a3)]) C dX8_walk_105 (by decide) rfl ?_
          refine g_aload_n C dX8_walk_107 rfl 2 rfl ?_
          refine g_getR C fi_X8_28 rfl e11914 (h11912).1 (h11912).2 dX8_walk_108 ?_
          refine g_aload_n C dX8_walk_111 rfl 2 rfl ?_
          obtain ⟨b11925, e11926, h11927⟩ := Iy11907.fld (h11912) 1 13 11 rfl
          refine g_getR C fi_X8_15 rfl e11926 (h11912).1 (h11912).2 dX8_walk_112 ?_
          refine g_iload_n C dX8_walk_115 rfl 3 rfl ?_
          refine g_iald (j := (a1.toInt.toNat)) C h11927.1 h11927.2.1 (ix_in h11927.2.2 (by omega)) dX8_walk_116 ?_
          refine g_topi (fun z11928 _ => ?_)
          refine g_callVV (rest := []) C mv_X8_87 [.int z11928] (s_X0_add Iy11907 h11915.at) (h11915.at).1 (h11915.at).2 rfl rfl (by decide) (Nat.le_of_ble_eq_true rfl) (by decide) dX8_walk_117 (fun Y11930 h11931 => ?_)
          obtain ⟨Iy11932, Xy11933⟩ := h11931
          have q11934 := Xy11933.keep h11912 (by decide) 4
          have q11935 := Xy11933.keep h11912 (by decide) 6
          have q11936 := Xy11933.keep (h11921.at) (by decide) 4
          have Xz11937 : EK [0, 5, 13] P Y11930 := Xz11911.tr (Xy11933.mono (by decide))
          have h11938 := Xy11933.at h11912
          refine g_aload_n C dX8_walk_120 rfl 2 rfl ?_
          obtain ⟨b11939, e11940, h11941⟩ := Iy11932.fld (h11938) 2 5 0 rfl
          refine g_getR C fi_X8_21 rfl e11940 (h11938).1 (h11938).2 dX8_walk_121 ?_
          refine g_aload_n C dX8_walk_124 rfl 2 rfl ?_
          obtain ⟨b11942, e11943, h11944⟩ := Iy11932.fld (h11938) 1 13 11 rfl
          refine g_getR C fi_X8_15 rfl e11943 (h11938).1 (h11938).2 dX8_walk_125 ?_
          refine g_iload_n C dX8_walk_128 rfl 3 rfl ?_
          refine g_iald (j := (a1.toInt.toNat)) C h11944.1 h11944.2.1 (ix_in h11944.2.2 (by omega)) dX8_walk_129 ?_
          refine g_topi (fun z11945 _ => ?_)
          refine g_iload_n C dX8_walk_130 rfl 3 rfl ?_
          refine g_callVV (rest := []) C mv_X8_91 [.int z11945, .int a1] (s_X5_add Iy11932 h11941.at) (h11941.at).1 (h11941.at).2 rfl rfl (by decide) (Nat.le_of_ble_eq_true rfl) (by decide) dX8_walk_131 (fun Y11947 h11948 => ?_)
          obtain ⟨Iy11949, Xy11950⟩ := h11948
          have q11951 := Xy11950.keep h11938 (by decide) 4
          have q11952 := Xy11950.keep h11938 (by decide) 6
          have Xz11953 : EK [0, 5, 13] P Y11947 := Xz11937.tr (Xy11950.mono (by decide))
          have h11954 := Xy11950.at h11938
          refine g_aload_n C dX8_walk_134 rfl 2 rfl ?_
          refine g_iload_n C dX8_walk_135 rfl 3 rfl ?_
          refine g_iconst (v := 1) C dX8_walk_136 (by decide) ?_
          refine s_iadd C dX8_walk_137 (by show -2147483648 ≤ a1.toInt + 1 ∧ a1.toInt + 1 ≤ 2147483647; omega) (fun z11955 h11956 => ?_)
          have h11956 : z11955.toInt = a1.toInt + 1 := h11956
          refine g_iload_n C dX8_walk_138 rfl 4 rfl ?_
          refine g_iconst (v := 1) C dX8_walk_139 (by decide) ?_
          refine s_iadd C dX8_walk_140 (by show -2147483648 ≤ a2.toInt + 1 ∧ a2.toInt + 1 ≤ 2147483647; omega) (fun z11957 h11958 => ?_)
          have h11958 : z11957.toInt = a2.toInt + 1 := h11958
          refine g_aload_n C dX8_walk_141 rfl 2 rfl ?_
          refine g_getI C fi_X8_42 (by decide) (h11954).1 (h11954).2 dX8_walk_142 ?_
          have u11960 := ti_rng (pI Y11947 a0 5)
          refine b_if_ne C 159 dX8_walk_145 (by decide) (fun h11959 => ?_) (fun h11959 => ?_)
          · have h11959 : (pI Y11947 a0 5).toInt ≠ 0 := ti_ne h11959
            refine g_iload_n C dX8_walk_159 rfl 5 rfl ?_
            refine g_lv (lv' := [(0, .ref a0), (4, .int z11917), (5, .int z11923)]) [2, 1, 0] rfl ?_
            exact J160 Y11947 z11917 z11923 a3 z11957 z11955 Iy11949 Xz11953 (by omega) (by omega) (by omega) (by omega) (by omega)
          · have h11959 : (pI Y11947 a0 5).toInt = 0 := congrArg Int32.toInt h11959
            refine g_aload_n C dX8_walk_148 rfl 2 rfl ?_
            obtain ⟨b11961, e11962, h11963⟩ := Iy11949.fld (h11954) 2 5 0 rfl
            refine g_getR C fi_X8_21 rfl e11962 (h11954).1 (h11954).2 dX8_walk_149 ?_
            refine g_iload_n C dX8_walk_152 rfl 5 rfl ?_
            refine g_callVI (rest := [.int z11957, .int z11955, .ref a0]) C mv_X8_93 [.int a3] (s_X5_spread Iy11949 h11963.at) (h11963.at).1 (h11963.at).2 rfl rfl (by decide) (Nat.le_of_ble_eq_true rfl) (by decide) dX8_walk_153 (fun r11964 Y11965 h11966 => ?_)
            obtain ⟨rfl, h11966⟩ := h11966
            have h11966 : True := h11966
            refine g_goto C 160 dX8_walk_156 (by decide) ?_
            refine g_lv (lv' := [(0, .ref a0), (4, .int z11917), (5, .int z11923)]) [2, 1, 0] rfl ?_
            exact J160 Y11947 z11917 z11923 r11964 z11957 z11955 Iy11949 Xz11953 (by omega) (by omega) (by omega) (by omega) (by omega)
        · have h11901 : z11898.toInt < (pI P a0 6).toInt := h11901
          exact ret _ _ _ _ _ dX8_walk_79 (by decide) (by decide) ⟨I, EK.rf⟩
  have J32 : G E ({ frames := 13, cells := 0, slots := 0, locals := 832 } : Room) D cy 6 P 0 0 32 [(0, .ref a0), (1, .int a1), (2, .int a2)] [] := by
    refine g_aload_n C dX8_walk_32 rfl 0 rfl ?_
    refine g_aload_n C dX8_walk_33 rfl 0 rfl ?_
    refine g_getI C fi_X8_38 (by decide) (ha0).1 (ha0).2 dX8_walk_34 ?_
    have h11967 := I.rg (ha0) 4 rfl
    refine g_iload_n C dX8_walk_37 rfl 1 rfl ?_
    refine s_isub C dX8_walk_38 (by show -2147483648 ≤ (pI P a0 4).toInt - a1.toInt ∧ (pI P a0 4).toInt - a1.toInt ≤ 2147483647; omega) (fun z11968 h11969 => ?_)
    have h11969 : z11968.toInt = (pI P a0 4).toInt - a1.toInt := h11969
    refine g_iload_n C dX8_walk_39 rfl 2 rfl ?_
    refine g_callVV (rest := []) C mv_X8_80 [.int z11968, .int a2] (s_X8_addAllWith I ha0 (by omega) (by omega)) (ha0).1 (ha0).2 rfl rfl (by decide) (Nat.le_of_ble_eq_true rfl) (by decide) dX8_walk_40 (fun Y11971 h11972 => ?_)
    obtain ⟨Iy11973, Xy11974⟩ := h11972
    have q11975 := Xy11974.keep ha0 (by decide) 4
    have Xz11976 : EK [0, 5, 13] P Y11971 := Xy11974.mono (by decide)
    have h11977 := Xy11974.at ha0
    exact ret _ _ _ _ _ dX8_walk_43 (by decide) (by decide) ⟨Iy11973, Xz11976⟩
  refine g_aload_n C dX8_walk_0 rfl 0 rfl ?_
  refine g_getI C fi_X8_42 (by decide) (ha0).1 (ha0).2 dX8_walk_1 ?_
  have u11979 := ti_rng (pI P a0 5)
  refine b_if_ne C 18 dX8_walk_4 (by decide) (fun h11978 => ?_) (fun h11978 => ?_)
  · have h11978 : (pI P a0 5).toInt ≠ 0 := ti_ne h11978
    refine g_aload_n C dX8_walk_18 rfl 0 rfl ?_
    obtain ⟨b11980, e11981, h11982⟩ := I.fld (ha0) 3 0 0 rfl
    refine g_getR C fi_X8_28 rfl e11981 (ha0).1 (ha0).2 dX8_walk_19 ?_
    refine g_getI C fi_X8_77 (by decide) (h11982.at).1 (h11982.at).2 dX8_walk_22 ?_
    have h11983 := I.rg (h11982.at) 2 rfl
    refine g_aload_n C dX8_walk_25 rfl 0 rfl ?_
    refine g_getI C fi_X8_51 (by decide) (ha0).1 (ha0).2 dX8_walk_26 ?_
    have h11984 := I.rg (ha0) 6 rfl
    refine b_icmp_ne C 44 dX8_walk_29 (by decide) (fun h11985 => ?_) (fun h11985 => ?_)
    · have h11985 : (pI P b11980 2).toInt ≠ (pI P a0 6).toInt := ti_ne h11985
      exact J44 
    · have h11985 : (pI P b11980 2).toInt = (pI P a0 6).toInt := congrArg Int32.toInt h11985
      refine g_lv (lv' := [(0, .ref a0), (1, .int a1), (2, .int a2)]) [0, 1, 2] rfl ?_
      exact J32 
  · have h11978 : (pI P a0 5).toInt = 0 := congrArg Int32.toInt h11978
    refine g_iload_n C dX8_walk_7 rfl 3 rfl ?_
    refine g_aload_n C dX8_walk_8 rfl 0 rfl ?_
    refine g_getI C fi_X8_56 (by decide) (ha0).1 (ha0).2 dX8_walk_9 ?_
    have u11987 := ti_rng a3
    have u11988 := ti_rng (pI P a0 7)
    refine b_icmp_ne C 44 dX8_walk_12 (by decide) (fun h11986 => ?_) (fun h11986 => ?_)
    · have h11986 : a3.toInt ≠ (pI P a0 7).toInt := ti_ne h11986
      exact J44 
    · have h11986 : a3.toInt = (pI P a0 7).toInt := congrArg Int32.toInt h11986
      refine g_goto C 32 dX8_walk_15 (by decide) ?_
      refine g_lv (lv' := [(0, .ref a0), (1, .int a1), (2, .int a2)]) [0, 1, 2] rfl ?_
      exact J32 
set_option maxHeartbeats 4000000 in
set_option maxRecDepth 100000 in
theorem s_X8_walk_L11 {P : PP} {a0 : Nat} {a1 : Int32} {a2 : Int32} {a3 : Int32} (I : IV P) (ha0 : At P a0 8) (ha1 : 0 ≤ a1.toInt ∧ a1.toInt ≤ 0) (ha2 : 0 ≤ a2.toInt ∧ a2.toInt ≤ 0) : CtrV yX8_walk cX8_walk 6 none ({ frames := 14, cells := 0, slots := 0, locals := 896 } : Room) 0 0 P [.ref a0, .int a1, .int a2, .int a3] (fun P2 => IV P2 ∧ EK [0, 5, 13] P P2) := by
  refine enV (lv := [(0, .ref a0), (1, .int a1), (2, .int a2), (3, .int a3)]) (by decide) (Nat.le_of_ble_eq_true rfl) rfl (fun E D cy C Ci0 ret => ?_)
  have J160 : ∀ (P160 : PP) (v160_4 : Int32) (v160_5 : Int32) (v160_s0 : Int32) (v160_s1 : Int32) (v160_s2 : Int32), (IV P160) → (EK [0, 5, 13] P P160) → (0 ≤ v160_4.toInt ∧ v160_4.toInt ≤ 20) → (0 ≤ v160_5.toInt ∧ v160_5.toInt ≤ 44) → (1 ≤ v160_s1.toInt ∧ v160_s1.toInt ≤ 1) → (1 ≤ v160_s2.toInt ∧ v160_s2.toInt ≤ 1) → (1 ≤ (pI P160 a0 4).toInt ∧ (pI P160 a0 4).toInt ≤ 11) → G E ({ frames := 14, cells := 0, slots := 0, locals := 896 } : Room) D cy 6 P160 0 0 160 [(0, .ref a0), (4, .int v160_4), (5, .int v160_5)] [.int v160_s0, .int v160_s1, .int v160_s2, .ref a0] := by
    intro P160 v160_4 v160_5 v160_s0 v160_s1 v160_s2 I160 X160 hv160_4 hv160_5 hv160_s1 hv160_s2 hq160_0
    have h12120 := X160.at ha0
    refine g_callVV (rest := []) C mv_X8_73 [.int v160_s2, .int v160_s1, .int v160_s0] (s_X8_walk_L10 I160 h12120 (by omega) (by omega)) (h12120).1 (h12120).2 rfl rfl (by decide) (Nat.le_of_ble_eq_true rfl) (by decide) dX8_walk_160 (fun Y12122 h12123 => ?_)
    obtain ⟨Iy12124, Xy12125⟩ := h12123
    have q12126 := Xy12125.keep h12120 (by decide) 4
    have Xz12127 : EK [0, 5, 13] P Y12122 := X160.tr (Xy12125.mono (by decide))
    have h12128 := Xy12125.at h12120
    refine g_aload_n C dX8_walk_163 rfl 0 rfl ?_
    obtain ⟨b12129, e12130, h12131⟩ := Iy12124.fld (h12128) 3 0 0 rfl
    refine g_getR C fi_X8_28 rfl e12130 (h12128).1 (h12128).2 dX8_walk_164 ?_
    refine g_iload C dX8_walk_167 1 rfl ?_
    refine g_callVV (rest := []) C mv_X8_96 [.int v160_4] (s_X0_cut Iy12124 h12131.at) (h12131.at).1 (h12131.at).2 rfl rfl (by decide) (Nat.le_of_ble_eq_true rfl) (by decide) dX8_walk_169 (fun Y12133 h12134 => ?_)
    obtain ⟨Iy12135, Xy12136⟩ := h12134
    have q12137 := Xy12136.keep h12128 (by decide) 4
    have Xz12138 : EK [0, 5, 13] P Y12133 := Xz12127.tr (Xy12136.mono (by decide))
    have h12139 := Xy12136.at h12128
    refine g_aload_n C dX8_walk_172 rfl 0 rfl ?_
    obtain ⟨b12140, e12141, h12142⟩ := Iy12135.fld (h12139) 2 5 0 rfl
    refine g_getR C fi_X8_21 rfl e12141 (h12139).1 (h12139).2 dX8_walk_173 ?_
    refine g_iload C dX8_walk_176 2 rfl ?_
    refine g_callVV (rest := []) C mv_X8_99 [.int v160_5] (s_X5_cut Iy12135 h12142.at) (h12142.at).1 (h12142.at).2 rfl rfl (by decide) (Nat.le_of_ble_eq_true rfl) (by decide) dX8_walk_178 (fun Y12144 h12145 => ?_)
    obtain ⟨Iy12146, Xy12147⟩ := h12145
    have q12148 := Xy12147.keep h12139 (by decide) 4
    have Xz12149 : EK [0, 5, 13] P Y12144 := Xz12138.tr (Xy12147.mono (by decide))
    have h12150 := Xy12147.at h12139
    exact ret _ _ _ _ _ dX8_walk_181 (by decide) (by decide) ⟨Iy12146, Xz12149⟩
  have J44 : G E ({ frames := 14, cells := 0, slots := 0, locals := 896 } : Room) D cy 6 P 0 0 44 [(0, .ref a0), (1, .int a1), (2, .int a2), (3, .int a3)] [] := by
    refine g_iload_n C dX8_walk_44 rfl 1 rfl ?_
    refine g_aload_n C dX8_walk_45 rfl 0 rfl ?_
    refine g_getI C fi_X8_38 (by decide) (ha0).1 (ha0).2 dX8_walk_46 ?_
    have h12151 := I.rg (ha0) 4 rfl
    refine b_icmp_ge C 79 dX8_walk_49 (by decide) (fun h12152 => ?_) (fun h12152 => ?_)
    · have h12152 : (pI P a0 4).toInt ≤ a1.toInt := h12152
      exact ret _ _ _ _ _ dX8_walk_79 (by decide) (by decide) ⟨I, EK.rf⟩
    · have h12152 : a1.toInt < (pI P a0 4).toInt := h12152
      refine g_iload_n C dX8_walk_52 rfl 1 rfl ?_
      refine g_bipush (v := 11) C dX8_walk_53 (by decide) ?_
      refine b_icmp_ge C 79 dX8_walk_55 (by decide) (fun h12153 => ?_) (fun h12153 => ?_)
      · have h12153 : 11 ≤ a1.toInt := h12153
        omega
      · have h12153 : a1.toInt < 11 := h12153
        refine g_aload_n C dX8_walk_58 rfl 0 rfl ?_
        obtain ⟨b12154, e12155, h12156⟩ := I.fld (ha0) 3 0 0 rfl
        refine g_getR C fi_X8_28 rfl e12155 (ha0).1 (ha0).2 dX8_walk_59 ?_
        refine g_getI C fi_X8_77 (by decide) (h12156.at).1 (h12156.at).2 dX8_walk_62 ?_
        have h12157 := I.rg (h12156.at) 2 rfl
        refine g_aload_n C dX8_walk_65 rfl 0 rfl ?_
        refine g_getI C fi_X8_38 (by decide) (ha0).1 (ha0).2 dX8_walk_66 ?_
        refine s_iadd C dX8_walk_69 (by show -2147483648 ≤ (pI P b12154 2).toInt + (pI P a0 4).toInt ∧ (pI P b12154 2).toInt + (pI P a0 4).toInt ≤ 2147483647; omega) (fun z12158 h12159 => ?_)
        have h12159 : z12158.toInt = (pI P b12154 2).toInt + (pI P a0 4).toInt := h12159
        refine g_iload_n C dX8_walk_70 rfl 1 rfl ?_
        refine s_isub C dX8_walk_71 (by show -2147483648 ≤ z12158.toInt - a1.toInt ∧ z12158.toInt - a1.toInt ≤ 2147483647; omega) (fun z12160 h12161 => ?_)
        have h12161 : z12160.toInt = z12158.toInt - a1.toInt := h12161
        refine g_aload_n C dX8_walk_72 rfl 0 rfl ?_
        refine g_getI C fi_X8_51 (by decide) (ha0).1 (ha0).2 dX8_walk_73 ?_
        have h12162 := I.rg (ha0) 6 rfl
        refine b_icmp_ge C 80 dX8_walk_76 (by decide) (fun h12163 => ?_) (fun h12163 => ?_)
        · have h12163 : (pI P a0 6).toInt ≤ z12160.toInt := h12163
          refine g_aload_n C dX8_walk_80 rfl 0 rfl ?_
          refine g_iload_n C dX8_walk_81 rfl 1 rfl ?_
          refine g_iconst (v := 1) C dX8_walk_82 (by decide) ?_
          refine s_iadd C dX8_walk_83 (by show -2147483648 ≤ a1.toInt + 1 ∧ a1.toInt + 1 ≤ 2147483647; omega) (fun z12164 h12165 => ?_)
          have h12165 : z12164.toInt = a1.toInt + 1 := h12165
          refine g_iload_n C dX8_walk_84 rfl 2 rfl ?_
          refine g_iload_n C dX8_walk_85 rfl 3 rfl ?_
          refine g_callVV (rest := []) C mv_X8_73 [.int z12164, .int a2, .int a3] (s_X8_walk_L10 I ha0 (by omega) (by omega)) (ha0).1 (ha0).2 rfl rfl (by decide) (Nat.le_of_ble_eq_true rfl) (by decide) dX8_walk_86 (fun Y12167 h12168 => ?_)
          obtain ⟨Iy12169, Xy12170⟩ := h12168
          have q12171 := Xy12170.keep ha0 (by decide) 4
          have q12172 := Xy12170.keep ha0 (by decide) 6
          have Xz12173 : EK [0, 5, 13] P Y12167 := Xy12170.mono (by decide)
          have h12174 := Xy12170.at ha0
          refine g_aload_n C dX8_walk_89 rfl 0 rfl ?_
          obtain ⟨b12175, e12176, h12177⟩ := Iy12169.fld (h12174) 3 0 0 rfl
          refine g_getR C fi_X8_28 rfl e12176 (h12174).1 (h12174).2 dX8_walk_90 ?_
          refine g_getI C fi_X8_77 (by decide) (h12177.at).1 (h12177.at).2 dX8_walk_93 ?_
          have h12178 := Iy12169.rg (h12177.at) 2 rfl
          refine g_topi (fun z12179 h12180 => ?_)
          have h12180 : z12179.toInt = (pI Y12167 b12175 2).toInt := congrArg Int32.toInt h12180
          refine g_istore (lv' := [(4, .int z12179), (0, .ref a0), (1, .int a1), (2, .int a2), (3, .int a3)]) C dX8_walk_96 (by decide) rfl ?_
          refine g_aload_n C dX8_walk_98 rfl 1 rfl ?_
          obtain ⟨b12181, e12182, h12183⟩ := Iy12169.fld (h12174) 2 5 0 rfl
          refine g_getR C fi_X8_21 rfl e12182 (h12174).1 (h12174).2 dX8_walk_99 ?_
          refine g_getI C fi_X8_84 (by decide) (h12183.at).1 (h12183.at).2 dX8_walk_102 ?_
          have h12184 := Iy12169.rg (h12183.at) 4 rfl
          refine g_topi (fun z12185 h12186 => ?_)
          have h12186 : z12185.toInt = (pI Y12167 b12181 4).toInt := congrArg Int32.toInt h12186
          refine g_istore (lv' := [(5, .int z12185), (4, .int z12179), (0, .ref a0), (1, .int a1), (2, .int a2), (3, .int a3)]) C dX8_walk_105 (by decide) rfl ?_
          refine g_aload_n C dX8_walk_107 rfl 2 rfl ?_
          refine g_getR C fi_X8_28 rfl e12176 (h12174).1 (h12174).2 dX8_walk_108 ?_
          refine g_aload_n C dX8_walk_111 rfl 2 rfl ?_
          obtain ⟨b12187, e12188, h12189⟩ := Iy12169.fld (h12174) 1 13 11 rfl
          refine g_getR C fi_X8_15 rfl e12188 (h12174).1 (h12174).2 dX8_walk_112 ?_
          refine g_iload_n C dX8_walk_115 rfl 3 rfl ?_
          refine g_iald (j := (a1.toInt.toNat)) C h12189.1 h12189.2.1 (ix_in h12189.2.2 (by omega)) dX8_walk_116 ?_
          refine g_topi (fun z12190 _ => ?_)
          refine g_callVV (rest := []) C mv_X8_87 [.int z12190] (s_X0_add Iy12169 h12177.at) (h12177.at).1 (h12177.at).2 rfl rfl (by decide) (Nat.le_of_ble_eq_true rfl) (by decide) dX8_walk_117 (fun Y12192 h12193 => ?_)
          obtain ⟨Iy12194, Xy12195⟩ := h12193
          have q12196 := Xy12195.keep h12174 (by decide) 4
          have q12197 := Xy12195.keep h12174 (by decide) 6
          have q12198 := Xy12195.keep (h12183.at) (by decide) 4
          have Xz12199 : EK [0, 5, 13] P Y12192 := Xz12173.tr (Xy12195.mono (by decide))
          have h12200 := Xy12195.at h12174
          refine g_aload_n C dX8_walk_120 rfl 2 rfl ?_
          obtain ⟨b12201, e12202, h12203⟩ := Iy12194.fld (h12200) 2 5 0 rfl
          refine g_getR C fi_X8_21 rfl e12202 (h12200).1 (h12200).2 dX8_walk_121 ?_
          refine g_aload_n C dX8_walk_124 rfl 2 rfl ?_
          obtain ⟨b12204, e12205, h12206⟩ := Iy12194.fld (h12200) 1 13 11 rfl
          refine g_getR C fi_X8_15 rfl e12205 (h12200).1 (h12200).2 dX8_walk_125 ?_
          refine g_iload_n C dX8_walk_128 rfl 3 rfl ?_
          refine g_iald (j := (a1.toInt.toNat)) C h12206.1 h12206.2.1 (ix_in h12206.2.2 (by omega)) dX8_walk_129 ?_
          refine g_topi (fun z12207 _ => ?_)
          refine g_iload_n C dX8_walk_130 rfl 3 rfl ?_
          refine g_callVV (rest := []) C mv_X8_91 [.int z12207, .int a1] (s_X5_add Iy12194 h12203.at) (h12203.at).1 (h12203.at).2 rfl rfl (by decide) (Nat.le_of_ble_eq_true rfl) (by decide) dX8_walk_131 (fun Y12209 h12210 => ?_)
          obtain ⟨Iy12211, Xy12212⟩ := h12210
          have q12213 := Xy12212.keep h12200 (by decide) 4
          have q12214 := Xy12212.keep h12200 (by decide) 6
          have Xz12215 : EK [0, 5, 13] P Y12209 := Xz12199.tr (Xy12212.mono (by decide))
          have h12216 := Xy12212.at h12200
          refine g_aload_n C dX8_walk_134 rfl 2 rfl ?_
          refine g_iload_n C dX8_walk_135 rfl 3 rfl ?_
          refine g_iconst (v := 1) C dX8_walk_136 (by decide) ?_
          refine s_iadd C dX8_walk_137 (by show -2147483648 ≤ a1.toInt + 1 ∧ a1.toInt + 1 ≤ 2147483647; omega) (fun z12217 h12218 => ?_)
          have h12218 : z12217.toInt = a1.toInt + 1 := h12218
          refine g_iload_n C dX8_walk_138 rfl 4 rfl ?_
          refine g_iconst (v := 1) C dX8_walk_139 (by decide) ?_
          refine s_iadd C dX8_walk_140 (by show -2147483648 ≤ a2.toInt + 1 ∧ a2.toInt + 1 ≤ 2147483647; omega) (fun z12219 h12220 => ?_)
          have h12220 : z12219.toInt = a2.toInt + 1 := h12220
          refine g_aload_n C dX8_walk_141 rfl 2 rfl ?_
          refine g_getI C fi_X8_42 (by decide) (h12216).1 (h12216).2 dX8_walk_142 ?_
          have u12222 := ti_rng (pI Y12209 a0 5)
          refine b_if_ne C 159 dX8_walk_145 (by decide) (fun h12221 => ?_) (fun h12221 => ?_)
          · have h12221 : (pI Y12209 a0 5).toInt ≠ 0 := ti_ne h12221
            refine g_iload_n C dX8_walk_159 rfl 5 rfl ?_
            refine g_lv (lv' := [(0, .ref a0), (4, .int z12179), (5, .int z12185)]) [2, 1, 0] rfl ?_
            exact J160 Y12209 z12179 z12185 a3 z12219 z12217 Iy12211 Xz12215 (by omega) (by omega) (by omega) (by omega) (by omega)
          · have h12221 : (pI Y12209 a0 5).toInt = 0 := congrArg Int32.toInt h12221
            refine g_aload_n C dX8_walk_148 rfl 2 rfl ?_
            obtain ⟨b12223, e12224, h12225⟩ := Iy12211.fld (h12216) 2 5 0 rfl
            refine g_getR C fi_X8_21 rfl e12224 (h12216).1 (h12216).2 dX8_walk_149 ?_
            refine g_iload_n C dX8_walk_152 rfl 5 rfl ?_
            refine g_callVI (rest := [.int z12219, .int z12217, .ref a0]) C mv_X8_93 [.int a3] (s_X5_spread Iy12211 h12225.at) (h12225.at).1 (h12225.at).2 rfl rfl (by decide) (Nat.le_of_ble_eq_true rfl) (by decide) dX8_walk_153 (fun r12226 Y12227 h12228 => ?_)
            obtain ⟨rfl, h12228⟩ := h12228
            have h12228 : True := h12228
            refine g_goto C 160 dX8_walk_156 (by decide) ?_
            refine g_lv (lv' := [(0, .ref a0), (4, .int z12179), (5, .int z12185)]) [2, 1, 0] rfl ?_
            exact J160 Y12209 z12179 z12185 r12226 z12219 z12217 Iy12211 Xz12215 (by omega) (by omega) (by omega) (by omega) (by omega)
        · have h12163 : z12160.toInt < (pI P a0 6).toInt := h12163
          exact ret _ _ _ _ _ dX8_walk_79 (by decide) (by decide) ⟨I, EK.rf⟩
  have J32 : G E ({ frames := 14, cells := 0, slots := 0, locals := 896 } : Room) D cy 6 P 0 0 32 [(0, .ref a0), (1, .int a1), (2, .int a2)] [] := by
    refine g_aload_n C dX8_walk_32 rfl 0 rfl ?_
    refine g_aload_n C dX8_walk_33 rfl 0 rfl ?_
    refine g_getI C fi_X8_38 (by decide) (ha0).1 (ha0).2 dX8_walk_34 ?_
    have h12229 := I.rg (ha0) 4 rfl
    refine g_iload_n C dX8_walk_37 rfl 1 rfl ?_
    refine s_isub C dX8_walk_38 (by show -2147483648 ≤ (pI P a0 4).toInt - a1.toInt ∧ (pI P a0 4).toInt - a1.toInt ≤ 2147483647; omega) (fun z12230 h12231 => ?_)
    have h12231 : z12230.toInt = (pI P a0 4).toInt - a1.toInt := h12231
    refine g_iload_n C dX8_walk_39 rfl 2 rfl ?_
    refine g_callVV (rest := []) C mv_X8_80 [.int z12230, .int a2] (s_X8_addAllWith I ha0 (by omega) (by omega)) (ha0).1 (ha0).2 rfl rfl (by decide) (Nat.le_of_ble_eq_true rfl) (by decide) dX8_walk_40 (fun Y12233 h12234 => ?_)
    obtain ⟨Iy12235, Xy12236⟩ := h12234
    have q12237 := Xy12236.keep ha0 (by decide) 4
    have Xz12238 : EK [0, 5, 13] P Y12233 := Xy12236.mono (by decide)
    have h12239 := Xy12236.at ha0
    exact ret _ _ _ _ _ dX8_walk_43 (by decide) (by decide) ⟨Iy12235, Xz12238⟩
  refine g_aload_n C dX8_walk_0 rfl 0 rfl ?_
  refine g_getI C fi_X8_42 (by decide) (ha0).1 (ha0).2 dX8_walk_1 ?_
  have u12241 := ti_rng (pI P a0 5)
  refine b_if_ne C 18 dX8_walk_4 (by decide) (fun h12240 => ?_) (fun h12240 => ?_)
  · have h12240 : (pI P a0 5).toInt ≠ 0 := ti_ne h12240
    refine g_aload_n C dX8_walk_18 rfl 0 rfl ?_
    obtain ⟨b12242, e12243, h12244⟩ := I.fld (ha0) 3 0 0 rfl
    refine g_getR C fi_X8_28 rfl e12243 (ha0).1 (ha0).2 dX8_walk_19 ?_
    refine g_getI C fi_X8_77 (by decide) (h12244.at).1 (h12244.at).2 dX8_walk_22 ?_
    have h12245 := I.rg (h12244.at) 2 rfl
    refine g_aload_n C dX8_walk_25 rfl 0 rfl ?_
    refine g_getI C fi_X8_51 (by decide) (ha0).1 (ha0).2 dX8_walk_26 ?_
    have h12246 := I.rg (ha0) 6 rfl
    refine b_icmp_ne C 44 dX8_walk_29 (by decide) (fun h12247 => ?_) (fun h12247 => ?_)
    · have h12247 : (pI P b12242 2).toInt ≠ (pI P a0 6).toInt := ti_ne h12247
      exact J44 
    · have h12247 : (pI P b12242 2).toInt = (pI P a0 6).toInt := congrArg Int32.toInt h12247
      refine g_lv (lv' := [(0, .ref a0), (1, .int a1), (2, .int a2)]) [0, 1, 2] rfl ?_
      exact J32 
  · have h12240 : (pI P a0 5).toInt = 0 := congrArg Int32.toInt h12240
    refine g_iload_n C dX8_walk_7 rfl 3 rfl ?_
    refine g_aload_n C dX8_walk_8 rfl 0 rfl ?_
    refine g_getI C fi_X8_56 (by decide) (ha0).1 (ha0).2 dX8_walk_9 ?_
    have u12249 := ti_rng a3
    have u12250 := ti_rng (pI P a0 7)
    refine b_icmp_ne C 44 dX8_walk_12 (by decide) (fun h12248 => ?_) (fun h12248 => ?_)
    · have h12248 : a3.toInt ≠ (pI P a0 7).toInt := ti_ne h12248
      exact J44 
    · have h12248 : a3.toInt = (pI P a0 7).toInt := congrArg Int32.toInt h12248
      refine g_goto C 32 dX8_walk_15 (by decide) ?_
      refine g_lv (lv' := [(0, .ref a0), (1, .int a1), (2, .int a2)]) [0, 1, 2] rfl ?_
      exact J32 
theorem dX8_tally_129 : decode cX8_tally 129 = .ok (.return_, 1) := by decide +kernel
set_option maxHeartbeats 4000000 in
set_option maxRecDepth 100000 in
theorem s_X8_tally {P : PP} {a0 : Nat} {a1 : Nat} {a2 : Int32} {a3 : Int32} {a4 : Int32} (I : IV P) (ha0 : At P a0 8) (ha1 : At P a1 1) (ha2 : 1 ≤ a2.toInt ∧ a2.toInt ≤ 11) (ha4 : 0 ≤ a4.toInt ∧ a4.toInt ≤ 20) : CtrV yX8_tally cX8_tally 6 none ({ frames := 15, cells := 0, slots := 0, locals := 960 } : Room) 0 0 P [.ref a0, .ref a1, .int a2, .int a3, .int a4] (fun P2 => IV P2 ∧ EK [0, 1, 5, 8, 13] P P2) := by
  refine enV (lv := [(0, .ref a0), (1, .ref a1), (2, .int a2), (3, .int a3), (4, .int a4)]) (by decide) (Nat.le_of_ble_eq_true rfl) rfl (fun E D cy C Ci0 ret => ?_)
  have J58 : ∀ (n58 : Nat) (P58 : PP) (v58_5 : Int32), (11 - v58_5.toInt).toNat < n58 → (IV P58) → (EK [0, 1, 5, 8, 13] P P58) → (0 ≤ v58_5.toInt ∧ v58_5.toInt ≤ 11) → (1 ≤ (pI P58 a0 4).toInt ∧ (pI P58 a0 4).toInt ≤ 11) → G E ({ frames := 15, cells := 0, slots := 0, locals := 960 } : Room) D cy 6 P58 0 0 58 [(0, .ref a0), (1, .ref a1), (4, .int a4), (5, .int v58_5)] [] := by
    intro n58
    induction n58 with
    | zero => intro P58 v58_5 hm58 I58 X58 hv58_5 hq58_0; omega
    | succ n58 ih58 =>
      intro P58 v58_5 hm58 I58 X58 hv58_5 hq58_0
      have h13095 := X58.at ha0
      have h13096 := X58.at ha1
      have J95 : ∀ (P95 : PP) (v95_s0 : Int32) (b95_s2 : Nat), (IV P95) → (EK [0, 1, 5, 8, 13] P P95) → (0 ≤ v58_5.toInt ∧ v58_5.toInt ≤ 10) → (Ar P95 b95_s2 13 11) → (1 ≤ (pI P95 a0 4).toInt ∧ (pI P95 a0 4).toInt ≤ 11) → G E ({ frames := 15, cells := 0, slots := 0, locals := 960 } : Room) D cy 6 P95 0 0 95 [(0, .ref a0), (1, .ref a1), (4, .int a4), (5, .int v58_5)] [.int v95_s0, .int v58_5, .ref b95_s2] := by
        intro P95 v95_s0 b95_s2 I95 X95 hv95_5 hb95_s2 hq95_0
        have h13097 := X95.at ha0
        have h13098 := X95.at ha1
        refine g_iast (j := (v58_5.toInt.toNat)) C hb95_s2.1 hb95_s2.2.1 (ix_in hb95_s2.2.2 (by omega)) dX8_tally_95 ?_
        refine gp (ks := [13]) (I95.setA hb95_s2 (by decide)) (EK.setI hb95_s2.2.1 (by decide)) (fun Y13099 Iy13100 Xy13101 => ?_)
        have q13102 := Xy13101.keep h13097 (by decide) 4
        have Xz13103 : EK [0, 1, 5, 8, 13] P Y13099 := X95.tr (Xy13101.mono (by decide))
        have h13104 := Xy13101.at h13097
        have h13105 := Xy13101.at h13098
        refine s_iinc (lv0 := [(0, .ref a0), (1, .ref a1), (4, .int a4)]) (m := 1) C dX8_tally_96 3 rfl (by decide) rfl (by decide) (by omega) (fun z13106 h13107 => ?_)
        have h13107 : z13106.toInt = v58_5.toInt + 1 := h13107
        refine g_goto C 58 dX8_tally_99 (by decide) ?_
        refine g_lv (lv' := [(0, .ref a0), (1, .ref a1), (4, .int a4), (5, .int z13106)]) [1, 2, 3, 0] rfl ?_
        exact ih58 Y13099 z13106 (by omega) Iy13100 Xz13103 (by omega) (by omega)
      refine g_iload C dX8_tally_58 3 rfl ?_
      refine g_aload_n C dX8_tally_60 rfl 0 rfl ?_
      refine g_getI C fi_X8_38 (by decide) (h13095).1 (h13095).2 dX8_tally_61 ?_
      refine b_icmp_ge C 102 dX8_tally_64 (by decide) (fun h13108 => ?_) (fun h13108 => ?_)
      · have h13108 : (pI P58 a0 4).toInt ≤ v58_5.toInt := h13108
        refine g_aload_n C dX8_tally_102 rfl 0 rfl ?_
        obtain ⟨b13109, e13110, h13111⟩ := I58.fld (h13095) 2 5 0 rfl
        refine g_getR C fi_X8_21 rfl e13110 (h13095).1 (h13095).2 dX8_tally_103 ?_
        refine g_aload_n C dX8_tally_106 rfl 1 rfl ?_
        refine g_callVV (rest := []) C mv_X8_65 [.ref a1] (s_X5_startWith I58 h13111.at h13096) (h13111.at).1 (h13111.at).2 rfl rfl (by decide) (Nat.le_of_ble_eq_true rfl) (by decide) dX8_tally_107 (fun Y13113 h13114 => ?_)
        obtain ⟨Iy13115, Xy13116⟩ := h13114
        have q13117 := Xy13116.keep h13095 (by decide) 4
        have Xz13118 : EK [0, 1, 5, 8, 13] P Y13113 := X58.tr (Xy13116.mono (by decide))
        have h13119 := Xy13116.at h13095
        have h13120 := Xy13116.at h13096
        refine g_aload_n C dX8_tally_110 rfl 0 rfl ?_
        obtain ⟨b13121, e13122, h13123⟩ := Iy13115.fld (h13119) 3 0 0 rfl
        refine g_getR C fi_X8_28 rfl e13122 (h13119).1 (h13119).2 dX8_tally_111 ?_
        refine g_aload_n C dX8_tally_114 rfl 0 rfl ?_
        obtain ⟨b13124, e13125, h13126⟩ := Iy13115.fld (h13119) 2 5 0 rfl
        refine g_getR C fi_X8_21 rfl e13125 (h13119).1 (h13119).2 dX8_tally_115 ?_
        refine g_iconst (v := (-1)) C dX8_tally_118 (by decide) ?_
        refine g_callVV (rest := []) C mv_X8_69 [.ref b13124, .int (-1)] (s_X0_take Iy13115 h13123.at h13126.at) (h13123.at).1 (h13123.at).2 rfl rfl (by decide) (Nat.le_of_ble_eq_true rfl) (by decide) dX8_tally_119 (fun Y13128 h13129 => ?_)
        obtain ⟨Iy13130, Xy13131⟩ := h13129
        have q13132 := Xy13131.keep h13119 (by decide) 4
        have Xz13133 : EK [0, 1, 5, 8, 13] P Y13128 := Xz13118.tr (Xy13131.mono (by decide))
        have h13134 := Xy13131.at h13119
        have h13135 := Xy13131.at h13120
        refine g_aload_n C dX8_tally_122 rfl 0 rfl ?_
        refine g_iconst (v := 0) C dX8_tally_123 (by decide) ?_
        refine g_iconst (v := 0) C dX8_tally_124 (by decide) ?_
        refine g_iconst (v := 0) C dX8_tally_125 (by decide) ?_
        refine g_callVV (rest := []) C mv_X8_73 [.int 0, .int 0, .int 0] (s_X8_walk_L11 Iy13130 h13134 (by decide) (by decide)) (h13134).1 (h13134).2 rfl rfl (by decide) (Nat.le_of_ble_eq_true rfl) (by decide) dX8_tally_126 (fun Y13137 h13138 => ?_)
        obtain ⟨Iy13139, Xy13140⟩ := h13138
        have q13141 := Xy13140.keep h13134 (by decide) 4
        have Xz13142 : EK [0, 1, 5, 8, 13] P Y13137 := Xz13133.tr (Xy13140.mono (by decide))
        have h13143 := Xy13140.at h13134
        have h13144 := Xy13140.at h13135
        exact ret _ _ _ _ _ dX8_tally_129 (by decide) (by decide) ⟨Iy13139, Xz13142⟩
      · have h13108 : v58_5.toInt < (pI P58 a0 4).toInt := h13108
        refine g_aload_n C dX8_tally_67 rfl 0 rfl ?_
        obtain ⟨b13145, e13146, h13147⟩ := I58.fld (h13095) 1 13 11 rfl
        refine g_getR C fi_X8_15 rfl e13146 (h13095).1 (h13095).2 dX8_tally_68 ?_
        refine g_iload C dX8_tally_71 3 rfl ?_
        refine g_iload C dX8_tally_73 2 rfl ?_
        refine b_if_le C 89 dX8_tally_75 (by decide) (fun h13148 => ?_) (fun h13148 => ?_)
        · have h13148 : a4.toInt ≤ 0 := h13148
          refine g_aload_n C dX8_tally_89 rfl 1 rfl ?_
          refine g_iload C dX8_tally_90 3 rfl ?_
          refine g_callVI (rest := [.int v58_5, .ref b13145]) C mv_X8_61 [.int v58_5] (s_X1_pagesOf I58 h13096) (h13096).1 (h13096).2 rfl rfl (by decide) (Nat.le_of_ble_eq_true rfl) (by decide) dX8_tally_92 (fun r13149 Y13150 h13151 => ?_)
          obtain ⟨Iy13152, Xy13153, h13151⟩ := h13151
          have q13154 := Xy13153.keep h13095 (by decide) 4
          have Xz13155 : EK [0, 1, 5, 8, 13] P Y13150 := X58.tr (Xy13153.mono (by decide))
          have e13156 := Xy13153.ref h13095 (by decide) e13146
          have h13157 := Xy13153.at h13095
          have h13158 := Xy13153.at h13096
          have h13159 := Xy13153.ar h13147
          have h13151 : True := h13151
          exact J95 Y13150 r13149 b13145 Iy13152 Xz13155 (by omega) h13159 (by omega)
        · have h13148 : 0 < a4.toInt := h13148
          refine g_aload_n C dX8_tally_78 rfl 1 rfl ?_
          refine g_iload C dX8_tally_79 3 rfl ?_
          refine g_iload C dX8_tally_81 2 rfl ?_
          refine g_callVI (rest := [.int v58_5, .ref b13145]) C mv_X8_58 [.int v58_5, .int a4] (s_X1_drawPages I58 h13096 (by omega)) (h13096).1 (h13096).2 rfl rfl (by decide) (Nat.le_of_ble_eq_true rfl) (by decide) dX8_tally_83 (fun r13160 Y13161 h13162 => ?_)
          obtain ⟨Iy13163, Xy13164, h13162⟩ := h13162
          have q13165 := Xy13164.keep h13095 (by decide) 4
          have Xz13166 : EK [0, 1, 5, 8, 13] P Y13161 := X58.tr (Xy13164.mono (by decide))
          have e13167 := Xy13164.ref h13095 (by decide) e13146
          have h13168 := Xy13164.at h13095
          have h13169 := Xy13164.at h13096
          have h13170 := Xy13164.ar h13147
          have h13162 : True := h13162
          refine g_goto C 95 dX8_tally_86 (by decide) ?_
          exact J95 Y13161 r13160 b13145 Iy13163 Xz13166 (by omega) h13170 (by omega)
  have J34 : ∀ (n34 : Nat) (P34 : PP) (v34_5 : Int32), (12 - v34_5.toInt).toNat < n34 → (IV P34) → (EK [0, 1, 5, 8, 13] P P34) → (0 ≤ v34_5.toInt ∧ v34_5.toInt ≤ 12) → (1 ≤ (pI P34 a0 4).toInt ∧ (pI P34 a0 4).toInt ≤ 11) → G E ({ frames := 15, cells := 0, slots := 0, locals := 960 } : Room) D cy 6 P34 0 0 34 [(0, .ref a0), (1, .ref a1), (4, .int a4), (5, .int v34_5)] [] := by
    intro n34
    induction n34 with
    | zero => intro P34 v34_5 hm34 I34 X34 hv34_5 hq34_0; omega
    | succ n34 ih34 =>
      intro P34 v34_5 hm34 I34 X34 hv34_5 hq34_0
      have h13171 := X34.at ha0
      have h13172 := X34.at ha1
      refine g_iload C dX8_tally_34 3 rfl ?_
      refine g_bipush (v := 11) C dX8_tally_36 (by decide) ?_
      refine b_icmp_gt C 55 dX8_tally_38 (by decide) (fun h13173 => ?_) (fun h13173 => ?_)
      · have h13173 : 11 < v34_5.toInt := h13173
        refine g_iconst (v := 0) C dX8_tally_55 (by decide) ?_
        refine g_istore (lv' := [(5, .int 0), (0, .ref a0), (1, .ref a1), (4, .int a4)]) C dX8_tally_56 (by decide) rfl ?_
        refine g_lv (lv' := [(0, .ref a0), (1, .ref a1), (4, .int a4), (5, .int 0)]) [1, 2, 3, 0] rfl ?_
        exact J58 _ P34 0 (Nat.lt_succ_self _) I34 X34 (by decide) (by omega)
      · have h13173 : v34_5.toInt ≤ 11 := h13173
        refine g_aload_n C dX8_tally_41 rfl 0 rfl ?_
        obtain ⟨b13174, e13175, h13176⟩ := I34.fld (h13171) 0 13 12 rfl
        refine g_getR C fi_X8_9 rfl e13175 (h13171).1 (h13171).2 dX8_tally_42 ?_
        refine g_iload C dX8_tally_45 3 rfl ?_
        refine g_iconst (v := 0) C dX8_tally_47 (by decide) ?_
        refine g_iast (j := (v34_5.toInt.toNat)) C h13176.1 h13176.2.1 (ix_in h13176.2.2 (by omega)) dX8_tally_48 ?_
        refine gp (ks := [13]) (I34.setA h13176 (by decide)) (EK.setI h13176.2.1 (by decide)) (fun Y13177 Iy13178 Xy13179 => ?_)
        have q13180 := Xy13179.keep h13171 (by decide) 4
        have Xz13181 : EK [0, 1, 5, 8, 13] P Y13177 := X34.tr (Xy13179.mono (by decide))
        have h13182 := Xy13179.at h13171
        have h13183 := Xy13179.at h13172
        refine s_iinc (lv0 := [(0, .ref a0), (1, .ref a1), (4, .int a4)]) (m := 1) C dX8_tally_49 3 rfl (by decide) rfl (by decide) (by omega) (fun z13184 h13185 => ?_)
        have h13185 : z13184.toInt = v34_5.toInt + 1 := h13185
        refine g_goto C 34 dX8_tally_52 (by decide) ?_
        refine g_lv (lv' := [(0, .ref a0), (1, .ref a1), (4, .int a4), (5, .int z13184)]) [1, 2, 3, 0] rfl ?_
        exact ih34 Y13177 z13184 (by omega) Iy13178 Xz13181 (by omega) (by omega)
  refine g_aload_n C dX8_tally_0 rfl 0 rfl ?_
  refine g_iload_n C dX8_tally_1 rfl 2 rfl ?_
  refine g_bipush (v := 11) C dX8_tally_2 (by decide) ?_
  refine g_mmin C ms_X8_32 (by decide) (by decide) (Nat.le_of_ble_eq_true rfl) (by decide) dX8_tally_4 (fun z13186 h13187 => ?_)
  have h13187 : z13186.toInt ≤ a2.toInt ∧ z13186.toInt ≤ 11 ∧ (z13186.toInt = a2.toInt ∨ z13186.toInt = 11) := h13187
  refine g_putI C fi_X8_38 rfl (ha0).1 (ha0).2 dX8_tally_7 ?_
  refine gpW (ks := [8]) (I.setI (ha0) (rgOk.of rfl (by omega))) (EK.setI (ha0).2 (by decide)) (fun Y13188 Iy13189 Xy13190 w13191 w13192 => ?_)
  have Xz13193 : EK [0, 1, 5, 8, 13] P Y13188 := Xy13190.mono (by decide)
  have h13194 := Xy13190.at ha0
  have h13195 := Xy13190.at ha1
  refine g_aload_n C dX8_tally_10 rfl 0 rfl ?_
  refine g_iload_n C dX8_tally_11 rfl 3 rfl ?_
  refine g_putI C fi_X8_42 rfl (h13194).1 (h13194).2 dX8_tally_12 ?_
  refine gpW (ks := [8]) (Iy13189.setI (h13194) (rgOk.none rfl)) (EK.setI (h13194).2 (by decide)) (fun Y13196 Iy13197 Xy13198 w13199 w13200 => ?_)
  have q13201 := w13199 4 (by decide)
  have Xz13202 : EK [0, 1, 5, 8, 13] P Y13196 := Xz13193.tr (Xy13198.mono (by decide))
  have h13203 := Xy13198.at h13194
  have h13204 := Xy13198.at h13195
  refine g_aload_n C dX8_tally_15 rfl 0 rfl ?_
  refine g_aload_n C dX8_tally_16 rfl 1 rfl ?_
  refine g_callVI (rest := [.ref a0]) C mv_X8_45 [] (s_X1_all Iy13197 h13204) (h13204).1 (h13204).2 rfl rfl (by decide) (Nat.le_of_ble_eq_true rfl) (by decide) dX8_tally_17 (fun r13205 Y13206 h13207 => ?_)
  obtain ⟨rfl, h13207⟩ := h13207
  have h13207 : 0 ≤ r13205.toInt ∧ r13205.toInt ≤ 20 := h13207
  refine g_putI C fi_X8_51 rfl (h13203).1 (h13203).2 dX8_tally_20 ?_
  refine gpW (ks := [8]) (Iy13197.setI (h13203) (rgOk.of rfl (by omega))) (EK.setI (h13203).2 (by decide)) (fun Y13208 Iy13209 Xy13210 w13211 w13212 => ?_)
  have q13213 := w13211 4 (by decide)
  have q13214 := w13211 5 (by decide)
  have Xz13215 : EK [0, 1, 5, 8, 13] P Y13208 := Xz13202.tr (Xy13210.mono (by decide))
  have h13216 := Xy13210.at h13203
  have h13217 := Xy13210.at h13204
  refine g_aload_n C dX8_tally_23 rfl 0 rfl ?_
  refine g_aload_n C dX8_tally_24 rfl 1 rfl ?_
  refine g_callVI (rest := [.ref a0]) C mv_X8_53 [] (s_X1_allBits Iy13209 h13217) (h13217).1 (h13217).2 rfl rfl (by decide) (Nat.le_of_ble_eq_true rfl) (by decide) dX8_tally_25 (fun r13218 Y13219 h13220 => ?_)
  obtain ⟨rfl, h13220⟩ := h13220
  have h13220 : True := h13220
  refine g_putI C fi_X8_56 rfl (h13216).1 (h13216).2 dX8_tally_28 ?_
  refine gpW (ks := [8]) (Iy13209.setI (h13216) (rgOk.none rfl)) (EK.setI (h13216).2 (by decide)) (fun Y13221 Iy13222 Xy13223 w13224 w13225 => ?_)
  have q13226 := w13224 4 (by decide)
  have q13227 := w13224 5 (by decide)
  have q13228 := w13224 6 (by decide)
  have Xz13229 : EK [0, 1, 5, 8, 13] P Y13221 := Xz13215.tr (Xy13223.mono (by decide))
  have h13230 := Xy13223.at h13216
  have h13231 := Xy13223.at h13217
  refine g_iconst (v := 0) C dX8_tally_31 (by decide) ?_
  refine g_istore (lv' := [(5, .int 0), (0, .ref a0), (1, .ref a1), (2, .int a2), (3, .int a3), (4, .int a4)]) C dX8_tally_32 (by decide) rfl ?_
  refine g_lv (lv' := [(0, .ref a0), (1, .ref a1), (4, .int a4), (5, .int 0)]) [1, 2, 5, 0] rfl ?_
  exact J34 _ Y13221 0 (Nat.lt_succ_self _) Iy13222 Xz13229 (by decide) (by omega)
