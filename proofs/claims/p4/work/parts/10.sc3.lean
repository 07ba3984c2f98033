theorem dX8_walk_43 : decode cX8_walk 43 = .ok (.return_, 1) := by decide +kernel
set_option maxHeartbeats 4000000 in
set_option maxRecDepth 100000 in
theorem s_X8_walk_L0 {P : PP} {a0 : Nat} {a1 : Int32} {a2 : Int32} {a3 : Int32} (I : IV P) (ha0 : At P a0 8) (ha1 : 11 ≤ a1.toInt ∧ a1.toInt ≤ 11) (ha2 : 0 ≤ a2.toInt ∧ a2.toInt ≤ 11) : CtrV yX8_walk cX8_walk 6 none ({ frames := 3, cells := 0, slots := 0, locals := 192 } : Room) 0 0 P [.ref a0, .int a1, .int a2, .int a3] (fun P2 => IV P2 ∧ EK [13] P P2) := by
  refine enV (lv := [(0, .ref a0), (1, .int a1), (2, .int a2), (3, .int a3)]) (by decide) (Nat.le_of_ble_eq_true rfl) rfl (fun E D cy C Ci0 ret => ?_)
  have J44 : G E ({ frames := 3, cells := 0, slots := 0, locals := 192 } : Room) D cy 6 P 0 0 44 [(0, .ref a0), (1, .int a1), (2, .int a2), (3, .int a3)] [] := by
    refine g_iload_n C dX8_walk_44 rfl 1 rfl ?_
    refine g_aload_n C dX8_walk_45 rfl 0 rfl ?_
    refine g_getI C fi_X8_38 (by decide) (ha0).1 (ha0).2 dX8_walk_46 ?_
    have h8716 := I.rg (ha0) 4 rfl
    refine b_icmp_ge C 79 dX8_walk_49 (by decide) (fun h8717 => ?_) (fun h8717 => ?_)
    · have h8717 : (pI P a0 4).toInt ≤ a1.toInt := h8717
      exact ret _ _ _ _ _ dX8_walk_79 (by decide) (by decide) ⟨I, EK.rf⟩
    · have h8717 : a1.toInt < (pI P a0 4).toInt := h8717
      omega
  have J32 : G E ({ frames := 3, cells := 0, slots := 0, locals := 192 } : Room) D cy 6 P 0 0 32 [(0, .ref a0), (1, .int a1), (2, .int a2)] [] := by
    refine g_aload_n C dX8_walk_32 rfl 0 rfl ?_
    refine g_aload_n C dX8_walk_33 rfl 0 rfl ?_
    refine g_getI C fi_X8_38 (by decide) (ha0).1 (ha0).2 dX8_walk_34 ?_
    have h8718 := I.rg (ha0) 4 rfl
    refine g_iload_n C dX8_walk_37 rfl 1 rfl ?_
    refine s_isub C dX8_walk_38 (by show -2147483648 ≤ (pI P a0 4).toInt - a1.toInt ∧ (pI P a0 4).toInt - a1.toInt ≤ 2147483647; omega) (fun z8719 h8720 => ?_)
    have h8720 : z8719.toInt = (pI P a0 4).toInt - a1.toInt := h8720
    refine g_iload_n C dX8_walk_39 rfl 2 rfl ?_
    refine g_callVV (rest := []) C mv_X8_80 [.int z8719, .int a2] (s_X8_addAllWith I ha0 (by omega) (by omega)) (ha0).1 (ha0).2 rfl rfl (by decide) (Nat.le_of_ble_eq_true rfl) (by decide) dX8_walk_40 (fun Y8722 h8723 => ?_)
    obtain ⟨Iy8724, Xy8725⟩ := h8723
    have q8726 := Xy8725.keep ha0 (by decide) 4
    have Xz8727 : EK [13] P Y8722 := Xy8725.mono (by decide)
    have h8728 := Xy8725.at ha0
    exact ret _ _ _ _ _ dX8_walk_43 (by decide) (by decide) ⟨Iy8724, Xz8727⟩
  refine g_aload_n C dX8_walk_0 rfl 0 rfl ?_
  refine g_getI C fi_X8_42 (by decide) (ha0).1 (ha0).2 dX8_walk_1 ?_
  have u8730 := ti_rng (pI P a0 5)
  refine b_if_ne C 18 dX8_walk_4 (by decide) (fun h8729 => ?_) (fun h8729 => ?_)
  · have h8729 : (pI P a0 5).toInt ≠ 0 := ti_ne h8729
    refine g_aload_n C dX8_walk_18 rfl 0 rfl ?_
    obtain ⟨b8731, e8732, h8733⟩ := I.fld (ha0) 3 0 0 rfl
    refine g_getR C fi_X8_28 rfl e8732 (ha0).1 (ha0).2 dX8_walk_19 ?_
    refine g_getI C fi_X8_77 (by decide) (h8733.at).1 (h8733.at).2 dX8_walk_22 ?_
    have h8734 := I.rg (h8733.at) 2 rfl
    refine g_aload_n C dX8_walk_25 rfl 0 rfl ?_
    refine g_getI C fi_X8_51 (by decide) (ha0).1 (ha0).2 dX8_walk_26 ?_
    have h8735 := I.rg (ha0) 6 rfl
    refine b_icmp_ne C 44 dX8_walk_29 (by decide) (fun h8736 => ?_) (fun h8736 => ?_)
    · have h8736 : (pI P b8731 2).toInt ≠ (pI P a0 6).toInt := ti_ne h8736
      exact J44 
    · have h8736 : (pI P b8731 2).toInt = (pI P a0 6).toInt := congrArg Int32.toInt h8736
      refine g_lv (lv' := [(0, .ref a0), (1, .int a1), (2, .int a2)]) [0, 1, 2] rfl ?_
      exact J32 
  · have h8729 : (pI P a0 5).toInt = 0 := congrArg Int32.toInt h8729
    refine g_iload_n C dX8_walk_7 rfl 3 rfl ?_
    refine g_aload_n C dX8_walk_8 rfl 0 rfl ?_
    refine g_getI C fi_X8_56 (by decide) (ha0).1 (ha0).2 dX8_walk_9 ?_
    have u8738 := ti_rng a3
    have u8739 := ti_rng (pI P a0 7)
    refine b_icmp_ne C 44 dX8_walk_12 (by decide) (fun h8737 => ?_) (fun h8737 => ?_)
    · have h8737 : a3.toInt ≠ (pI P a0 7).toInt := ti_ne h8737
      exact J44 
    · have h8737 : a3.toInt = (pI P a0 7).toInt := congrArg Int32.toInt h8737
      refine g_goto C 32 dX8_walk_15 (by decide) ?_
      refine g_lv (lv' := [(0, .ref a0), (1, .int a1), (2, .int a2)]) [0, 1, 2] rfl ?_
      exact J32 
theorem dX8_walk_181 : decode cX8_walk 181 = .ok (.return_, 1) := by decide +kernel
set_option maxHeartbeats 4000000 in
set_option maxRecDepth 100000 in
theorem s_X8_walk_L1 {P : PP} {a0 : Nat} {a1 : Int32} {a2 : Int32} {a3 : Int32} (I : IV P) (ha0 : At P a0 8) (ha1 : 10 ≤ a1.toInt ∧ a1.toInt ≤ 10) (ha2 : 0 ≤ a2.toInt ∧ a2.toInt ≤ 10) : CtrV yX8_walk cX8_walk 6 none ({ frames := 4, cells := 0, slots := 0, locals := 256 } : Room) 0 0 P [.ref a0, .int a1, .int a2, .int a3] (fun P2 => IV P2 ∧ EK [0, 5, 13] P P2) := by
  refine enV (lv := [(0, .ref a0), (1, .int a1), (2, .int a2), (3, .int a3)]) (by decide) (Nat.le_of_ble_eq_true rfl) rfl (fun E D cy C Ci0 ret => ?_)
  have J160 : ∀ (P160 : PP) (v160_4 : Int32) (v160_5 : Int32) (v160_s0 : Int32) (v160_s1 : Int32) (v160_s2 : Int32), (IV P160) → (EK [0, 5, 13] P P160) → (0 ≤ v160_4.toInt ∧ v160_4.toInt ≤ 20) → (0 ≤ v160_5.toInt ∧ v160_5.toInt ≤ 44) → (1 ≤ v160_s1.toInt ∧ v160_s1.toInt ≤ 11) → (11 ≤ v160_s2.toInt ∧ v160_s2.toInt ≤ 11) → (11 ≤ (pI P160 a0 4).toInt ∧ (pI P160 a0 4).toInt ≤ 11) → G E ({ frames := 4, cells := 0, slots := 0, locals := 256 } : Room) D cy 6 P160 0 0 160 [(0, .ref a0), (4, .int v160_4), (5, .int v160_5)] [.int v160_s0, .int v160_s1, .int v160_s2, .ref a0] := by
    intro P160 v160_4 v160_5 v160_s0 v160_s1 v160_s2 I160 X160 hv160_4 hv160_5 hv160_s1 hv160_s2 hq160_0
    have h9512 := X160.at ha0
    refine g_callVV (rest := []) C mv_X8_73 [.int v160_s2, .int v160_s1, .int v160_s0] (s_X8_walk_L0 I160 h9512 (by omega) (by omega)) (h9512).1 (h9512).2 rfl rfl (by decide) (Nat.le_of_ble_eq_true rfl) (by decide) dX8_walk_160 (fun Y9514 h9515 => ?_)
    obtain ⟨Iy9516, Xy9517⟩ := h9515
    have q9518 := Xy9517.keep h9512 (by decide) 4
    have Xz9519 : EK [0, 5, 13] P Y9514 := X160.tr (Xy9517.mono (by decide))
    have h9520 := Xy9517.at h9512
    refine g_aload_n C dX8_walk_163 rfl 0 rfl ?_
    obtain ⟨b9521, e9522, h9523⟩ := Iy9516.fld (h9520) 3 0 0 rfl
    refine g_getR C fi_X8_28 rfl e9522 (h9520).1 (h9520).2 dX8_walk_164 ?_
    refine g_iload C dX8_walk_167 1 rfl ?_
    refine g_callVV (rest := []) C mv_X8_96 [.int v160_4] (s_X0_cut Iy9516 h9523.at) (h9523.at).1 (h9523.at).2 rfl rfl (by decide) (Nat.le_of_ble_eq_true rfl) (by decide) dX8_walk_169 (fun Y9525 h9526 => ?_)
    obtain ⟨Iy9527, Xy9528⟩ := h9526
    have q9529 := Xy9528.keep h9520 (by decide) 4
    have Xz9530 : EK [0, 5, 13] P Y9525 := Xz9519.tr (Xy9528.mono (by decide))
    have h9531 := Xy9528.at h9520
    refine g_aload_n C dX8_walk_172 rfl 0 rfl ?_
    obtain ⟨b9532, e9533, h9534⟩ := Iy9527.fld (h9531) 2 5 0 rfl
    refine g_getR C fi_X8_21 rfl e9533 (h9531).1 (h9531).2 dX8_walk_173 ?_
    refine g_iload C dX8_walk_176 2 rfl ?_
    refine g_callVV (rest := []) C mv_X8_99 [.int v160_5] (s_X5_cut Iy9527 h9534.at) (h9534.at).1 (h9534.at).2 rfl rfl (by decide) (Nat.le_of_ble_eq_true rfl) (by decide) dX8_walk_178 (fun Y9536 h9537 => ?_)
    obtain ⟨Iy9538, Xy9539⟩ := h9537
    have q9540 := Xy9539.keep h9531 (by decide) 4
    have Xz9541 : EK [0, 5, 13] P Y9536 := Xz9530.tr (Xy9539.mono (by decide))
    have h9542 := Xy9539.at h9531
    exact ret _ _ _ _ _ dX8_walk_181 (by decide) (by decide) ⟨Iy9538, Xz9541⟩
  have J44 : G E ({ frames := 4, cells := 0, slots := 0, locals := 256 } : Room) D cy 6 P 0 0 44 [(0, .ref a0), (1, .int a1), (2, .int a2), (3, .int a3)] [] := by
    refine g_iload_n C dX8_walk_44 rfl 1 rfl ?_
    refine g_aload_n C dX8_walk_45 rfl 0 rfl ?_
    refine g_getI C fi_X8_38 (by decide) (ha0).1 (ha0).2 dX8_walk_46 ?_
    have h9543 := I.rg (ha0) 4 rfl
    refine b_icmp_ge C 79 dX8_walk_49 (by decide) (fun h9544 => ?_) (fun h9544 => ?_)
    · have h9544 : (pI P a0 4).toInt ≤ a1.toInt := h9544
      exact ret _ _ _ _ _ dX8_walk_79 (by decide) (by decide) ⟨I, EK.rf⟩
    · have h9544 : a1.toInt < (pI P a0 4).toInt := h9544
      refine g_iload_n C dX8_walk_52 rfl 1 rfl ?_
      refine g_bipush (v := 11) C dX8_walk_53 (by decide) ?_
      refine b_icmp_ge C 79 dX8_walk_55 (by decide) (fun h9545 => ?_) (fun h9545 => ?_)
      · have h9545 : 11 ≤ a1.toInt := h9545
        omega
      · have h9545 : a1.toInt < 11 := h9545
        refine g_aload_n C dX8_walk_58 rfl 0 rfl ?_
        obtain ⟨b9546, e9547, h9548⟩ := I.fld (ha0) 3 0 0 rfl
        refine g_getR C fi_X8_28 rfl e9547 (ha0).1 (ha0).2 dX8_walk_59 ?_
        refine g_getI C fi_X8_77 (by decide) (h9548.at).1 (h9548.at).2 dX8_walk_62 ?_
        have h9549 := I.rg (h9548.at) 2 rfl
        refine g_aload_n C dX8_walk_65 rfl 0 rfl ?_
        refine g_getI C fi_X8_38 (by decide) (ha0).1 (ha0).2 dX8_walk_66 ?_
        refine s_iadd C dX8_walk_69 (by show -2147483648 ≤ (pI P b9546 2).toInt + (pI P a0 4).toInt ∧ (pI P b9546 2).toInt + (pI P a0 4).toInt ≤ 2147483647; omega) (fun z9550 h9551 => ?_)
        have h9551 : z9550.toInt = (pI P b9546 2).toInt + (pI P a0 4).toInt := h9551
        refine g_iload_n C dX8_walk_70 rfl 1 rfl ?_
        refine s_isub C dX8_walk_71 (by show -2147483648 ≤ z9550.toInt - a1.toInt ∧ z9550.toInt - a1.toInt ≤ 2147483647; omega) (fun z9552 h9553 => ?_)
        have h9553 : z9552.toInt = z9550.toInt - a1.toInt := h9553
        refine g_aload_n C dX8_walk_72 rfl 0 rfl ?_
        refine g_getI C fi_X8_51 (by decide) (ha0).1 (ha0).2 dX8_walk_73 ?_
        have h9554 := I.rg (ha0) 6 rfl
        refine b_icmp_ge C 80 dX8_walk_76 (by decide) (fun h9555 => ?_) (fun h9555 => ?_)
        · have h9555 : (pI P a0 6).toInt ≤ z9552.toInt := h9555
          refine g_aload_n C dX8_walk_80 rfl 0 rfl ?_
          refine g_iload_n C dX8_walk_81 rfl 1 rfl ?_
          refine g_iconst (v := 1) C dX8_walk_82 (by decide) ?_
          refine s_iadd C dX8_walk_83 (by show -2147483648 ≤ a1.toInt + 1 ∧ a1.toInt + 1 ≤ 2147483647; omega) (fun z9556 h9557 => ?_)
          have h9557 : z9556.toInt = a1.toInt + 1 := h9557
          refine g_iload_n C dX8_walk_84 rfl 2 rfl ?_
          refine g_iload_n C dX8_walk_85 rfl 3 rfl ?_
          refine g_callVV (rest := []) C mv_X8_73 [.int z9556, .int a2, .int a3] (s_X8_walk_L0 I ha0 (by omega) (by omega)) (ha0).1 (ha0).2 rfl rfl (by decide) (Nat.le_of_ble_eq_true rfl) (by decide) dX8_walk_86 (fun Y9559 h9560 => ?_)
          obtain ⟨Iy9561, Xy9562⟩ := h9560
          have q9563 := Xy9562.keep ha0 (by decide) 4
          have q9564 := Xy9562.keep (h9548.at) (by decide) 2
          have q9565 := Xy9562.keep ha0 (by decide) 6
          have Xz9566 : EK [0, 5, 13] P Y9559 := Xy9562.mono (by decide)
          have h9567 := Xy9562.at ha0
          refine g_aload_n C dX8_walk_89 rfl 0 rfl ?_
          obtain ⟨b9568, e9569, h9570⟩ := Iy9561.fld (h9567) 3 0 0 rfl
          refine g_getR C fi_X8_28 rfl e9569 (h9567).1 (h9567).2 dX8_walk_90 ?_
          refine g_getI C fi_X8_77 (by decide) (h9570.at).1 (h9570.at).2 dX8_walk_93 ?_
          have h9571 := Iy9561.rg (h9570.at) 2 rfl
          refine g_topi (fun z9572 h9573 => ?_)
          have h9573 : z9572.toInt = (pI Y9559 b9568 2).toInt := congrArg Int32.toInt h9573
          refine g_istore (lv' := [(4, .int z9572), (0, .ref a0), (1, .int a1), (2, .int a2), (3, .int a3)]) C dX8_walk_96 (by decide) rfl ?_
          refine g_aload_n C dX8_walk_98 rfl 1 rfl ?_
          obtain ⟨b9574, e9575, h9576⟩ := Iy9561.fld (h9567) 2 5 0 rfl
          refine g_getR C fi_X8_21 rfl e9575 (h9567).1 (h9567).2 dX8_walk_99 ?_
          refine g_getI C fi_X8_84 (by decide) (h9576.at).1 (h9576.at).2 dX8_walk_102 ?_
          have h9577 := Iy9561.rg (h9576.at) 4 rfl
          refine g_topi (fun z9578 h9579 => ?_)
          have h9579 : z9578.toInt = (pI Y9559 b9574 4).toInt := congrArg Int32.toInt h9579
          refine g_istore (lv' := [(5, .int z9578), (4, .int z9572), (0, .ref a0), (1, .int a1), (2, .int a2), (3, .int a3)]) C dX8_walk_105 (by decide) rfl ?_
          refine g_aload_n C dX8_walk_107 rfl 2 rfl ?_
          refine g_getR C fi_X8_28 rfl e9569 (h9567).1 (h9567).2 dX8_walk_108 ?_
          refine g_aload_n C dX8_walk_111 rfl 2 rfl ?_
          obtain ⟨b9580, e9581, h9582⟩ := Iy9561.fld (h9567) 1 13 11 rfl
          refine g_getR C fi_X8_15 rfl e9581 (h9567).1 (h9567).2 dX8_walk_112 ?_
          refine g_iload_n C dX8_walk_115 rfl 3 rfl ?_
          refine g_iald (j := (a1.toInt.toNat)) C h9582.1 h9582.2.1 (ix_in h9582.2.2 (by omega)) dX8_walk_116 ?_
          refine g_topi (fun z9583 _ => ?_)
          refine g_callVV (rest := []) C mv_X8_87 [.int z9583] (s_X0_add Iy9561 h9570.at) (h9570.at).1 (h9570.at).2 rfl rfl (by decide) (Nat.le_of_ble_eq_true rfl) (by decide) dX8_walk_117 (fun Y9585 h9586 => ?_)
          obtain ⟨Iy9587, Xy9588⟩ := h9586
          have q9589 := Xy9588.keep h9567 (by decide) 4
          have q9590 := Xy9588.keep h9567 (by decide) 6
          have q9591 := Xy9588.keep (h9576.at) (by decide) 4
          have Xz9592 : EK [0, 5, 13] P Y9585 := Xz9566.tr (Xy9588.mono (by decide))
          have h9593 := Xy9588.at h9567
          refine g_aload_n C dX8_walk_120 rfl 2 rfl ?_
          obtain ⟨b9594, e9595, h9596⟩ := Iy9587.fld (h9593) 2 5 0 rfl
          refine g_getR C fi_X8_21 rfl e9595 (h9593).1 (h9593).2 dX8_walk_121 ?_
          refine g_aload_n C dX8_walk_124 rfl 2 rfl ?_
          obtain ⟨b9597, e9598, h9599⟩ := Iy9587.fld (h9593) 1 13 11 rfl
          refine g_getR C fi_X8_15 rfl e9598 (h9593).1 (h9593).2 dX8_walk_125 ?_
          refine g_iload_n C dX8_walk_128 rfl 3 rfl ?_
          refine g_iald (j := (a1.toInt.toNat)) C h9599.1 h9599.2.1 (ix_in h9599.2.2 (by omega)) dX8_walk_129 ?_
          refine g_topi (fun z9600 _ => ?_)
          refine g_iload_n C dX8_walk_130 rfl 3 rfl ?_
          refine g_callVV (rest := []) C mv_X8_91 [.int z9600, .int a1] (s_X5_add Iy9587 h9596.at) (h9596.at).1 (h9596.at).2 rfl rfl (by decide) (Nat.le_of_ble_eq_true rfl) (by decide) dX8_walk_131 (fun Y9602 h9603 => ?_)
          obtain ⟨Iy9604, Xy9605⟩ := h9603
          have q9606 := Xy9605.keep h9593 (by decide) 4
          have q9607 := Xy9605.keep h9593 (by decide) 6
          have Xz9608 : EK [0, 5, 13] P Y9602 := Xz9592.tr (Xy9605.mono (by decide))
          have h9609 := Xy9605.at h9593
          refine g_aload_n C dX8_walk_134 rfl 2 rfl ?_
          refine g_iload_n C dX8_walk_135 rfl 3 rfl ?_
          refine g_iconst (v := 1) C dX8_walk_136 (by decide) ?_
          refine s_iadd C dX8_walk_137 (by show -2147483648 ≤ a1.toInt + 1 ∧ a1.toInt + 1 ≤ 2147483647; omega) (fun z9610 h9611 => ?_)
          have h9611 : z9610.toInt = a1.toInt + 1 := h9611
          refine g_iload_n C dX8_walk_138 rfl 4 rfl ?_
          refine g_iconst (v := 1) C dX8_walk_139 (by decide) ?_
          refine s_iadd C dX8_walk_140 (by show -2147483648 ≤ a2.toInt + 1 ∧ a2.toInt + 1 ≤ 2147483647; omega) (fun z9612 h9613 => ?_)
          have h9613 : z9612.toInt = a2.toInt + 1 := h9613
          refine g_aload_n C dX8_walk_141 rfl 2 rfl ?_
          refine g_getI C fi_X8_42 (by decide) (h9609).1 (h9609).2 dX8_walk_142 ?_
          have u9615 := ti_rng (pI Y9602 a0 5)
          refine b_if_ne C 159 dX8_walk_145 (by decide) (fun h9614 => ?_) (fun h9614 => ?_)
          · have h9614 : (pI Y9602 a0 5).toInt ≠ 0 := ti_ne h9614
            refine g_iload_n C dX8_walk_159 rfl 5 rfl ?_
            refine g_lv (lv' := [(0, .ref a0), (4, .int z9572), (5, .int z9578)]) [2, 1, 0] rfl ?_
            exact J160 Y9602 z9572 z9578 a3 z9612 z9610 Iy9604 Xz9608 (by omega) (by omega) (by omega) (by omega) (by omega)
          · have h9614 : (pI Y9602 a0 5).toInt = 0 := congrArg Int32.toInt h9614
            refine g_aload_n C dX8_walk_148 rfl 2 rfl ?_
            obtain ⟨b9616, e9617, h9618⟩ := Iy9604.fld (h9609) 2 5 0 rfl
            refine g_getR C fi_X8_21 rfl e9617 (h9609).1 (h9609).2 dX8_walk_149 ?_
            refine g_iload_n C dX8_walk_152 rfl 5 rfl ?_
            refine g_callVI (rest := [.int z9612, .int z9610, .ref a0]) C mv_X8_93 [.int a3] (s_X5_spread Iy9604 h9618.at) (h9618.at).1 (h9618.at).2 rfl rfl (by decide) (Nat.le_of_ble_eq_true rfl) (by decide) dX8_walk_153 (fun r9619 Y9620 h9621 => ?_)
            obtain ⟨rfl, h9621⟩ := h9621
            have h9621 : True := h9621
            refine g_goto C 160 dX8_walk_156 (by decide) ?_
            refine g_lv (lv' := [(0, .ref a0), (4, .int z9572), (5, .int z9578)]) [2, 1, 0] rfl ?_
            exact J160 Y9602 z9572 z9578 r9619 z9612 z9610 Iy9604 Xz9608 (by omega) (by omega) (by omega) (by omega) (by omega)
        · have h9555 : z9552.toInt < (pI P a0 6).toInt := h9555
          exact ret _ _ _ _ _ dX8_walk_79 (by decide) (by decide) ⟨I, EK.rf⟩
  have J32 : G E ({ frames := 4, cells := 0, slots := 0, locals := 256 } : Room) D cy 6 P 0 0 32 [(0, .ref a0), (1, .int a1), (2, .int a2)] [] := by
    refine g_aload_n C dX8_walk_32 rfl 0 rfl ?_
    refine g_aload_n C dX8_walk_33 rfl 0 rfl ?_
    refine g_getI C fi_X8_38 (by decide) (ha0).1 (ha0).2 dX8_walk_34 ?_
    have h9622 := I.rg (ha0) 4 rfl
    refine g_iload_n C dX8_walk_37 rfl 1 rfl ?_
    refine s_isub C dX8_walk_38 (by show -2147483648 ≤ (pI P a0 4).toInt - a1.toInt ∧ (pI P a0 4).toInt - a1.toInt ≤ 2147483647; omega) (fun z9623 h9624 => ?_)
    have h9624 : z9623.toInt = (pI P a0 4).toInt - a1.toInt := h9624
    refine g_iload_n C dX8_walk_39 rfl 2 rfl ?_
    refine g_callVV (rest := []) C mv_X8_80 [.int z9623, .int a2] (s_X8_addAllWith I ha0 (by omega) (by omega)) (ha0).1 (ha0).2 rfl rfl (by decide) (Nat.le_of_ble_eq_true rfl) (by decide) dX8_walk_40 (fun Y9626 h9627 => ?_)
    obtain ⟨Iy9628, Xy9629⟩ := h9627
    have q9630 := Xy9629.keep ha0 (by decide) 4
    have Xz9631 : EK [0, 5, 13] P Y9626 := Xy9629.mono (by decide)
    have h9632 := Xy9629.at ha0
    exact ret _ _ _ _ _ dX8_walk_43 (by decide) (by decide) ⟨Iy9628, Xz9631⟩
  refine g_aload_n C dX8_walk_0 rfl 0 rfl ?_
  refine g_getI C fi_X8_42 (by decide) (ha0).1 (ha0).2 dX8_walk_1 ?_
  have u9634 := ti_rng (pI P a0 5)
  refine b_if_ne C 18 dX8_walk_4 (by decide) (fun h9633 => ?_) (fun h9633 => ?_)
  · have h9633 : (pI P a0 5).toInt ≠ 0 := ti_ne h9633
    refine g_aload_n C dX8_walk_18 rfl 0 rfl ?_
    obtain ⟨b9635, e9636, h9637⟩ := I.fld (ha0) 3 0 0 rfl
    refine g_getR C fi_X8_28 rfl e9636 (ha0).1 (ha0).2 dX8_walk_19 ?_
    refine g_getI C fi_X8_77 (by decide) (h9637.at).1 (h9637.at).2 dX8_walk_22 ?_
    have h9638 := I.rg (h9637.at) 2 rfl
    refine g_aload_n C dX8_walk_25 rfl 0 rfl ?_
    refine g_getI C fi_X8_51 (by decide) (ha0).1 (ha0).2 dX8_walk_26 ?_
    have h9639 := I.rg (ha0) 6 rfl
    refine b_icmp_ne C 44 dX8_walk_29 (by decide) (fun h9640 => ?_) (fun h9640 => ?_)
    · have h9640 : (pI P b9635 2).toInt ≠ (pI P a0 6).toInt := ti_ne h9640
      exact J44 
    · have h9640 : (pI P b9635 2).toInt = (pI P a0 6).toInt := congrArg Int32.toInt h9640
      refine g_lv (lv' := [(0, .ref a0), (1, .int a1), (2, .int a2)]) [0, 1, 2] rfl ?_
      exact J32 
  · have h9633 : (pI P a0 5).toInt = 0 := congrArg Int32.toInt h9633
    refine g_iload_n C dX8_walk_7 rfl 3 rfl ?_
    refine g_aload_n C dX8_walk_8 rfl 0 rfl ?_
    refine g_getI C fi_X8_56 (by decide) (ha0).1 (ha0).2 dX8_walk_9 ?_
    have u9642 := ti_rng a3
    have u9643 := ti_rng (pI P a0 7)
    refine b_icmp_ne C 44 dX8_walk_12 (by decide) (fun h9641 => ?_) (fun h9641 => ?_)
    · have h9641 : a3.toInt ≠ (pI P a0 7).toInt := ti_ne h9641
      exact J44 
    · have h9641 : a3.toInt = (pI P a0 7).toInt := congrArg Int32.toInt h9641
      refine g_goto C 32 dX8_walk_15 (by decide) ?_
      refine g_lv (lv' := [(0, .ref a0), (1, .int a1), (2, .int a2)]) [0, 1, 2] rfl ?_
      exact J32 
set_option maxHeartbeats 4000000 in
set_option maxRecDepth 100000 in
theorem s_X8_walk_L2 {P : PP} {a0 : Nat} {a1 : Int32} {a2 : Int32} {a3 : Int32} (I : IV P) (ha0 : At P a0 8) (ha1 : 9 ≤ a1.toInt ∧ a1.toInt ≤ 9) (ha2 : 0 ≤ a2.toInt ∧ a2.toInt ≤ 9) : CtrV yX8_walk cX8_walk 6 none ({ frames := 5, cells := 0, slots := 0, locals := 320 } : Room) 0 0 P [.ref a0, .int a1, .int a2, .int a3] (fun P2 => IV P2 ∧ EK [0, 5, 13] P P2) := by
  refine enV (lv := [(0, .ref a0), (1, .int a1), (2, .int a2), (3, .int a3)]) (by decide) (Nat.le_of_ble_eq_true rfl) rfl (fun E D cy C Ci0 ret => ?_)
  have J160 : ∀ (P160 : PP) (v160_4 : Int32) (v160_5 : Int32) (v160_s0 : Int32) (v160_s1 : Int32) (v160_s2 : Int32), (IV P160) → (EK [0, 5, 13] P P160) → (0 ≤ v160_4.toInt ∧ v160_4.toInt ≤ 20) → (0 ≤ v160_5.toInt ∧ v160_5.toInt ≤ 44) → (1 ≤ v160_s1.toInt ∧ v160_s1.toInt ≤ 10) → (10 ≤ v160_s2.toInt ∧ v160_s2.toInt ≤ 10) → (10 ≤ (pI P160 a0 4).toInt ∧ (pI P160 a0 4).toInt ≤ 11) → G E ({ frames := 5, cells := 0, slots := 0, locals := 320 } : Room) D cy 6 P160 0 0 160 [(0, .ref a0), (4, .int v160_4), (5, .int v160_5)] [.int v160_s0, .int v160_s1, .int v160_s2, .ref a0] := by
    intro P160 v160_4 v160_5 v160_s0 v160_s1 v160_s2 I160 X160 hv160_4 hv160_5 hv160_s1 hv160_s2 hq160_0
    have h9775 := X160.at ha0
    refine g_callVV (rest := []) C mv_X8_73 [.int v160_s2, .int v160_s1, .int v160_s0] (s_X8_walk_L1 I160 h9775 (by omega) (by omega)) (h9775).1 (h9775).2 rfl rfl (by decide) (Nat.le_of_ble_eq_true rfl) (by decide) dX8_walk_160 (fun Y9777 h9778 => ?_)
    obtain ⟨Iy9779, Xy9780⟩ := h9778
    have q9781 := Xy9780.keep h9775 (by decide) 4
    have Xz9782 : EK [0, 5, 13] P Y9777 := X160.tr (Xy9780.mono (by decide))
    have h9783 := Xy9780.at h9775
    refine g_aload_n C dX8_walk_163 rfl 0 rfl ?_
    obtain ⟨b9784, e9785, h9786⟩ := Iy9779.fld (h9783) 3 0 0 rfl
    refine g_getR C fi_X8_28 rfl e9785 (h9783).1 (h9783).2 dX8_walk_164 ?_
    refine g_iload C dX8_walk_167 1 rfl ?_
    refine g_callVV (rest := []) C mv_X8_96 [.int v160_4] (s_X0_cut Iy9779 h9786.at) (h9786.at).1 (h9786.at).2 rfl rfl (by decide) (Nat.le_of_ble_eq_true rfl) (by decide) dX8_walk_169 (fun Y9788 h9789 => ?_)
    obtain ⟨Iy9790, Xy9791⟩ := h9789
    have q9792 := Xy9791.keep h9783 (by decide) 4
    have Xz9793 : EK [0, 5, 13] P Y9788 := Xz9782.tr (Xy9791.mono (by decide))
    have h9794 := Xy9791.at h9783
    refine g_aload_n C dX8_walk_172 rfl 0 rfl ?_
    obtain ⟨b9795, e9796, h9797⟩ := Iy9790.fld (h9794) 2 5 0 rfl
    refine g_getR C fi_X8_21 rfl e9796 (h9794).1 (h9794).2 dX8_walk_173 ?_
    refine g_iload C dX8_walk_176 2 rfl ?_
    refine g_callVV (rest := []) C mv_X8_99 [.int v160_5] (s_X5_cut Iy9790 h9797.at) (h9797.at).1 (h9797.at).2 rfl rfl (by decide) (Nat.le_of_ble_eq_true rfl) (by decide) dX8_walk_178 (fun Y9799 h9800 => ?_)
    obtain ⟨Iy9801, Xy9802⟩ := h9800
    have q9803 := Xy9802.keep h9794 (by decide) 4
    have Xz9804 : EK [0, 5, 13] P Y9799 := Xz9793.tr (Xy9802.mono (by decide))
    have h9805 := Xy9802.at h9794
    exact ret _ _ _ _ _ dX8_walk_181 (by decide) (by decide) ⟨Iy9801, Xz9804⟩
  have J44 : G E ({ frames := 5, cells := 0, slots := 0, locals := 320 } : Room) D cy 6 P 0 0 44 [(0, .ref a0), (1, .int a1), (2, .int a2), (3, .int a3)] [] := by
    refine g_iload_n C dX8_walk_44 rfl 1 rfl ?_
    refine g_aload_n C dX8_walk_45 rfl 0 rfl ?_
    refine g_getI C fi_X8_38 (by decide) (ha0).1 (ha0).2 dX8_walk_46 ?_
    have h9806 := I.rg (ha0) 4 rfl
    refine b_icmp_ge C 79 dX8_walk_49 (by decide) (fun h9807 => ?_) (fun h9807 => ?_)
    · have h9807 : (pI P a0 4).toInt ≤ a1.toInt := h9807
      exact ret _ _ _ _ _ dX8_walk_79 (by decide) (by decide) ⟨I, EK.rf⟩
    · have h9807 : a1.toInt < (pI P a0 4).toInt := h9807
      refine g_iload_n C dX8_walk_52 rfl 1 rfl ?_
      refine g_bipush (v := 11) C dX8_walk_53 (by decide) ?_
      refine b_icmp_ge C 79 dX8_walk_55 (by decide) (fun h9808 => ?_) (fun h9808 => ?_)
      · have h9808 : 11 ≤ a1.toInt := h9808
        omega
      · have h9808 : a1.toInt < 11 := h9808
        refine g_aload_n C dX8_walk_58 rfl 0 rfl ?_
        obtain ⟨b9809, e9810, h9811⟩ := I.fld (ha0) 3 0 0 rfl
        refine g_getR C fi_X8_28 rfl e9810 (ha0).1 (ha0).2 dX8_walk_59 ?_
        refine g_getI C fi_X8_77 (by decide) (h9811.at).1 (h9811.at).2 dX8_walk_62 ?_
        have h9812 := I.rg (h9811.at) 2 rfl
        refine g_aload_n C dX8_walk_65 rfl 0 rfl ?_
        refine g_getI C fi_X8_38 (by decide) (ha0).1 (ha0).2 dX8_walk_66 ?_
        refine s_iadd C dX8_walk_69 (by show -2147483648 ≤ (pI P b9809 2).toInt + (pI P a0 4).toInt ∧ (pI P b9809 2).toInt + (pI P a0 4).toInt ≤ 2147483647; omega) (fun z9813 h9814 => ?_)
        have h9814 : z9813.toInt = (pI P b9809 2).toInt + (pI P a0 4).toInt := h9814
        refine g_iload_n C dX8_walk_70 rfl 1 rfl ?_
        refine s_isub C dX8_walk_71 (by show -2147483648 ≤ z9813.toInt - a1.toInt ∧ z9813.toInt - a1.toInt ≤ 2147483647; omega) (fun z9815 h9816 => ?_)
        have h9816 : z9815.toInt = z9813.toInt - a1.toInt := h9816
        refine g_aload_n C dX8_walk_72 rfl 0 rfl ?_
        refine g_getI C fi_X8_51 (by decide) (ha0).1 (ha0).2 dX8_walk_73 ?_
        have h9817 := I.rg (ha0) 6 rfl
        refine b_icmp_ge C 80 dX8_walk_76 (by decide) (fun h9818 => ?_) (fun h9818 => ?_)
        · have h9818 : (pI P a0 6).toInt ≤ z9815.toInt := h9818
          refine g_aload_n C dX8_walk_80 rfl 0 rfl ?_
          refine g_iload_n C dX8_walk_81 rfl 1 rfl ?_
          refine g_iconst (v := 1) C dX8_walk_82 (by decide) ?_
          refine s_iadd C dX8_walk_83 (by show -2147483648 ≤ a1.toInt + 1 ∧ a1.toInt + 1 ≤ 2147483647; omega) (fun z9819 h9820 => ?_)
          have h9820 : z9819.toInt = a1.toInt + 1 := h9820
          refine g_iload_n C dX8_walk_84 rfl 2 rfl ?_
          refine g_iload_n C dX8_walk_85 rfl 3 rfl ?_
          refine g_callVV (rest := []) C mv_X8_73 [.int z9819, .int a2, .int a3] (s_X8_walk_L1 I ha0 (by omega) (by omega)) (ha0).1 (ha0).2 rfl rfl (by decide) (Nat.le_of_ble_eq_true rfl) (by decide) dX8_walk_86 (fun Y9822 h9823 => ?_)
          obtain ⟨Iy9824, Xy9825⟩ := h9823
          have q9826 := Xy9825.keep ha0 (by decide) 4
          have q9827 := Xy9825.keep ha0 (by decide) 6
          have Xz9828 : EK [0, 5, 13] P Y9822 := Xy9825.mono (by decide)
          have h9829 := Xy9825.at ha0
          refine g_aload_n C dX8_walk_89 rfl 0 rfl ?_
          obtain ⟨b9830, e9831, h9832⟩ := Iy9824.fld (h9829) 3 0 0 rfl
          refine g_getR C fi_X8_28 rfl e9831 (h9829).1 (h9829).2 dX8_walk_90 ?_
          refine g_getI C fi_X8_77 (by decide) (h9832.at).1 (h9832.at).2 dX8_walk_93 ?_
          have h9833 := Iy9824.rg (h9832.at) 2 rfl
          refine g_topi (fun z9834 h9835 => ?_)
          have h9835 : z9834.toInt = (pI Y9822 b9830 2).toInt := congrArg Int32.toInt h9835
          refine g_istore (lv' := [(4, .int z9834), (0, .ref a0), (1, .int a1), (2, .int a2), (3, .int a3)]) C dX8_walk_96 (by decide) rfl ?_
          refine g_aload_n C dX8_walk_98 rfl 1 rfl ?_
          obtain ⟨b9836, e9837, h9838⟩ := Iy9824.fld (h9829) 2 5 0 rfl
          refine g_getR C fi_X8_21 rfl e9837 (h9829).1 (h9829).2 dX8_walk_99 ?_
          refine g_getI C fi_X8_84 (by decide) (h9838.at).1 (h9838.at).2 dX8_walk_102 ?_
          have h9839 := Iy9824.rg (h9838.at) 4 rfl
          refine g_topi (fun z9840 h9841 => ?_)
          have h9841 : z9840.toInt = (pI Y9822 b9836 4).toInt := congrArg Int32.toInt h9841
          refine g_istore (lv' := [(5, .int z9840), (4, .int z9834), (0, .ref a0), (1, .int a1), (2, .int a2), (3, .int a3)]) C dX8_walk_105 (by decide) rfl ?_
          refine g_aload_n C dX8_walk_107 rfl 2 rfl ?_
          refine g_getR C fi_X8_28 rfl e9831 (h9829).1 (h9829).2 dX8_walk_108 ?_
          refine g_aload_n C dX8_walk_111 rfl 2 rfl ?_
          obtain ⟨b9842, e9843, h9844⟩ := Iy9824.fld (h9829) 1 13 11 rfl
          refine g_getR C fi_X8_15 rfl e9843 (h9829).1 (h9829).2 dX8_walk_112 ?_
          refine g_iload_n C dX8_walk_115 rfl 3 rfl ?_
          refine g_iald (j := (a1.toInt.toNat)) C h9844.1 h9844.2.1 (ix_in h9844.2.2 (by omega)) dX8_walk_116 ?_
          refine g_topi (fun z9845 _ => ?_)
          refine g_callVV (rest := []) C mv_X8_87 [.int z9845] (s_X0_add Iy9824 h9832.at) (h9832.at).1 (h9832.at).2 rfl rfl (by decide) (Nat.le_of_ble_eq_true rfl) (by decide) dX8_walk_117 (fun Y9847 h9848 => ?_)
          obtain ⟨Iy9849, Xy9850⟩ := h9848
          have q9851 := Xy9850.keep h9829 (by decide) 4
          have q9852 := Xy9850.keep h9829 (by decide) 6
          have q9853 := Xy9850.keep (h9838.at) (by decide) 4
          have Xz9854 : EK [0, 5, 13] P Y9847 := Xz9828.tr (Xy9850.mono (by decide))
          have h9855 := Xy9850.at h9829
          refine g_aload_n C dX8_walk_120 rfl 2 rfl ?_
          obtain ⟨b9856, e9857, h9858⟩ := Iy9849.fld (h9855) 2 5 0 rfl
          refine g_getR C fi_X8_21 rfl e9857 (h9855).1 (h9855).2 dX8_walk_121 ?_
          refine g_aload_n C dX8_walk_124 rfl 2 rfl ?_
          obtain ⟨b9859, e9860, h9861⟩ := Iy9849.fld (h9855) 1 13 11 rfl
          refine g_getR C fi_X8_15 rfl e9860 (h9855).1 (h9855).2 dX8_walk_125 ?_
          refine g_iload_n C dX8_walk_128 rfl 3 rfl ?_
          refine g_iald (j := (a1.toInt.toNat)) C h9861.1 h9861.2.1 (ix_in h9861.2.2 (by omega)) dX8_walk_129 ?_
          refine g_topi (fun z9862 _ => ?_)
          refine g_iload_n C dX8_walk_130 rfl 3 rfl ?_
          refine g_callVV (rest := []) C mv_X8_91 [.int z9862, .int a1] (s_X5_add Iy9849 h9858.at) (h9858.at).1 (h9858.at).2 rfl rfl (by decide) (Nat.le_of_ble_eq_true rfl) (by decide) dX8_walk_131 (fun Y9864 h9865 => ?_)
          obtain ⟨Iy9866, Xy9867⟩ := h9865
          have q9868 := Xy9867.keep h9855 (by decide) 4
          have q9869 := Xy9867.keep h9855 (by decide) 6
          have Xz9870 : EK [0, 5, 13] P Y9864 := Xz9854.tr (Xy9867.mono (by decide))
          have h9871 := Xy9867.at h9855
          refine g_aload_n C dX8_walk_134 rfl 2 rfl ?_
          refine g_iload_n C dX8_walk_135 rfl 3 rfl ?_
          refine g_iconst (v := 1) C dX8_walk_136 (by decide) ?_
          refine s_iadd C dX8_walk_137 (by show -2147483648 ≤ a1.toInt + 1 ∧ a1.toInt + 1 ≤ 2147483647; omega) (fun z9872 h9873 => ?_)
          have h9873 : z9872.toInt = a1.toInt + 1 := h9873
          refine g_iload_n C dX8_walk_138 rfl 4 rfl ?_
          refine g_iconst (v := 1) C dX8_walk_139 (by decide) ?_
          refine s_iadd C dX8_walk_140 (by show -2147483648 ≤ a2.toInt + 1 ∧ a2.toInt + 1 ≤ 2147483647; omega) (fun z9874 h9875 => ?_)
          have h9875 : z9874.toInt = a2.toInt + 1 := h9875
          refine g_aload_n C dX8_walk_141 rfl 2 rfl ?_
          refine g_getI C fi_X8_42 (by decide) (h9871).1 (h9871).2 dX8_walk_142 ?_
          have u9877 := ti_rng (pI Y9864 a0 5)
          refine b_if_ne C 159 dX8_walk_145 (by decide) (fun h9876 => ?_) (fun h9876 => ?_)
          · have h9876 : (pI Y9864 a0 5).toInt ≠ 0 := ti_ne h9876
            refine g_iload_n C dX8_walk_159 rfl 5 rfl ?_
            refine g_lv (lv' := [(0, .ref a0), (4, .int z9834), (5, .int z9840)]) [2, 1, 0] rfl ?_
            exact J160 Y9864 z9834 z9840 a3 z9874 z9872 Iy9866 Xz9870 (by omega) (by omega) (by omega) (by omega) (by omega)
          · have h9876 : (pI Y9864 a0 5).toInt = 0 := congrArg Int32.toInt h9876
            refine g_aload_n C dX8_walk_148 rfl 2 rfl ?_
            obtain ⟨b9878, e9879, h9880⟩ := Iy9866.fld (h9871) 2 5 0 rfl
            refine g_getR C fi_X8_21 rfl e9879 (h9871).1 (h9871).2 dX8_walk_149 ?_
            refine g_iload_n C dX8_walk_152 rfl 5 rfl ?_
            refine g_callVI (rest := [.int z9874, .int z9872, .ref a0]) C mv_X8_93 [.int a3] (s_X5_spread Iy9866 h9880.at) (h9880.at).1 (h9880.at).2 rfl rfl (by decide) (Nat.le_of_ble_eq_true rfl) (by decide) dX8_walk_153 (fun r9881 Y9882 h9883 => ?_)
            obtain ⟨rfl, h9883⟩ := h9883
            have h9883 : True := h9883
            refine g_goto C 160 dX8_walk_156 (by decide) ?_
            refine g_lv (lv' := [(0, .ref a0), (4, .int z9834), (5, .int z9840)]) [2, 1, 0] rfl ?_
            exact J160 Y9864 z9834 z9840 r9881 z9874 z9872 Iy9866 Xz9870 (by omega) (by omega) (by omega) (by omega) (by omega)
        · have h9818 : z9815.toInt < (pI P a0 6).toInt := h9818
          exact ret _ _ _ _ _ dX8_walk_79 (by decide) (by decide) ⟨I, EK.rf⟩
  have J32 : G E ({ frames := 5, cells := 0, slots := 0, locals := 320 } : Room) D cy 6 P 0 0 32 [(0, .ref a0), (1, .int a1), (2, .int a2)] [] := by
    refine g_aload_n C dX8_walk_32 rfl 0 rfl ?_
    refine g_aload_n C dX8_walk_33 rfl 0 rfl ?_
    refine g_getI C fi_X8_38 (by decide) (ha0).1 (ha0).2 dX8_walk_34 ?_
    have h9884 := I.rg (ha0) 4 rfl
    refine g_iload_n C dX8_walk_37 rfl 1 rfl ?_
    refine s_isub C dX8_walk_38 (by show -2147483648 ≤ (pI P a0 4).toInt - a1.toInt ∧ (pI P a0 4).toInt - a1.toInt ≤ 2147483647; omega) (fun z9885 h9886 => ?_)
    have h9886 : z9885.toInt = (pI P a0 4).toInt - a1.toInt := h9886
    refine g_iload_n C dX8_walk_39 rfl 2 rfl ?_
    refine g_callVV (rest := []) C mv_X8_80 [.int z9885, .int a2] (s_X8_addAllWith I ha0 (by omega) (by omega)) (ha0).1 (ha0).2 rfl rfl (by decide) (Nat.le_of_ble_eq_true rfl) (by decide) dX8_walk_40 (fun Y9888 h9889 => ?_)
    obtain ⟨Iy9890, Xy9891⟩ := h9889
    have q9892 := Xy9891.keep ha0 (by decide) 4
    have Xz9893 : EK [0, 5, 13] P Y9888 := Xy9891.mono (by decide)
    have h9894 := Xy9891.at ha0
    exact ret _ _ _ _ _ dX8_walk_43 (by decide) (by decide) ⟨Iy9890, Xz9893⟩
  refine g_aload_n C dX8_walk_0 rfl 0 rfl ?_
  refine g_getI C fi_X8_42 (by decide) (ha0).1 (ha0).2 dX8_walk_1 ?_
  have u9896 := ti_rng (pI P a0 5)
  refine b_if_ne C 18 dX8_walk_4 (by decide) (fun h9895 => ?_) (fun h9895 => ?_)
  · have h9895 : (pI P a0 5).toInt ≠ 0 := ti_ne h9895
    refine g_aload_n C dX8_walk_18 rfl 0 rfl ?_
    obtain ⟨b9897, e9898, h9899⟩ := I.fld (ha0) 3 0 0 rfl
    refine g_getR C fi_X8_28 rfl e9898 (ha0).1 (ha0).2 dX8_walk_19 ?_
    refine g_getI C fi_X8_77 (by decide) (h9899.at).1 (h9899.at).2 dX8_walk_22 ?_
    have h9900 := I.rg (h9899.at) 2 rfl
    refine g_aload_n C dX8_walk_25 rfl 0 rfl ?_
    refine g_getI C fi_X8_51 (by decide) (ha0).1 (ha0).2 dX8_walk_26 ?_
    have h9901 := I.rg (ha0) 6 rfl
    refine b_icmp_ne C 44 dX8_walk_29 (by decide) (fun h9902 => ?_) (fun h9902 => ?_)
    · have h9902 : (pI P b9897 2).toInt ≠ (pI P a0 6).toInt := ti_ne h9902
      exact J44 
    · have h9902 : (pI P b9897 2).toInt = (pI P a0 6).toInt := congrArg Int32.toInt h9902
      refine g_lv (lv' := [(0, .ref a0), (1, .int a1), (2, .int a2)]) [0, 1, 2] rfl ?_
      exact J32 
  · have h9895 : (pI P a0 5).toInt = 0 := congrArg Int32.toInt h9895
    refine g_iload_n C dX8_walk_7 rfl 3 rfl ?_
    refine g_aload_n C dX8_walk_8 rfl 0 rfl ?_
    refine g_getI C fi_X8_56 (by decide) (ha0).1 (ha0).2 dX8_walk_9 ?_
    have u9904 := ti_rng a3
    have u9905 := ti_rng (pI P a0 7)
    refine b_icmp_ne C 44 dX8_walk_12 (by decide) (fun h9903 => ?_) (fun h9903 => ?_)
    · have h9903 : a3.toInt ≠ (pI P a0 7).toInt := ti_ne h9903
      exact J44 
    · have h9903 : a3.toInt = (pI P a0 7).toInt := congrArg Int32.toInt h9903
      refine g_goto C 32 dX8_walk_15 (by decide) ?_
      refine g_lv (lv' := [(0, .ref a0), (1, .int a1), (2, .int a2)]) [0, 1, 2] rfl ?_
      exact J32 
set_option maxHeartbeats 4000000 in
set_option maxRecDepth 100000 in
theorem s_X8_walk_L3 {P : PP} {a0 : Nat} {a1 : Int32} {a2 : Int32} {a3 : Int32} (I : IV P) (ha0 : At P a0 8) (ha1 : 8 ≤ a1.toInt ∧ a1.toInt ≤ 8) (ha2 : 0 ≤ a2.toInt ∧ a2.toInt ≤ 8) : CtrV yX8_walk cX8_walk 6 none ({ frames := 6, cells := 0, slots := 0, locals := 384 } : Room) 0 0 P [.ref a0, .int a1, .int a2, .int a3] (fun P2 => IV P2 ∧ EK [0, 5, 13] P P2) := by
  refine enV (lv := [(0, .ref a0), (1, .int a1), (2, .int a2), (3, .int a3)]) (by decide) (Nat.le_of_ble_eq_true rfl) rfl (fun E D cy C Ci0 ret => ?_)
  have J160 : ∀ (P160 : PP) (v160_4 : Int32) (v160_5 : Int32) (v160_s0 : Int32) (v160_s1 : Int32) (v160_s2 : Int32), (IV P160) → (EK [0, 5, 13] P P160) → (0 ≤ v160_4.toInt ∧ v160_4.toInt ≤ 20) → (0 ≤ v160_5.toInt ∧ v160_5.toInt ≤ 44) → (1 ≤ v160_s1.toInt ∧ v160_s1.toInt ≤ 9) → (9 ≤ v160_s2.toInt ∧ v160_s2.toInt ≤ 9) → (9 ≤ (pI P160 a0 4).toInt ∧ (pI P160 a0 4).toInt ≤ 11) → G E ({ frames := 6, cells := 0, slots := 0, locals := 384 } : Room) D cy 6 P160 0 0 160 [(0, .ref a0), (4, .int v160_4), (5, .int v160_5)] [.int v160_s0, .int v160_s1, .int v160_s2, .ref a0] := by
    intro P160 v160_4 v160_5 v160_s0 v160_s1 v160_s2 I160 X160 hv160_4 hv160_5 hv160_s1 hv160_s2 hq160_0
    have h10037 := X160.at ha0
    refine g_callVV (rest := []) C mv_X8_73 [.int v160_s2, .int v160_s1, .int v160_s0] (s_X8_walk_L2 I160 h10037 (by omega) (by omega)) (h10037).1 (h10037).2 rfl rfl (by decide) (Nat.le_of_ble_eq_true rfl) (by decide) dX8_walk_160 (fun Y10039 h10040 => ?_)
    obtain ⟨Iy10041, Xy10042⟩ := h10040
    have q10043 := Xy10042.keep h10037 (by decide) 4
    have Xz10044 : EK [0, 5, 13] P Y10039 := X160.tr (Xy10042.mono (by decide))
    have h10045 := Xy10042.at h10037
    refine g_aload_n C dX8_walk_163 rfl 0 rfl ?_
    obtain ⟨b10046, e10047, h10048⟩ := Iy10041.fld (h10045) 3 0 0 rfl
    refine g_getR C fi_X8_28 rfl e10047 (h10045).1 (h10045).2 dX8_walk_164 ?_
    refine g_iload C dX8_walk_167 1 rfl ?_
    refine g_callVV (rest := []) C mv_X8_96 [.int v160_4] (s_X0_cut Iy10041 h10048.at) (h10048.at).1 (h10048.at).2 rfl rfl (by decide) (Nat.le_of_ble_eq_true rfl) (by decide) dX8_walk_169 (fun Y10050 h10051 => ?_)
    obtain ⟨Iy10052, Xy10053⟩ := h10051
    have q10054 := Xy10053.keep h10045 (by decide) 4
    have Xz10055 : EK [0, 5, 13] P Y10050 := Xz10044.tr (Xy10053.mono (by decide))
    have h10056 := Xy10053.at h10045
    refine g_aload_n C dX8_walk_172 rfl 0 rfl ?_
    obtain ⟨b10057, e10058, h10059⟩ := Iy10052.fld (h10056) 2 5 0 rfl
    refine g_getR C fi_X8_21 rfl e10058 (h10056).1 (h10056).2 dX8_walk_173 ?_
    refine g_iload C dX8_walk_176 2 rfl ?_
    refine g_callVV (rest := []) C mv_X8_99 [.int v160_5] (s_X5_cut Iy10052 h10059.at) (h10059.at).1 (h10059.at).2 rfl rfl (by decide) (Nat.le_of_ble_eq_true rfl) (by decide) dX8_walk_178 (fun Y10061 h10062 => ?_)
    obtain ⟨Iy10063, Xy10064⟩ := h10062
    have q10065 := Xy10064.keep h10056 (by decide) 4
    have Xz10066 : EK [0, 5, 13] P Y10061 := Xz10055.tr (Xy10064.mono (by decide))
    have h10067 := Xy10064.at h10056
    exact ret _ _ _ _ _ dX8_walk_181 (by decide) (by decide) ⟨Iy10063, Xz10066⟩
  have J44 : G E ({ frames := 6, cells := 0, slots := 0, locals := 384 } : Room) D cy 6 P 0 0 44 [(0, .ref a0), (1, .int a1), (2, .int a2), (3, .int a3)] [] := by
    refine g_iload_n C dX8_walk_44 rfl 1 rfl ?_
    refine g_aload_n C dX8_walk_45 rfl 0 rfl ?_
    refine g_getI C fi_X8_38 (by decide) (ha0).1 (ha0).2 dX8_walk_46 ?_
    have h10068 := I.rg (ha0) 4 rfl
    refine b_icmp_ge C 79 dX8_walk_49 (by decide) (fun h10069 => ?_) (fun h10069 => ?_)
    · have h10069 : (pI P a0 4).toInt ≤ a1.toInt := h10069
      exact ret _ _ _ _ _ dX8_walk_79 (by decide) (by decide) ⟨I, EK.rf⟩
    · have h10069 : a1.toInt < (pI P a0 4).toInt := h10069
      refine g_iload_n C dX8_walk_52 rfl 1 rfl ?_
      refine g_bipush (v := 11) C dX8_walk_53 (by decide) ?_
      refine b_icmp_ge C 79 dX8_walk_55 (by decide) (fun h10070 => ?_) (fun h10070 => ?_)
      · have h10070 : 11 ≤ a1.toInt := h10070
        omega
      · have h10070 : a1.toInt < 11 := h10070
        refine g_aload_n C dX8_walk_58 rfl 0 rfl ?_
        obtain ⟨b10071, e10072, h10073⟩ := I.fld (ha0) 3 0 0 rfl
        refine g_getR C fi_X8_28 rfl e10072 (ha0).1 (ha0).2 dX8_walk_59 ?_
        refine g_getI C fi_X8_77 (by decide) (h10073.at).1 (h10073.at).2 dX8_walk_62 ?_
        have h10074 := I.rg (h10073.at) 2 rfl
        refine g_aload_n C dX8_walk_65 rfl 0 rfl ?_
        refine g_getI C fi_X8_38 (by decide) (ha0).1 (ha0).2 dX8_walk_66 ?_
        refine s_iadd C dX8_walk_69 (by show -2147483648 ≤ (pI P b10071 2).toInt + (pI P a0 4).toInt ∧ (pI P b10071 2).toInt + (pI P a0 4).toInt ≤ 2147483647; omega) (fun z10075 h10076 => ?_)
        have h10076 : z10075.toInt = (pI P b10071 2).toInt + (pI P a0 4).toInt := h10076
        refine g_iload_n C dX8_walk_70 rfl 1 rfl ?_
        refine s_isub C dX8_walk_71 (by show -2147483648 ≤ z10075.toInt - a1.toInt ∧ z10075.toInt - a1.toInt ≤ 2147483647; omega) (fun z10077 h10078 => ?_)
        have h10078 : z10077.toInt = z10075.toInt - a1.toInt := h10078
        refine g_aload_n C dX8_walk_72 rfl 0 rfl ?_
        refine g_getI C fi_X8_51 (by decide) (ha0).1 (ha0).2 dX8_walk_73 ?_
        have h10079 := I.rg (ha0) 6 rfl
        refine b_icmp_ge C 80 dX8_walk_76 (by decide) (fun h10080 => ?_) (fun h10080 => ?_)
        · have h10080 : (pI P a0 6).toInt ≤ z10077.toInt := h10080
          refine g_aload_n C dX8_walk_80 rfl 0 rfl ?_
          refine g_iload_n C dX8_walk_81 rfl 1 rfl ?_
          refine g_iconst (v := 1) C dX8_walk_82 (by decide) ?_
          refine s_iadd C dX8_walk_83 (by show -2147483648 ≤ a1.toInt + 1 ∧ a1.toInt + 1 ≤ 2147483647; omega) (fun z10081 h10082 => ?_)
          have h10082 : z10081.toInt = a1.toInt + 1 := h10082
          refine g_iload_n C dX8_walk_84 rfl 2 rfl ?_
          refine g_iload_n C dX8_walk_85 rfl 3 rfl ?_
          refine g_callVV (rest := []) C mv_X8_73 [.int z10081, .int a2, .int a3] (s_X8_walk_L2 I ha0 (by omega) (by omega)) (ha0).1 (ha0).2 rfl rfl (by decide) (Nat.le_of_ble_eq_true rfl) (by decide) dX8_walk_86 (fun Y10084 h10085 => ?_)
          obtain ⟨Iy10086, Xy10087⟩ := h10085
          have q10088 := Xy10087.keep ha0 (by decide) 4
          have q10089 := Xy10087.keep ha0 (by decide) 6
          have Xz10090 : EK [0, 5, 13] P Y10084 := Xy10087.mono (by decide)
          have h10091 := Xy10087.at ha0
          refine g_aload_n C dX8_walk_89 rfl 0 rfl ?_
          obtain ⟨b10092, e10093, h10094⟩ := Iy10086.fld (h10091) 3 0 0 rfl
          refine g_getR C fi_X8_28 rfl e10093 (h10091).1 (h10091).2 dX8_walk_90 ?_
          refine g_getI C fi_X8_77 (by decide) (h10094.at).1 (h10094.at).2 dX8_walk_93 ?_
          have h10095 := Iy10086.rg (h10094.at) 2 rfl
          refine g_topi (fun z10096 h10097 => ?_)
          have h10097 : z10096.toInt = (pI Y10084 b10092 2).toInt := congrArg Int32.toInt h10097
          refine g_istore (lv' := [(4, .int z10096), (0, .ref a0), (1, .int a1), (2, .int a2), (3, .int a3)]) C dX8_walk_96 (by decide) rfl ?_
          refine g_aload_n C dX8_walk_98 rfl 1 rfl ?_
          obtain ⟨b10098, e10099, h10100⟩ := Iy10086.fld (h10091) 2 5 0 rfl
          refine g_getR C fi_X8_21 rfl e10099 (h10091).1 (h10091).2 dX8_walk_99 ?_
          refine g_getI C fi_X8_84 (by decide) (h10100.at).1 (h10100.at).2 dX8_walk_102 ?_
          have h10101 := Iy10086.rg (h10100.at) 4 rfl
          refine g_topi (fun z10102 h10103 => ?_)
          have h10103 : z10102.toInt = (pI Y10084 b10098 4).toInt := congrArg Int32.toInt h10103
          refine g_istore (lv' := [(5, .int z10102), (4, .int z10096), (0, .ref a0), (1, .int a1), (2, .int a2), (3, .int a3)]) C dX8_walk_105 (by decide) rfl ?_
          refine g_aload_n C dX8_walk_107 rfl 2 rfl ?_
          refine g_getR C fi_X8_28 rfl e10093 (h10091).1 (h10091).2 dX8_walk_108 ?_
          refine g_aload_n C dX8_walk_111 rfl 2 rfl ?_
          obtain ⟨b10104, e10105, h10106⟩ := Iy10086.fld (h10091) 1 13 11 rfl
          refine g_getR C fi_X8_15 rfl e10105 (h10091).1 (h10091).2 dX8_walk_112 ?_
          refine g_iload_n C dX8_walk_115 rfl 3 rfl ?_
          refine g_iald (j := (a1.toInt.toNat)) C h10106.1 h10106.2.1 (ix_in h10106.2.2 (by omega)) dX8_walk_116 ?_
          refine g_topi (fun z10107 _ => ?_)
          refine g_callVV (rest := []) C mv_X8_87 [.int z10107] (s_X0_add Iy10086 h10094.at) (h10094.at).1 (h10094.at).2 rfl rfl (by decide) (Nat.le_of_ble_eq_true rfl) (by decide) dX8_walk_117 (fun Y10109 h10110 => ?_)
          obtain ⟨Iy10111, Xy10112⟩ := h10110
          have q10113 := Xy10112.keep h10091 (by decide) 4
          have q10114 := Xy10112.keep h10091 (by decide) 6
          have q10115 := Xy10112.keep (h10100.at) (by decide) 4
          have Xz10116 : EK [0, 5, 13] P Y10109 := Xz10090.tr (Xy10112.mono (by decide))
          have h10117 := Xy10112.at h10091
          refine g_aload_n C dX8_walk_120 rfl 2 rfl ?_
          obtain ⟨b10118, e10119, h10120⟩ := Iy10111.fld (h10117) 2 5 0 rfl
          refine g_getR C fi_X8_21 rfl e10119 (h10117).1 (h10117).2 dX8_walk_121 ?_
          refine g_aload_n C dX8_walk_124 rfl 2 rfl ?_
          obtain ⟨b10121, e10122, h10123⟩ := Iy10111.fld (h10117) 1 13 11 rfl
          refine g_getR C fi_X8_15 rfl e10122 (h10117).1 (h10117).2 dX8_walk_125 ?_
          refine g_iload_n C dX8_walk_128 rfl 3 rfl ?_
          refine g_iald (j := (a1.toInt.toNat)) C h10123.1 h10123.2.1 (ix_in h10123.2.2 (by omega)) dX8_walk_129 ?_
          refine g_topi (fun z10124 _ => ?_)
          refine g_iload_n C dX8_walk_130 rfl 3 rfl ?_
          refine g_callVV (rest := []) C mv_X8_91 [.int z10124, .int a1] (s_X5_add Iy10111 h10120.at) (h10120.at).1 (h10120.at).2 rfl rfl (by decide) (Nat.le_of_ble_eq_true rfl) (by decide) dX8_walk_131 (fun Y10126 h10127 => ?_)
          obtain ⟨Iy10128, Xy10129⟩ := h10127
          have q10130 := Xy10129.keep h10117 (by decide) 4
          have q10131 := Xy10129.keep h10117 (by decide) 6
          have Xz10132 : EK [0, 5, 13] P Y10126 := Xz10116.tr (Xy10129.mono (by decide))
          have h10133 := Xy10129.at h10117
          refine g_aload_n C dX8_walk_134 rfl 2 rfl ?_
          refine g_iload_n C dX8_walk_135 rfl 3 rfl ?_
          refine g_iconst (v := 1) C dX8_walk_136 (by decide) ?_
          refine s_iadd C dX8_walk_137 (by show -2147483648 ≤ a1.toInt + 1 ∧ a1.toInt + 1 ≤ 2147483647; omega) (fun z10134 h10135 => ?_)
          have h10135 : z10134.toInt = a1.toInt + 1 := h10135
          refine g_iload_n C dX8_walk_138 rfl 4 rfl ?_
          refine g_iconst (v := 1) C dX8_walk_139 (by decide) ?_
          refine s_iadd C dX8_walk_140 (by show -2147483648 ≤ a2.toInt + 1 ∧ a2.toInt + 1 ≤ 2147483647; omega) (fun z10136 h10137 => ?_)
          have h10137 : z10136.toInt = a2.toInt + 1 := h10137
          refine g_aload_n C dX8_walk_141 rfl 2 rfl ?_
          refine g_getI C fi_X8_42 (by decide) (h10133).1 (h10133).2 dX8_walk_142 ?_
          have u10139 := ti_rng (pI Y10126 a0 5)
          refine b_if_ne C 159 dX8_walk_145 (by decide) (fun h10138 => ?_) (fun h10138 => ?_)
          · have h10138 : (pI Y10126 a0 5).toInt ≠ 0 := ti_ne h10138
            refine g_iload_n C dX8_walk_159 rfl 5 rfl ?_
            refine g_lv (lv' := [(0, .ref a0), (4, .int z10096), (5, .int z10102)]) [2, 1, 0] rfl ?_
            exact J160 Y10126 z10096 z10102 a3 z10136 z10134 Iy10128 Xz10132 (by omega) (by omega) (by omega) (by omega) (by omega)
          · have h10138 : (pI Y10126 a0 5).toInt = 0 := congrArg Int32.toInt h10138
            refine g_aload_n C dX8_walk_148 rfl 2 rfl ?_
            obtain ⟨b10140, e10141, h10142⟩ := Iy10128.fld (h10133) 2 5 0 rfl
            refine g_getR C fi_X8_21 rfl e10141 (h10133).1 (h10133).2 dX8_walk_149 ?_
            refine g_iload_n C dX8_walk_152 rfl 5 rfl ?_
            refine g_callVI (rest := [.int z10136, .int z10134, .ref a0]) C mv_X8_93 [.int a3] (s_X5_spread Iy10128 h10142.at) (h10142.at).1 (h10142.at).2 rfl rfl (by decide) (Nat.le_of_ble_eq_true rfl) (by decide) dX8_walk_153 (fun r10143 Y10144 h10145 => ?_)
            obtain ⟨rfl, h10145⟩ := h10145
            have h10145 : True := h10145
            refine g_goto C 160 dX8_walk_156 (by decide) ?_
            refine g_lv (lv' := [(0, .ref a0), (4, .int z10096), (5, .int z10102)]) [2, 1, 0] rfl ?_
            exact J160 Y10126 z10096 z10102 r10143 z10136 z10134 Iy10128 Xz10132 (by omega) (by omega) (by omega) (by omega) (by omega)
        · have h10080 : z10077.toInt < (pI P a0 6).toInt := h10080
          exact ret _ _ _ _ _ dX8_walk_79 (by decide) (by decide) ⟨I, EK.rf⟩
  have J32 : G E ({ frames := 6, cells := 0, slots := 0, locals := 384 } : Room) D cy 6 P 0 0 32 [(0, .ref a0), (1, .int a1), (2, .int a2)] [] := by
    refine g_aload_n C dX8_walk_32 rfl 0 rfl ?_
    refine g_aload_n C dX8_walk_33 rfl 0 rfl ?_
    refine g_getI C fi_X8_38 (by decide) (ha0).1 (ha0).2 dX8_walk_34 ?_
    have h10146 := I.rg (ha0) 4 rfl
    refine g_iload_n C dX8_walk_37 rfl 1 rfl ?_
    refine s_isub C dX8_walk_38 (by show -2147483648 ≤ (pI P a0 4).toInt - a1.toInt ∧ (pI P a0 4).toInt - a1.toInt ≤ 2147483647; omega) (fun z10147 h10148 => ?_)
    have h10148 : z10147.toInt = (pI P a0 4).toInt - a1.toInt := h10148
    refine g_iload_n C dX8_walk_39 rfl 2 rfl ?_
    refine g_callVV (rest := []) C mv_X8_80 [.int z10147, .int a2] (s_X8_addAllWith I ha0 (by omega) (by omega)) (ha0).1 (ha0).2 rfl rfl (by decide) (Nat.le_of_ble_eq_true rfl) (by decide) dX8_walk_40 (fun Y10150 h10151 => ?_)
    obtain ⟨Iy10152, Xy10153⟩ := h10151
    have q10154 := Xy10153.keep ha0 (by decide) 4
    have Xz10155 : EK [0, 5, 13] P Y10150 := Xy10153.mono (by decide)
    have h10156 := Xy10153.at ha0
    exact ret _ _ _ _ _ dX8_walk_43 (by decide) (by decide) ⟨Iy10152, Xz10155⟩
  refine g_aload_n C dX8_walk_0 rfl 0 rfl ?_
  refine g_getI C fi_X8_42 (by decide) (ha0).1 (ha0).2 dX8_walk_1 ?_
  have u10158 := ti_rng (pI P a0 5)
  refine b_if_ne C 18 dX8_walk_4 (by decide) (fun h10157 => ?_) (fun h10157 => ?_)
  · have h10157 : (pI P a0 5).toInt ≠ 0 := ti_ne h10157
    refine g_aload_n C dX8_walk_18 rfl 0 rfl ?_
    obtain ⟨b10159, e10160, h10161⟩ := I.fld (ha0) 3 0 0 rfl
    refine g_getR C fi_X8_28 rfl e10160 (ha0).1 (ha0).2 dX8_walk_19 ?_
    refine g_getI C fi_X8_77 (by decide) (h10161.at).1 (h10161.at).2 dX8_walk_22 ?_
    have h10162 := I.rg (h10161.at) 2 rfl
    refine g_aload_n C dX8_walk_25 rfl 0 rfl ?_
    refine g_getI C fi_X8_51 (by decide) (ha0).1 (ha0).2 dX8_walk_26 ?_
    have h10163 := I.rg (ha0) 6 rfl
    refine b_icmp_ne C 44 dX8_walk_29 (by decide) (fun h10164 => ?_) (fun h10164 => ?_)
    · have h10164 : (pI P b10159 2).toInt ≠ (pI P a0 6).toInt := ti_ne h10164
      exact J44 
    · have h10164 : (pI P b10159 2).toInt = (pI P a0 6).toInt := congrArg Int32.toInt h10164
      refine g_lv (lv' := [(0, .ref a0), (1, .int a1), (2, .int a2)]) [0, 1, 2] rfl ?_
      exact J32 
  · have h10157 : (pI P a0 5).toInt = 0 := congrArg Int32.toInt h10157
    refine g_iload_n C dX8_walk_7 rfl 3 rfl ?_
    refine g_aload_n C dX8_walk_8 rfl 0 rfl ?_
    refine g_getI C fi_X8_56 (by decide) (ha0).1 (ha0).2 dX8_walk_9 ?_
    have u10166 := ti_rng a3
    have u10167 := ti_rng (pI P a0 7)
    refine b_icmp_ne C 44 dX8_walk_12 (by decide) (fun h10165 => ?_) (fun h10165 => ?_)
    · have h10165 : a3.toInt ≠ (pI P a0 7).toInt := ti_ne h10165
      exact J44 
    · have h10165 : a3.toInt = (pI P a0 7).toInt := congrArg Int32.toInt h10165
      refine g_goto C 32 dX8_walk_15 (by decide) ?_
      refine g_lv (lv' := [(0, .ref a0), (1, .int a1), (2, .int a2)]) [0, 1, 2] rfl ?_
      exact J32 
set_option maxHeartbeats 4000000 in
set_option maxRecDepth 100000 in
theorem s_X8_walk_L4 {P : PP} {a0 : Nat} {a1 : Int32} {a2 : Int32} {a3 : Int32} (I : IV P) (ha0 : At P a0 8) (ha1 : 7 ≤ a1.toInt ∧ a1.toInt ≤ 7) (ha2 : 0 ≤ a2.toInt ∧ a2.toInt ≤ 7) : CtrV yX8_walk cX8_walk 6 none ({ frames := 7, cells := 0, slots := 0, locals := 448 } : Room) 0 0 P [.ref a0, .int a1, .int a2, .int a3] (fun P2 => IV P2 ∧ EK [0, 5, 13] P P2) := by
  refine enV (lv := [(0, .ref a0), (1, .int a1), (2, .int a2), (3, .int a3)]) (by decide) (Nat.le_of_ble_eq_true rfl) rfl (fun E D cy C Ci0 ret => ?_)
  have J160 : ∀ (P160 : PP) (v160_4 : Int32) (v160_5 : Int32) (v160_s0 : Int32) (v160_s1 : Int32) (v160_s2 : Int32), (IV P160) → (EK [0, 5, 13] P P160) → (0 ≤ v160_4.toInt ∧ v160_4.toInt ≤ 20) → (0 ≤ v160_5.toInt ∧ v160_5.toInt ≤ 44) → (1 ≤ v160_s1.toInt ∧ v160_s1.toInt ≤ 8) → (8 ≤ v160_s2.toInt ∧ v160_s2.toInt ≤ 8) → (8 ≤ (pI P160 a0 4).toInt ∧ (pI P160 a0 4).toInt ≤ 11) → G E ({ frames := 7, cells := 0, slots := 0, locals := 448 } : Room) D cy 6 P160 0 0 160 [(0, .ref a0), (4, .int v160_4), (5, .int v160_5)] [.int v160_s0, .int v160_s1, .int v160_s2, .ref a0] := by
    intro P160 v160_4 v160_5 v160_s0 v160_s1 v160_s2 I160 X160 hv160_4 hv160_5 hv160_s1 hv160_s2 hq160_0
    have h10299 := X160.at ha0
    refine g_callVV (rest := []) C mv_X8_73 [.int v160_s2, .int v160_s1, .int v160_s0] (s_X8_walk_L3 I160 h10299 (by omega) (by omega)) (h10299).1 (h10299).2 rfl rfl (by decide) (Nat.le_of_ble_eq_true rfl) (by decide) dX8_walk_160 (fun Y10301 h10302 => ?_)
    obtain ⟨Iy10303, Xy10304⟩ := h10302
    have q10305 := Xy10304.keep h10299 (by decide) 4
    have Xz10306 : EK [0, 5, 13] P Y10301 := X160.tr (Xy10304.mono (by decide))
    have h10307 := Xy10304.at h10299
    refine g_aload_n C dX8_walk_163 rfl 0 rfl ?_
    obtain ⟨b10308, e10309, h10310⟩ := Iy10303.fld (h10307) 3 0 0 rfl
    refine g_getR C fi_X8_28 rfl e10309 (h10307).1 (h10307).2 dX8_walk_164 ?_
    refine g_iload C dX8_walk_167 1 rfl ?_
    refine g_callVV (rest := []) C mv_X8_96 [.int v160_4] (s_X0_cut Iy10303 h10310.at) (h10310.at).1 (h10310.at).2 rfl rfl (by decide) (Nat.le_of_ble_eq_true rfl) (by decide) dX8_walk_169 (fun Y10312 h10313 => ?_)
    obtain ⟨Iy10314, Xy10315⟩ := h10313
    have q10316 := Xy10315.keep h10307 (by decide) 4
    have Xz10317 : EK [0, 5, 13] P Y10312 := Xz10306.tr (Xy10315.mono (by decide))
    have h10318 := Xy10315.at h10307
    refine g_aload_n C dX8_walk_172 rfl 0 rfl ?_
    obtain ⟨b10319, e10320, h10321⟩ := Iy10314.fld (h10318) 2 5 0 rfl
    refine g_getR C fi_X8_21 rfl e10320 (h10318).1 (h10318).2 dX8_walk_173 ?_
    refine g_iload C dX8_walk_176 2 rfl ?_
    refine g_callVV (rest := []) C mv_X8_99 [.int v160_5] (s_X5_cut Iy10314 h10321.at) (h10321.at).1 (h10321.at).2 rfl rfl (by decide) (Nat.le_of_ble_eq_true rfl) (by decide) dX8_walk_178 (fun Y10323 h10324 => ?_)
    obtain ⟨Iy10325, Xy10326⟩ := h10324
    have q10327 := Xy10326.keep h10318 (by decide) 4
    have Xz10328 : EK [0, 5, 13] P Y10323 := Xz10317.tr (Xy10326.mono (by decide))
    have h10329 := Xy10326.at h10318
    exact ret _ _ _ _ _ dX8_walk_181 (by decide) (by decide) ⟨Iy10325, Xz10328⟩
  have J44 : G E ({ frames := 7, cells := 0, slots := 0, locals := 448 } : Room) D cy 6 P 0 0 44 [(0, .ref a0), (1, .int a1), (2, .int a2), (3, .int a3)] [] := by
    refine g_iload_n C dX8_walk_44 rfl 1 rfl ?_
    refine g_aload_n C dX8_walk_45 rfl 0 rfl ?_
    refine g_getI C fi_X8_38 (by decide) (ha0).1 (ha0).2 dX8_walk_46 ?_
    have h10330 := I.rg (ha0) 4 rfl
    refine b_icmp_ge C 79 dX8_walk_49 (by decide) (fun h10331 => ?_) (fun h10331 => ?_)
    · have h10331 : (pI P a0 4).toInt ≤ a1.toInt := h10331
      exact ret _ _ _ _ _ dX8_walk_79 (by decide) (by decide) ⟨I, EK.rf⟩
    · have h10331 : a1.toInt < (pI P a0 4).toInt := h10331
      refine g_iload_n C dX8_walk_52 rfl 1 rfl ?_
      refine g_bipush (v := 11) C dX8_walk_53 (by decide) ?_
      refine b_icmp_ge C 79 dX8_walk_55 (by decide) (fun h10332 => ?_) (fun h10332 => ?_)
      · have h10332 : 11 ≤ a1.toInt := h10332
        omega
      · have h10332 : a1.toInt < 11 := h10332
        refine g_aload_n C dX8_walk_58 rfl 0 rfl ?_
        obtain ⟨b10333, e10334, h10335⟩ := I.fld (ha0) 3 0 0 rfl
        refine g_getR C fi_X8_28 rfl e10334 (ha0).1 (ha0).2 dX8_walk_59 ?_
        refine g_getI C fi_X8_77 (by decide) (h10335.at).1 (h10335.at).2 dX8_walk_62 ?_
        have h10336 := I.rg (h10335.at) 2 rfl
        refine g_aload_n C dX8_walk_65 rfl 0 rfl ?_
        refine g_getI C fi_X8_38 (by decide) (ha0).1 (ha0).2 dX8_walk_66 ?_
        refine s_iadd C dX8_walk_69 (by show -2147483648 ≤ (pI P b10333 2).toInt + (pI P a0 4).toInt ∧ (pI P b10333 2).toInt + (pI P a0 4).toInt ≤ 2147483647; omega) (fun z10337 h10338 => ?_)
        have h10338 : z10337.toInt = (pI P b10333 2).toInt + (pI P a0 4).toInt := h10338
        refine g_iload_n C dX8_walk_70 rfl 1 rfl ?_
        refine s_isub C dX8_walk_71 (by show -2147483648 ≤ z10337.toInt - a1.toInt ∧ z10337.toInt - a1.toInt ≤ 2147483647; omega) (fun z10339 h10340 => ?_)
        have h10340 : z10339.toInt = z10337.toInt - a1.toInt := h10340
        refine g_aload_n C dX8_walk_72 rfl 0 rfl ?_
        refine g_getI C fi_X8_51 (by decide) (ha0).1 (ha0).2 dX8_walk_73 ?_
        have h10341 := I.rg (ha0) 6 rfl
        refine b_icmp_ge C 80 dX8_walk_76 (by decide) (fun h10342 => ?_) (fun h10342 => ?_)
        · have h10342 : (pI P a0 6).toInt ≤ z10339.toInt := h10342
          refine g_aload_n C dX8_walk_80 rfl 0 rfl ?_
          refine g_iload_n C dX8_walk_81 rfl 1 rfl ?_
          refine g_iconst (v := 1) C dX8_walk_82 (by decide) ?_
          refine s_iadd C dX8_walk_83 (by show -2147483648 ≤ a1.toInt + 1 ∧ a1.toInt + 1 ≤ 2147483647; omega) (fun z10343 h10344 => ?_)
          have h10344 : z10343.toInt = a1.toInt + 1 := h10344
          refine g_iload_n C dX8_walk_84 rfl 2 rfl ?_
          refine g_iload_n C dX8_walk_85 rfl 3 rfl ?_
          refine g_callVV (rest := []) C mv_X8_73 [.int z10343, .int a2, .int a3] (s_X8_walk_L3 I ha0 (by omega) (by omega)) (ha0).1 (ha0).2 rfl rfl (by decide) (Nat.le_of_ble_eq_true rfl) (by decide) dX8_walk_86 (fun Y10346 h10347 => ?_)
          obtain ⟨Iy10348, Xy10349⟩ := h10347
          have q10350 := Xy10349.keep ha0 (by decide) 4
          have q10351 := Xy10349.keep ha0 (by decide) 6
          have Xz10352 : EK [0, 5, 13] P Y10346 := Xy10349.mono (by decide)
          have h10353 := Xy10349.at ha0
          refine g_aload_n C dX8_walk_89 rfl 0 rfl ?_
          obtain ⟨b10354, e10355, h10356⟩ := Iy10348.fld (h10353) 3 0 0 rfl
          refine g_getR C fi_X8_28 rfl e10355 (h10353).1 (h10353).2 dX8_walk_90 ?_
          refine g_getI C fi_X8_77 (by decide) (h10356.at).1 (h10356.at).2 dX8_walk_93 ?_
          have h10357 := Iy10348.rg (h10356.at) 2 rfl
          refine g_topi (fun z10358 h10359 => ?_)
          have h10359 : z10358.toInt = (pI Y10346 b10354 2).toInt := congrArg Int32.toInt h10359
          refine g_istore (lv' := [(4, .int z10358), (0, .ref a0), (1, .int a1), (2, .int a2), (3, .int a3)]) C dX8_walk_96 (by decide) rfl ?_
          refine g_aload_n C dX8_walk_98 rfl 1 rfl ?_
          obtain ⟨b10360, e10361, h10362⟩ := Iy10348.fld (h10353) 2 5 0 rfl
          refine g_getR C fi_X8_21 rfl e10361 (h10353).1 (h10353).2 dX8_walk_99 ?_
          refine g_getI C fi_X8_84 (by decide) (h10362.at).1 (h10362.at).2 dX8_walk_102 ?_
          have h10363 := Iy10348.rg (h10362.at) 4 rfl
          refine g_topi (fun z10364 h10365 => ?_)
          have h10365 : z10364.toInt = (pI Y10346 b10360 4).toInt := congrArg Int32.toInt h10365
          refine g_istore (lv' := [(5, .int z10364), (4, .int z10358), (0, .ref a0), (1, .int a1), (2, .int a2), (3, .int a3)]) C dX8_walk_105 (by decide) rfl ?_
          refine g_aload_n C dX8_walk_107 rfl 2 rfl ?_
          refine g_getR C fi_X8_28 rfl e10355 (h10353).1 (h10353).2 dX8_walk_108 ?_
          refine g_aload_n C dX8_walk_111 rfl 2 rfl ?_
          obtain ⟨b10366, e10367, h10368⟩ := Iy10348.fld (h10353) 1 13 11 rfl
          refine g_getR C fi_X8_15 rfl e10367 (h10353).1 (h10353).2 dX8_walk_112 ?_
          refine g_iload_n C dX8_walk_115 rfl 3 rfl ?_
          refine g_iald (j := (a1.toInt.toNat)) C h10368.1 h10368.2.1 (ix_in h10368.2.2 (by omega)) dX8_walk_116 ?_
          refine g_topi (fun z10369 _ => ?_)
          refine g_callVV (rest := []) C mv_X8_87 [.int z10369] (s_X0_add Iy10348 h10356.at) (h10356.at).1 (h10356.at).2 rfl rfl (by decide) (Nat.le_of_ble_eq_true rfl) (by decide) dX8_walk_117 (fun Y10371 h10372 => ?_)
          obtain ⟨Iy10373, Xy10374⟩ := h10372
          have q10375 := Xy10374.keep h10353 (by decide) 4
          have q10376 := Xy10374.keep h10353 (by decide) 6
          have q10377 := Xy10374.keep (h10362.at) (by decide) 4
          have Xz10378 : EK [0, 5, 13] P Y10371 := Xz10352.tr (Xy10374.mono (by decide))
          have h10379 := Xy10374.at h10353
          refine g_aload_n C dX8_walk_120 rfl 2 rfl ?_
          obtain ⟨b10380, e10381, h10382⟩ := Iy10373.fld (h10379) 2 5 0 rfl
          refine g_getR C fi_X8_21 rfl e10381 (h10379).1 (h10379).2 dX8_walk_121 ?_
          refine g_aload_n C dX8_walk_124 rfl 2 rfl ?_
          obtain ⟨b10383, e10384, h10385⟩ := Iy10373.fld (h10379) 1 13 11 rfl
          refine g_getR C fi_X8_15 rfl e10384 (h10379).1 (h10379).2 dX8_walk_125 ?_
          refine g_iload_n C dX8_walk_128 rfl 3 rfl ?_
          refine g_iald (j := (a1.toInt.toNat)) C h10385.1 h10385.2.1 (ix_in h10385.2.2 (by omega)) dX8_walk_129 ?_
          refine g_topi (fun z10386 _ => ?_)
          refine g_iload_n C dX8_walk_130 rfl 3 rfl ?_
          refine g_callVV (rest := []) C mv_X8_91 [.int z10386, .int a1] (s_X5_add Iy10373 h10382.at) (h10382.at).1 (h10382.at).2 rfl rfl (by decide) (Nat.le_of_ble_eq_true rfl) (by decide) dX8_walk_131 (fun Y10388 h10389 => ?_)
          obtain ⟨Iy10390, Xy10391⟩ := h10389
          have q10392 := Xy10391.keep h10379 (by decide) 4
          have q10393 := Xy10391.keep h10379 (by decide) 6
          have Xz10394 : EK [0, 5, 13] P Y10388 := Xz10378.tr (Xy10391.mono (by decide))
          have h10395 := Xy10391.at h10379
          refine g_aload_n C dX8_walk_134 rfl 2 rfl ?_
          refine g_iload_n C dX8_walk_135 rfl 3 rfl ?_
          refine g_iconst (v := 1) C dX8_walk_136 (by decide) ?_
          refine s_iadd C dX8_walk_137 (by show -2147483648 ≤ a1.toInt + 1 ∧ a1.toInt + 1 ≤ 2147483647; omega) (fun z10396 h10397 => ?_)
          have h10397 : z10396.toInt = a1.toInt + 1 := h10397
          refine g_iload_n C dX8_walk_138 rfl 4 rfl ?_
          refine g_iconst (v := 1) C dX8_walk_139 (by decide) ?_
          refine s_iadd C dX8_walk_140 (by show -2147483648 ≤ a2.toInt + 1 ∧ a2.toInt + 1 ≤ 2147483647; omega) (fun z10398 h10399 => ?_)
          have h10399 : z10398.toInt = a2.toInt + 1 := h10399
          refine g_aload_n C dX8_walk_141 rfl 2 rfl ?_
          refine g_getI C fi_X8_42 (by decide) (h10395).1 (h10395).2 dX8_walk_142 ?_
          have u10401 := ti_rng (pI Y10388 a0 5)
          refine b_if_ne C 159 dX8_walk_145 (by decide) (fun h10400 => ?_) (fun h10400 => ?_)
          · have h10400 : (pI Y10388 a0 5).toInt ≠ 0 := ti_ne h10400
            refine g_iload_n C dX8_walk_159 rfl 5 rfl ?_
            refine g_lv (lv' := [(0, .ref a0), (4, .int z10358), (5, .int z10364)]) [2, 1, 0] rfl ?_
            exact J160 Y10388 z10358 z10364 a3 z10398 z10396 Iy10390 Xz10394 (by omega) (by omega) (by omega) (by omega) (by omega)
          · have h10400 : (pI Y10388 a0 5).toInt = 0 := congrArg Int32.toInt h10400
            refine g_aload_n C dX8_walk_148 rfl 2 rfl ?_
            obtain ⟨b10402, e10403, h10404⟩ := Iy10390.fld (h10395) 2 5 0 rfl
            refine g_getR C fi_X8_21 rfl e10403 (h10395).1 (h10395).2 dX8_walk_149 ?_
            refine g_iload_n C dX8_walk_152 rfl 5 rfl ?_
            refine g_callVI (rest := [.int z10398, .int z10396, .ref a0]) C mv_X8_93 [.int a3] (s_X5_spread Iy10390 h10404.at) (h10404.at).1 (h10404.at).2 rfl rfl (by decide) (Nat.le_of_ble_eq_true rfl) (by decide) dX8_walk_153 (fun r10405 Y10406 h10407 => ?_)
            obtain ⟨rfl, h10407⟩ := h10407
            have h10407 : True := h10407
            refine g_goto C 160 dX8_walk_156 (by decide) ?_
            refine g_lv (lv' := [(0, .ref a0), (4, .int z10358), (5, .int z10364)]) [2, 1, 0] rfl ?_
            exact J160 Y10388 z10358 z10364 r10405 z10398 z10396 Iy10390 Xz10394 (by omega) (by omega) (by omega) (by omega) (by omega)
        · have h10342 : z10339.toInt < (pI P a0 6).toInt := h10342
          exact ret _ _ _ _ _ dX8_walk_79 (by decide) (by decide) ⟨I, EK.rf⟩
  have J32 : G E ({ frames := 7, cells := 0, slots := 0, locals := 448 } : Room) D cy 6 P 0 0 32 [(0, .ref a0), (1, .int a1), (2, .int a2)] [] := by
    refine g_aload_n C dX8_walk_32 rfl 0 rfl ?_
    refine g_aload_n C dX8_walk_33 rfl 0 rfl ?_
    refine g_getI C fi_X8_38 (by decide) (ha0).1 (ha0).2 dX8_walk_34 ?_
    have h10408 := I.rg (ha0) 4 rfl
    refine g_iload_n C dX8_walk_37 rfl 1 rfl ?_
    refine s_isub C dX8_walk_38 (by show -2147483648 ≤ (pI P a0 4).toInt - a1.toInt ∧ (pI P a0 4).toInt - a1.toInt ≤ 2147483647; omega) (fun z10409 h10410 => ?_)
    have h10410 : z10409.toInt = (pI P a0 4).toInt - a1.toInt := h10410
    refine g_iload_n C dX8_walk_39 rfl 2 rfl ?_
    refine g_callVV (rest := []) C mv_X8_80 [.int z10409, .int a2] (s_X8_addAllWith I ha0 (by omega) (by omega)) (ha0).1 (ha0).2 rfl rfl (by decide) (Nat.le_of_ble_eq_true rfl) (by decide) dX8_walk_40 (fun Y10412 h10413 => ?_)
    obtain ⟨Iy10414, Xy10415⟩ := h10413
    have q10416 := Xy10415.keep ha0 (by decide) 4
    have Xz10417 : EK [0, 5, 13] P Y10412 := Xy10415.mono (by decide)
    have h10418 := Xy10415.at ha0
    exact ret _ _ _ _ _ dX8_walk_43 (by decide) (by decide) ⟨Iy10414, Xz10417⟩
  refine g_aload_n C dX8_walk_0 rfl 0 rfl ?_
  refine g_getI C fi_X8_42 (by decide) (ha0).1 (ha0).2 dX8_walk_1 ?_
  have u10420 := ti_rng (pI P a0 5)
  refine b_if_ne C 18 dX8_walk_4 (by decide) (fun h10419 => ?_) (fun h10419 => ?_)
  · have h10419 : (pI P a0 5).toInt ≠ 0 := ti_ne h10419
    refine g_aload_n C dX8_walk_18 rfl 0 rfl ?_
    obtain ⟨b10421, e10422, h10423⟩ := I.fld (ha0) 3 0 0 rfl
    refine g_getR C fi_X8_28 rfl e10422 (ha0).1 (ha0).2 dX8_walk_19 ?_
    refine g_getI C fi_X8_77 (by decide) (h10423.at).1 (h10423.at).2 dX8_walk_22 ?_
    have h10424 := I.rg (h10423.at) 2 rfl
    refine g_aload_n C dX8_walk_25 rfl 0 rfl ?_
    refine g_getI C fi_X8_51 (by decide) (ha0).1 (ha0).2 dX8_walk_26 ?_
    have h10425 := I.rg (ha0) 6 rfl
    refine b_icmp_ne C 44 dX8_walk_29 (by decide) (fun h10426 => ?_) (fun h10426 => ?_)
    · have h10426 : (pI P b10421 2).toInt ≠ (pI P a0 6).toInt := ti_ne h10426
      exact J44 
    · have h10426 : (pI P b10421 2).toInt = (pI P a0 6).toInt := congrArg Int32.toInt h10426
      refine g_lv (lv' := [(0, .ref a0), (1, .int a1), (2, .int a2)]) [0, 1, 2] rfl ?_
      exact J32 
  · have h10419 : (pI P a0 5).toInt = 0 := congrArg Int32.toInt h10419
    refine g_iload_n C dX8_walk_7 rfl 3 rfl ?_
    refine g_aload_n C dX8_walk_8 rfl 0 rfl ?_
    refine g_getI C fi_X8_56 (by decide) (ha0).1 (ha0).2 dX8_walk_9 ?_
    have u10428 := ti_rng a3
    have u10429 := ti_rng (pI P a0 7)
    refine b_icmp_ne C 44 dX8_walk_12 (by decide) (fun h10427 => ?_) (fun h10427 => ?_)
    · have h10427 : a3.toInt ≠ (pI P a0 7).toInt := ti_ne h10427
      exact J44 
    · have h10427 : a3.toInt = (pI P a0 7).toInt := congrArg Int32.toInt h10427
      refine g_goto C 32 dX8_walk_15 (by decide) ?_
      refine g_lv (lv' := [(0, .ref a0), (1, .int a1), (2, .int a2)]) [0, 1, 2] rfl ?_
      exact J32 
set_option maxHeartbeats 4000000 in
set_option maxRecDepth 100000 in
theorem s_X8_walk_L5 {P : PP} {a0 : Nat} {a1 : Int32} {a2 : Int32} {a3 : Int32} (I : IV P) (ha0 : At P a0 8) (ha1 : 6 ≤ a1.toInt ∧ a1.toInt ≤ 6) (ha2 : 0 ≤ a2.toInt ∧ a2.toInt ≤ 6) : CtrV yX8_walk cX8_walk 6 none ({ frames := 8, cells := 0, slots := 0, locals := 512 } : Room) 0 0 P [.ref a0, .int a1, .int a2, .int a3] (fun P2 => IV P2 ∧ EK [0, 5, 13] P P2) := by
  refine enV (lv := [(0, .ref a0), (1, .int a1), (2, .int a2), (3, .int a3)]) (by decide) (Nat.le_of_ble_eq_true rfl) rfl (fun E D cy C Ci0 ret => ?_)
  have J160 : ∀ (P160 : PP) (v160_4 : Int32) (v160_5 : Int32) (v160_s0 : Int32) (v160_s1 : Int32) (v160_s2 : Int32), (IV P160) → (EK [0, 5, 13] P P160) → (0 ≤ v160_4.toInt ∧ v160_4.toInt ≤ 20) → (0 ≤ v160_5.toInt ∧ v160_5.toInt ≤ 44) → (1 ≤ v160_s1.toInt ∧ v160_s1.toInt ≤ 7) → (7 ≤ v160_s2.toInt ∧ v160_s2.toInt ≤ 7) → (7 ≤ (pI P160 a0 4).toInt ∧ (pI P160 a0 4).toInt ≤ 11) → G E ({ frames := 8, cells := 0, slots := 0, locals := 512 } : Room) D cy 6 P160 0 0 160 [(0, .ref a0), (4, .int v160_4), (5, .int v160_5)] [.int v160_s0, .int v160_s1, .int v160_s2, .ref a0] := by
    intro P160 v160_4 v160_5 v160_s0 v160_s1 v160_s2 I160 X160 hv160_4 hv160_5 hv160_s1 hv160_s2 hq160_0
    have h10561 := X160.at ha0
    refine g_callVV (rest := []) C mv_X8_73 [.int v160_s2, .int v160_s1, .int v160_s0] (s_X8_walk_L4 I160 h10561 (by omega) (by omega)) (h10561).1 (h10561).2 rfl rfl (by decide) (Nat.le_of_ble_eq_true rfl) (by decide) dX8_walk_160 (fun Y10563 h10564 => ?_)
    obtain ⟨Iy10565, Xy10566⟩ := h10564
    have q10567 := Xy10566.keep h10561 (by decide) 4
    have Xz10568 : EK [0, 5, 13] P Y10563 := X160.tr (Xy10566.mono (by decide))
    have h10569 := Xy10566.at h10561
    refine g_aload_n C dX8_walk_163 rfl 0 rfl ?_
    obtain ⟨b10570, e10571, h10572⟩ := Iy10565.fld (h10569) 3 0 0 rfl
    refine g_getR C fi_X8_28 rfl e10571 (h10569).1 (h10569).2 dX8_walk_164 ?_
    refine g_iload C dX8_walk_167 1 rfl ?_
    refine g_callVV (rest := []) C mv_X8_96 [.int v160_4] (s_X0_cut Iy10565 h10572.at) (h10572.at).1 (h10572.at).2 rfl rfl (by decide) (Nat.le_of_ble_eq_true rfl) (by decide) dX8_walk_169 (fun Y10574 h10575 => ?_)
    obtain ⟨Iy10576, Xy10577⟩ := h10575
    have q10578 := Xy10577.keep h10569 (by decide) 4
    have Xz10579 : EK [0, 5, 13] P Y10574 := Xz10568.tr (Xy10577.mono (by decide))
    have h10580 := Xy10577.at h10569
    refine g_aload_n C dX8_walk_172 rfl 0 rfl ?_
    obtain ⟨b10581, e10582, h10583⟩ := Iy10576.fld (h10580) 2 5 0 rfl
    refine g_getR C fi_X8_21 rfl e10582 (h10580).1 (h10580).2 dX8_walk_173 ?_
    refine g_iload C dX8_walk_176 2 rfl ?_
    refine g_callVV (rest := []) C mv_X8_99 [.int v160_5] (s_X5_cut Iy10576 h10583.at) (h10583.at).1 (h10583.at).2 rfl rfl (by decide) (Nat.le_of_ble_eq_true rfl) (by decide) dX8_walk_178 (fun Y10585 h10586 => ?_)
    obtain ⟨Iy10587, Xy10588⟩ := h10586
    have q10589 := Xy10588.keep h10580 (by decide) 4
    have Xz10590 : EK [0, 5, 13] P Y10585 := Xz10579.tr (Xy10588.mono (by decide))
    have h10591 := Xy10588.at h10580
    exact ret _ _ _ _ _ dX8_walk_181 (by decide) (by decide) ⟨Iy10587, Xz10590⟩
  have J44 : G E ({ frames := 8, cells := 0, slots := 0, locals := 512 } : Room) D cy 6 P 0 0 44 [(0, .ref a0), (1, .int a1), (2, .int a2), (3, .int a3)] [] := by
    refine g_iload_n C dX8_walk_44 rfl 1 rfl ?_
    refine g_aload_n C dX8_walk_45 rfl 0 rfl ?_
    refine g_getI C fi_X8_38 (by decide) (ha0).1 (ha0).2 dX8_walk_46 ?_
    have h10592 := I.rg (ha0) 4 rfl
    refine b_icmp_ge C 79 dX8_walk_49 (by decide) (fun h10593 => ?_) (fun h10593 => ?_)
    · have h10593 : (pI P a0 4).toInt ≤ a1.toInt := h10593
      exact ret _ _ _ _ _ dX8_walk_79 (by decide) (by decide) ⟨I, EK.rf⟩
    · have h10593 : a1.toInt < (pI P a0 4).toInt := h10593
      refine g_iload_n C dX8_walk_52 rfl 1 rfl ?_
      refine g_bipush (v := 11) C dX8_walk_53 (by decide) ?_
      refine b_icmp_ge C 79 dX8_walk_55 (by decide) (fun h10594 => ?_) (fun h10594 => ?_)
      · have h10594 : 11 ≤ a1.toInt := h10594
        omega
      · have h10594 : a1.toInt < 11 := h10594
        refine g_aload_n C dX8_walk_58 rfl 0 rfl ?_
        obtain ⟨b10595, e10596, h10597⟩ := I.fld (ha0) 3 0 0 rfl
        refine g_getR C fi_X8_28 rfl e10596 (ha0).1 (ha0).2 dX8_walk_59 ?_
        refine g_getI C fi_X8_77 (by decide) (h10597.at).1 (h10597.at).2 dX8_walk_62 ?_
        have h10598 := I.rg (h10597.at) 2 rfl
        refine g_aload_n C dX8_walk_65 rfl 0 rfl ?_
        refine g_getI C fi_X8_38 (by decide) (ha0).1 (ha0).2 dX8_walk_66 ?_
        refine s_iadd C dX8_walk_69 (by show -2147483648 ≤ (pI P b10595 2).toInt + (pI P a0 4).toInt ∧ (pI P b10595 2).toInt + (pI P a0 4).toInt ≤ 2147483647; omega) (fun z10599 h10600 => ?_)
        have h10600 : z10599.toInt = (pI P b10595 2).toInt + (pI P a0 4).toInt := h10600
        refine g_iload_n C dX8_walk_70 rfl 1 rfl ?_
        refine s_isub C dX8_walk_71 (by show -2147483648 ≤ z10599.toInt - a1.toInt ∧ z10599.toInt - a1.toInt ≤ 2147483647; omega) (fun z10601 h10602 => ?_)
        have h10602 : z10601.toInt = z10599.toInt - a1.toInt := h10602
        refine g_aload_n C dX8_walk_72 rfl 0 rfl ?_
        refine g_getI C fi_X8_51 (by decide) (ha0).1 (ha0).2 dX8_walk_73 ?_
        have h10603 := I.rg (ha0) 6 rfl
        refine b_icmp_ge C 80 dX8_walk_76 (by decide) (fun h10604 => ?_) (fun h10604 => ?_)
        · have h10604 : (pI P a0 6).toInt ≤ z10601.toInt := h10604
          refine g_aload_n C dX8_walk_80 rfl 0 rfl ?_
          refine g_iload_n C dX8_walk_81 rfl 1 rfl ?_
          refine g_iconst (v := 1) C dX8_walk_82 (by decide) ?_
          refine s_iadd C dX8_walk_83 (by show -2147483648 ≤ a1.toInt + 1 ∧ a1.toInt + 1 ≤ 2147483647; omega) (fun z10605 h10606 => ?_)
          have h10606 : z10605.toInt = a1.toInt + 1 := h10606
          refine g_iload_n C dX8_walk_84 rfl 2 rfl ?_
          refine g_iload_n C dX8_walk_85 rfl 3 rfl ?_
          refine g_callVV (rest := []) C mv_X8_73 [.int z10605, .int a2, .int a3] (s_X8_walk_L4 I ha0 (by omega) (by omega)) (ha0).1 (ha0).2 rfl rfl (by decide) (Nat.le_of_ble_eq_true rfl) (by decide) dX8_walk_86 (fun Y10608 h10609 => ?_)
          obtain ⟨Iy10610, Xy10611⟩ := h10609
          have q10612 := Xy10611.keep ha0 (by decide) 4
          have q10613 := Xy10611.keep ha0 (by decide) 6
          have Xz10614 : EK [0, 5, 13] P Y10608 := Xy10611.mono (by decide)
          have h10615 := Xy10611.at ha0
          refine g_aload_n C dX8_walk_89 rfl 0 rfl ?_
          obtain ⟨b10616, e10617, h10618⟩ := Iy10610.fld (h10615) 3 0 0 rfl
          refine g_getR C fi_X8_28 rfl e10617 (h10615).1 (h10615).2 dX8_walk_90 ?_
          refine g_getI C fi_X8_77 (by decide) (h10618.at).1 (h10618.at).2 dX8_walk_93 ?_
          have h10619 := Iy10610.rg (h10618.at) 2 rfl
          refine g_topi (fun z10620 h10621 => ?_)
          have h10621 : z10620.toInt = (pI Y10608 b10616 2).toInt := congrArg Int32.toInt h10621
          refine g_istore (lv' := [(4, .int z10620), (0, .ref a0), (1, .int a1), (2, .int a2), (3, .int a3)]) C dX8_walk_96 (by decide) rfl ?_
          refine g_aload_n C dX8_walk_98 rfl 1 rfl ?_
          obtain ⟨b10622, e10623, h10624⟩ := Iy10610.fld (h10615) 2 5 0 rfl
          refine g_getR C fi_X8_21 rfl e10623 (h10615).1 (h10615).2 dX8_walk_99 ?_
          refine g_getI C fi_X8_84 (by decide) (h10624.at).1 (h10624.at).2 dX8_walk_102 ?_
          have h10625 := Iy10610.rg (h10624.at) 4 rfl
          refine g_topi (fun z10626 h10627 => ?_)
          have h10627 : z10626.toInt = (pI Y10608 b10622 4).toInt := congrArg Int32.toInt h10627
          refine g_istore (lv' := [(5, .int z10626), (4, .int z10620), (0, .ref a0), (1, .int a1), (2, .int a2), (3, .int a3)]) C dX8_walk_105 (by decide) rfl ?_
          refine g_aload_n C dX8_walk_107 rfl 2 rfl ?_
          refine g_getR C fi_X8_28 rfl e10617 (h10615).1 (h10615).2 dX8_walk_108 ?_
          refine g_aload_n C dX8_walk_111 rfl 2 rfl ?_
          obtain ⟨b10628, e10629, h10630⟩ := Iy10610.fld (h10615) 1 13 11 rfl
          refine g_getR C fi_X8_15 rfl e10629 (h10615).1 (h10615).2 dX8_walk_112 ?_
          refine g_iload_n C dX8_walk_115 rfl 3 rfl ?_
          refine g_iald (j := (a1.toInt.toNat)) C h10630.1 h10630.2.1 (ix_in h10630.2.2 (by omega)) dX8_walk_116 ?_
          refine g_topi (fun z10631 _ => ?_)
          refine g_callVV (rest := []) C mv_X8_87 [.int z10631] (s_X0_add Iy10610 h10618.at) (h10618.at).1 (h10618.at).2 rfl rfl (by decide) (Nat.le_of_ble_eq_true rfl) (by decide) dX8_walk_117 (fun Y10633 h10634 => ?_)
          obtain ⟨Iy10635, Xy10636⟩ := h10634
          have q10637 := Xy10636.keep h10615 (by decide) 4
          have q10638 := Xy10636.keep h10615 (by decide) 6
          have q10639 := Xy10636.keep (h10624.at) (by decide) 4
          have Xz10640 : EK [0, 5, 13] P Y10633 := Xz10614.tr (Xy10636.mono (by decide))
          have h10641 := Xy10636.at h10615
          refine g_aload_n C dX8_walk_120 rfl 2 rfl ?_
          obtain ⟨b10642, e10643, h10644⟩ := Iy10635.fld (h10641) 2 5 0 rfl
          refine g_getR C fi_X8_21 rfl e10643 (h10641).1 (h10641).2 dX8_walk_121 ?_
          refine g_aload_n C dX8_walk_124 rfl 2 rfl ?_
          obtain ⟨b10645, e10646, h10647⟩ := Iy10635.fld (h10641) 1 13 11 rfl
          refine g_getR C fi_X8_15 rfl e10646 (h10641).1 (h10641).2 dX8_walk_125 ?_
          refine g_iload_n C dX8_walk_128 rfl 3 rfl ?_
          refine g_iald (j := (a1.toInt.toNat)) C h10647.1 h10647.2.1 (ix_in h10647.2.2 (by omega)) dX8_walk_129 ?_
          refine g_topi (fun z10648 _ => ?_)
          refine g_iload_n C dX8_walk_130 rfl 3 rfl ?_
          refine g_callVV (rest := []) C mv_X8_91 [.int z10648, .int a1] (s_X5_add Iy10635 h10644.at) (h10644.at).1 (h10644.at).2 rfl rfl (by decide) (Nat.le_of_ble_eq_true rfl) (by decide) dX8_walk_131 (fun Y10650 h10651 => ?_)
          obtain ⟨Iy10652, Xy10653⟩ := h10651
          have q10654 := Xy10653.keep h10641 (by decide) 4
          have q10655 := Xy10653.keep h10641 (by decide) 6
          have Xz10656 : EK [0, 5, 13] P Y10650 := Xz10640.tr (Xy10653.mono (by decide))
          have h10657 := Xy10653.at h10641
          refine g_aload_n C dX8_walk_134 rfl 2 rfl ?_
          refine g_iload_n C dX8_walk_135 rfl 3 rfl ?_
          refine g_iconst (v := 1) C dX8_walk_136 (by decide) ?_
          refine s_iadd C dX8_walk_137 (by show -2147483648 ≤ a1.toInt + 1 ∧ a1.toInt + 1 ≤ 2147483647; omega) (fun z10658 h10659 => ?_)
          have h10659 : z10658.toInt = a1.toInt + 1 := h10659
          refine g_iload_n C dX8_walk_138 rfl 4 rfl ?_
          refine g_iconst (v := 1) C dX8_walk_139 (by decide) ?_
          refine s_iadd C dX8_walk_140 (by show -2147483648 ≤ a2.toInt + 1 ∧ a2.toInt + 1 ≤ 2147483647; omega) (fun z10660 h10661 => ?_)
          have h10661 : z10660.toInt = a2.toInt + 1 := h10661
          refine g_aload_n C dX8_walk_141 rfl 2 rfl ?_
          refine g_getI C fi_X8_42 (by decide) (h10657).1 (h10657).2 dX8_walk_142 ?_
          have u10663 := ti_rng (pI Y10650 a0 5)
          refine b_if_ne C 159 dX8_walk_145 (by decide) (fun h10662 => ?_) (fun h10662 => ?_)
          · have h10662 : (pI Y10650 a0 5).toInt ≠ 0 := ti_ne h10662
            refine g_iload_n C dX8_walk_159 rfl 5 rfl ?_
            refine g_lv (lv' := [(0, .ref a0), (4, .int z10620), (5, .int z10626)]) [2, 1, 0] rfl ?_
            exact J160 Y10650 z10620 z10626 a3 z10660 z10658 Iy10652 Xz10656 (by omega) (by omega) (by omega) (by omega) (by omega)
          · have h10662 : (pI Y10650 a0 5).toInt = 0 := congrArg Int32.toInt h10662
            refine g_aload_n C dX8_walk_148 rfl 2 rfl ?_
            obtain ⟨b10664, e10665, h10666⟩ := Iy10652.fld (h10657) 2 5 0 rfl
            refine g_getR C fi_X8_21 rfl e10665 (h10657).1 (h10657).2 dX8_walk_149 ?_
            refine g_iload_n C dX8_walk_152 rfl 5 rfl ?_
            refine g_callVI (rest := [.int z10660, .int z10658, .ref a0]) C mv_X8_93 [.int a3] (s_X5_spread Iy10652 h10666.at) (h10666.at).1 (h10666.at).2 rfl rfl (by decide) (Nat.le_of_ble_eq_true rfl) (by decide) dX8_walk_153 (fun r10667 Y10668 h10669 => ?_)
            obtain ⟨rfl, h10669⟩ := h10669
            have h10669 : True := h10669
            refine g_goto C 160 dX8_walk_156 (by decide) ?_
            refine g_lv (lv' := [(0, .ref a0), (4, .int z10620), (5, .int z10626)]) [2, 1, 0] rfl ?_
            exact J160 Y10650 z10620 z10626 r10667 z10660 z10658 Iy10652 Xz10656 (by omega) (by omega) (by omega) (by omega) (by omega)
        · have h10604 : z10601.toInt < (pI P a0 6).toInt := h10604
          exact ret _ _ _ _ _ dX8_walk_79 (by decide) (by decide) ⟨I, EK.rf⟩
  have J32 : G E ({ frames := 8, cells := 0, slots := 0, locals := 512 } : Room) D cy 6 P 0 0 32 [(0, .ref a0), (1, .int a1), (2, .int a2)] [] := by
    refine g_aload_n C dX8_walk_32 rfl 0 rfl ?_
    refine g_aload_n C dX8_walk_33 rfl 0 rfl ?_
    refine g_getI C fi_X8_38 (by decide) (ha0).1 (ha0).2 dX8_walk_34 ?_
    have h10670 := I.rg (ha0) 4 rfl
    refine g_iload_n C dX8_walk_37 rfl 1 rfl ?_
    refine s_isub C dX8_walk_38 (by show -2147483648 ≤ (pI P a0 4).toInt - a1.toInt ∧ (pI P a0 4).toInt - a1.toInt ≤ 2147483647; omega) (fun z10671 h10672 => ?_)
    have h10672 : z10671.toInt = (pI P a0 4).toInt - a1.toInt := h10672
    refine g_iload_n C dX8_walk_39 rfl 2 rfl ?_
    refine g_callVV (rest := []) C mv_X8_80 [.int z10671, .int a2] (s_X8_addAllWith I ha0 (by omega) (by omega)) (ha0).1 (ha0).2 rfl rfl (by decide) (Nat.le_of_ble_eq_true rfl) (by decide) dX8_walk_40 (fun Y10674 h10675 => ?_)
    obtain ⟨Iy10676, Xy10677⟩ := h10675
    have q10678 := Xy10677.keep ha0 (by decide) 4
    have Xz10679 : EK [0, 5, 13] P Y10674 := Xy10677.mono (by decide)
    have h10680 := Xy10677.at ha0
    exact ret _ _ _ _ _ dX8_walk_43 (by decide) (by decide) ⟨Iy10676, Xz10679⟩
  refine g_aload_n C dX8_walk_0 rfl 0 rfl ?_
  refine g_getI C fi_X8_42 (by decide) (ha0).1 (ha0).2 dX8_walk_1 ?_
  have u10682 := ti_rng (pI P a0 5)
  refine b_if_ne C 18 dX8_walk_4 (by decide) (fun h10681 => ?_) (fun h10681 => ?_)
  · have h10681 : (pI P a0 5).toInt ≠ 0 := ti_ne h10681
    refine g_aload_n C dX8_walk_18 rfl 0 rfl ?_
    obtain ⟨b10683, e10684, h10685⟩ := I.fld (ha0) 3 0 0 rfl
    refine g_getR C fi_X8_28 rfl e10684 (ha0).1 (ha0).2 dX8_walk_19 ?_
    refine g_getI C fi_X8_77 (by decide) (h10685.at).1 (h10685.at).2 dX8_walk_22 ?_
    have h10686 := I.rg (h10685.at) 2 rfl
    refine g_aload_n C dX8_walk_25 rfl 0 rfl ?_
    refine g_getI C fi_X8_51 (by decide) (ha0).1 (ha0).2 dX8_walk_26 ?_
    have h10687 := I.rg (ha0) 6 rfl
    refine b_icmp_ne C 44 dX8_walk_29 (by decide) (fun h10688 => ?_) (fun h10688 => ?_)
    · have h10688 : (pI P b10683 2).toInt ≠ (pI P a0 6).toInt := ti_ne h10688
      exact J44 
    · have h10688 : (pI P b10683 2).toInt = (pI P a0 6).toInt := congrArg Int32.toInt h10688
      refine g_lv (lv' := [(0, .ref a0), (1, .int a1), (2, .int a2)]) [0, 1, 2] rfl ?_
      exact J32 
  · have h10681 : (pI P a0 5).toInt = 0 := congrArg Int32.toInt h10681
    refine g_iload_n C dX8_walk_7 rfl 3 rfl ?_
    refine g_aload_n C dX8_walk_8 rfl 0 rfl ?_
    refine g_getI C fi_X8_56 (by decide) (ha0).1 (ha0).2 dX8_walk_9 ?_
    have u10690 := ti_rng a3
    have u10691 := ti_rng (pI P a0 7)
    refine b_icmp_ne C 44 dX8_walk_12 (by decide) (fun h10689 => ?_) (fun h10689 => ?_)
    · have h10689 : a3.toInt ≠ (pI P a0 7).toInt := ti_ne h10689
      exact J44 
    · have h10689 : a3.toInt = (pI P a0 7).toInt := congrArg Int32.toInt h10689
      refine g_goto C 32 dX8_walk_15 (by decide) ?_
      refine g_lv (lv' := [(0, .ref a0), (1, .int a1), (2, .int a2)]) [0, 1, 2] rfl ?_
      exact J32 
set_option maxHeartbeats 4000000 in
set_option maxRecDepth 100000 in
theorem s_X8_walk_L6 {P : PP} {a0 : Nat} {a1 : Int32} {a2 : Int32} {a3 : Int32} (I : IV P) (ha0 : At P a0 8) (ha1 : 5 ≤ a1.toInt ∧ a1.toInt ≤ 5) (ha2 : 0 ≤ a2.toInt ∧ a2.toInt ≤ 5) : CtrV yX8_walk cX8_walk 6 none ({ frames := 9, cells := 0, slots := 0, locals := 576 } : Room) 0 0 P [.ref a0, .int a1, .int a2, .int a3] (fun P2 => IV P2 ∧ EK [0, 5, 13] P P2) := by
  refine enV (lv := [(0, .ref a0), (1, .int a1), (2, .int a2), (3, .int a3)]) (by decide) (Nat.le_of_ble_eq_true rfl) rfl (fun E D cy C Ci0 ret => ?_)
  have J160 : ∀ (P160 : PP) (v160_4 : Int32) (v160_5 : Int32) (v160_s0 : Int32) (v160_s1 : Int32) (v160_s2 : Int32), (IV P160) → (EK [0, 5, 13] P P160) → (0 ≤ v160_4.toInt ∧ v160_4.toInt ≤ 20) → (0 ≤ v160_5.toInt ∧ v160_5.toInt ≤ 44) → (1 ≤ v160_s1.toInt ∧ v160_s1.toInt ≤ 6) → (6 ≤ v160_s2.toInt ∧ v160_s2.toInt ≤ 6) → (6 ≤ (pI P160 a0 4).toInt ∧ (pI P160 a0 4).toInt ≤ 11) → G E ({ frames := 9, cells := 0, slots := 0, locals := 576 } : Room) D cy 6 P160 0 0 160 [(0, .ref a0), (4, .int v160_4), (5, .int v160_5)] [.int v160_s0, .int v160_s1, .int v160_s2, .ref a0] := by
    intro P160 v160_4 v160_5 v160_s0 v160_s1 v160_s2 I160 X160 hv160_4 hv160_5 hv160_s1 hv160_s2 hq160_0
    have h10823 := X160.at ha0
    refine g_callVV (rest := []) C mv_X8_73 [.int v160_s2, .int v160_s1, .int v160_s0] (s_X8_walk_L5 I160 h10823 (by omega) (by omega)) (h10823).1 (h10823).2 rfl rfl (by decide) (Nat.le_of_ble_eq_true rfl) (by decide) dX8_walk_160 (fun Y10825 h10826 => ?_)
    obtain ⟨Iy10827, Xy10828⟩ := h10826
    have q10829 := Xy10828.keep h10823 (by decide) 4
    have Xz10830 : EK [0, 5, 13] P Y10825 := X160.tr (Xy10828.mono (by decide))
    have h10831 := Xy10828.at h10823
    refine g_aload_n C dX8_walk_163 rfl 0 rfl ?_
    obtain ⟨b10832, e10833, h10834⟩ := Iy10827.fld (h10831) 3 0 0 rfl
    refine g_getR C fi_X8_28 rfl e10833 (h10831).1 (h10831).2 dX8_walk_164 ?_
    refine g_iload C dX8_walk_167 1 rfl ?_
    refine g_callVV (rest := []) C mv_X8_96 [.int v160_4] (s_X0_cut Iy10827 h10834.at) (h10834.at).1 (h10834.at).2 rfl rfl (by decide) (Nat.le_of_ble_eq_true rfl) (by decide) dX8_walk_169 (fun Y10836 h10837 => ?_)
    obtain ⟨Iy10838, Xy10839⟩ := h10837
    have q10840 := Xy10839.keep h10831 (by decide) 4
    have Xz10841 : EK [0, 5, 13] P Y10836 := Xz10830.tr (Xy10839.mono (by decide))
    have h10842 := Xy10839.at h10831
    refine g_aload_n C dX8_walk_172 rfl 0 rfl ?_
    obtain ⟨b10843, e10844, h10845⟩ := Iy10838.fld (h10842) 2 5 0 rfl
    refine g_getR C fi_X8_21 rfl e10844 (h10842).1 (h10842).2 dX8_walk_173 ?_
    refine g_iload C dX8_walk_176 2 rfl ?_
    refine g_callVV (rest := []) C mv_X8_99 [.int v160_5] (s_X5_cut Iy10838 h10845.at) (h10845.at).1 (h10845.at).2 rfl rfl (by decide) (Nat.le_of_ble_eq_true rfl) (by decide) dX8_walk_178 (fun Y10847 h10848 => ?_)
    obtain ⟨Iy10849, Xy10850⟩ := h10848
    have q10851 := Xy10850.keep h10842 (by decide) 4
    have Xz10852 : EK [0, 5, 13] P Y10847 := Xz10841.tr (Xy10850.mono (by decide))
    have h10853 := Xy10850.at h10842
    exact ret _ _ _ _ _ dX8_walk_181 (by decide) (by decide) ⟨Iy10849, Xz10852⟩
  have J44 : G E ({ frames := 9, cells := 0, slots := 0, locals := 576 } : Room) D cy 6 P 0 0 44 [(0, .ref a0), (1, .int a1), (2, .int a2), (3, .int a3)] [] := by
    refine g_iload_n C dX8_walk_44 rfl 1 rfl ?_
    refine g_aload_n C dX8_walk_45 rfl 0 rfl ?_
    refine g_getI C fi_X8_38 (by decide) (ha0).1 (ha0).2 dX8_walk_46 ?_
    have h10854 := I.rg (ha0) 4 rfl
    refine b_icmp_ge C 79 dX8_walk_49 (by decide) (fun h10855 => ?_) (fun h10855 => ?_)
    · have h10855 : (pI P a0 4).toInt ≤ a1.toInt := h10855
      exact ret _ _ _ _ _ dX8_walk_79 (by decide) (by decide) ⟨I, EK.rf⟩
    · have h10855 : a1.toInt < (pI P a0 4).toInt := h10855
      refine g_iload_n C dX8_walk_52 rfl 1 rfl ?_
      refine g_bipush (v := 11) C dX8_walk_53 (by decide) ?_
      refine b_icmp_ge C 79 dX8_walk_55 (by decide) (fun h10856 => ?_) (fun h10856 => ?_)
      · have h10856 : 11 ≤ a1.toInt := h10856
        omega
      · have h10856 : a1.toInt < 11 := h10856
        refine g_aload_n C dX8_walk_58 rfl 0 rfl ?_
        obtain ⟨b10857, e10858, h10859⟩ := I.fld (ha0) 3 0 0 rfl
        refine g_getR C fi_X8_28 rfl e10858 (ha0).1 (ha0).2 dX8_walk_59 ?_
        refine g_getI C fi_X8_77 (by decide) (h10859.at).1 (h10859.at).2 dX8_walk_62 ?_
        have h10860 := I.rg (h10859.at) 2 rfl
        refine g_aload_n C dX8_walk_65 rfl 0 rfl ?_
        refine g_getI C fi_X8_38 (by decide) (ha0).1 (ha0).2 dX8_walk_66 ?_
        refine s_iadd C dX8_walk_69 (by show -2147483648 ≤ (pI P b10857 2).toInt + (pI P a0 4).toInt ∧ (pI P b10857 2).toInt + (pI P a0 4).toInt ≤ 2147483647; omega) (fun z10861 h10862 => ?_)
        have h10862 : z10861.toInt = (pI P b10857 2).toInt + (pI P a0 4).toInt := h10862
        refine g_iload_n C dX8_walk_70 rfl 1 rfl ?_
        refine s_isub C dX8_walk_71 (by show -2147483648 ≤ z10861.toInt - a1.toInt ∧ z10861.toInt - a1.toInt ≤ 2147483647; omega) (fun z10863 h10864 => ?_)
        have h10864 : z10863.toInt = z10861.toInt - a1.toInt := h10864
        refine g_aload_n C dX8_walk_72 rfl 0 rfl ?_
        refine g_getI C fi_X8_51 (by decide) (ha0).1 (ha0).2 dX8_walk_73 ?_
        have h10865 := I.rg (ha0) 6 rfl
        refine b_icmp_ge C 80 dX8_walk_76 (by decide) (fun h10866 => ?_) (fun h10866 => ?_)
        · have h10866 : (pI P a0 6).toInt ≤ z10863.toInt := h10866
          refine g_aload_n C dX8_walk_80 rfl 0 rfl ?_
          refine g_iload_n C dX8_walk_81 rfl 1 rfl ?_
          refine g_iconst (v := 1) C dX8_walk_82 (by decide) ?_
          refine s_iadd C dX8_walk_83 (by show -2147483648 ≤ a1.toInt + 1 ∧ a1.toInt + 1 ≤ 2147483647; omega) (fun z10867 h10868 => ?_)
          have h10868 : z10867.toInt = a1.toInt + 1 := h10868
          refine g_iload_n C dX8_walk_84 rfl 2 rfl ?_
          refine g_iload_n C dX8_walk_85 rfl 3 rfl ?_
          refine g_callVV (rest := []) C mv_X8_73 [.int z10867, .int a2, .int a3] (s_X8_walk_L5 I ha0 (by omega) (by omega)) (ha0).1 (ha0).2 rfl rfl (by decide) (Nat.le_of_ble_eq_true rfl) (by decide) dX8_walk_86 (fun Y10870 h10871 => ?_)
          obtain ⟨Iy10872, Xy10873⟩ := h10871
          have q10874 := Xy10873.keep ha0 (by decide) 4
          have q10875 := Xy10873.keep ha0 (by decide) 6
          have Xz10876 : EK [0, 5, 13] P Y10870 := Xy10873.mono (by decide)
          have h10877 := Xy10873.at ha0
          refine g_aload_n C dX8_walk_89 rfl 0 rfl ?_
          obtain ⟨b10878, e10879, h10880⟩ := Iy10872.fld (h10877) 3 0 0 rfl
          refine g_getR C fi_X8_28 rfl e10879 (h10877).1 (h10877).2 dX8_walk_90 ?_
          refine g_getI C fi_X8_77 (by decide) (h10880.at).1 (h10880.at).2 dX8_walk_93 ?_
          have h10881 := Iy10872.rg (h10880.at) 2 rfl
          refine g_topi (fun z10882 h10883 => ?_)
          have h10883 : z10882.toInt = (pI Y10870 b10878 2).toInt := congrArg Int32.toInt h10883
          refine g_istore (lv' := [(4, .int z10882), (0, .ref a0), (1, .int a1), (2, .int a2), (3, .int a3)]) C dX8_walk_96 (by decide) rfl ?_
          refine g_aload_n C dX8_walk_98 rfl 1 rfl ?_
          obtain ⟨b10884, e10885, h10886⟩ := Iy10872.fld (h10877) 2 5 0 rfl
          refine g_getR C fi_X8_21 rfl e10885 (h10877).1 (h10877).2 dX8_walk_99 ?_
          refine g_getI C fi_X8_84 (by decide) (h10886.at).1 (h10886.at).2 dX8_walk_102 ?_
          have h10887 := Iy10872.rg (h10886.at) 4 rfl
          refine g_topi (fun z10888 h10889 => ?_)
          have h10889 : z10888.toInt = (pI Y10870 b10884 4).toInt := congrArg Int32.toInt h10889
          refine g_istore (lv' := [(5, .int z10888), (4, .int z10882), (0, .ref a0), (1, .int a1), (2, .int a2), (3, .int a3)]) C dX8_walk_105 (by decide) rfl ?_
          refine g_aload_n C dX8_walk_107 rfl 2 rfl ?_
          refine g_getR C fi_X8_28 rfl e10879 (h10877).1 (h10877).2 dX8_walk_108 ?_
          refine g_aload_n C dX8_walk_111 rfl 2 rfl ?_
          obtain ⟨b10890, e10891, h10892⟩ := Iy10872.fld (h10877) 1 13 11 rfl
          refine g_getR C fi_X8_15 rfl e10891 (h10877).1 (h10877).2 dX8_walk_112 ?_
          refine g_iload_n C dX8_walk_115 rfl 3 rfl ?_
          refine g_iald (j := (a1.toInt.toNat)) C h10892.1 h10892.2.1 (ix_in h10892.2.2 (by omega)) dX8_walk_116 ?_
          refine g_topi (fun z10893 _ => ?_)
          refine g_callVV (rest := []) C mv_X8_87 [.int z10893] (s_X0_add Iy10872 h10880.at) (h10880.at).1 (h10880.at).2 rfl rfl (by decide) (Nat.le_of_ble_eq_true rfl) (by decide) dX8_walk_117 (fun Y10895 h10896 => ?_)
          obtain ⟨Iy10897, Xy10898⟩ := h10896
          have q10899 := Xy10898.keep h10877 (by decide) 4
          have q10900 := Xy10898.keep h10877 (by decide) 6
          have q10901 := Xy10898.keep (h10886.at) (by decide) 4
          have Xz10902 : EK [0, 5, 13] P Y10895 := Xz10876.tr (Xy10898.mono (by decide))
          have h10903 := Xy10898.at h10877
          refine g_aload_n C dX8_walk_120 rfl 2 rfl ?_
          obtain ⟨b10904, e10905, h10906⟩ := Iy10897.fld (h10903) 2 5 0 rfl
          refine g_getR C fi_X8_21 rfl e10905 (h10903).1 (h10903).2 dX8_walk_121 ?_
          refine g_aload_n C dX8_walk_124 rfl 2 rfl ?_
          obtain ⟨b10907, e10908, h10909⟩ := Iy10897.fld (h10903) 1 13 11 rfl
          refine g_getR C fi_X8_15 rfl e10908 (h10903).1 (h10903).2 dX8_walk_125 ?_
          refine g_iload_n C dX8_walk_128 rfl 3 rfl ?_
          refine g_iald (j := (a1.toInt.toNat)) C h10909.1 h10909.2.1 (ix_in h10909.2.2 (by omega)) dX8_walk_129 ?_
          refine g_topi (fun z10910 _ => ?_)
          refine g_iload_n C dX8_walk_130 rfl 3 rfl ?_
          refine g_callVV (rest := []) C mv_X8_91 [.int z10910, .int a1] (s_X5_add Iy10897 h10906.at) (h10906.at).1 (h10906.at).2 rfl rfl (by decide) (Nat.le_of_ble_eq_true rfl) (by decide) dX8_walk_131 (fun Y10912 h10913 => ?_)
          obtain ⟨Iy10914, Xy10915⟩ := h10913
          have q10916 := Xy10915.keep h10903 (by decide) 4
          have q10917 := Xy10915.keep h10903 (by decide) 6
          have Xz10918 : EK [0, 5, 13] P Y10912 := Xz10902.tr (Xy10915.mono (by decide))
          have h10919 := Xy10915.at h10903
          refine g_aload_n C dX8_walk_134 rfl 2 rfl ?_
          refine g_iload_n C dX8_walk_135 rfl 3 rfl ?_
          refine g_iconst (v := 1) C dX8_walk_136 (by decide) ?_
          refine s_iadd C dX8_walk_137 (by show -2147483648 ≤ a1.toInt + 1 ∧ a1.toInt + 1 ≤ 2147483647; omega) (fun z10920 h10921 => ?_)
          have h10921 : z10920.toInt = a1.toInt + 1 := h10921
          refine g_iload_n C dX8_walk_138 rfl 4 rfl ?_
          refine g_iconst (v := 1) C dX8_walk_139 (by decide) ?_
          refine s_iadd C dX8_walk_140 (by show -2147483648 ≤ a2.toInt + 1 ∧ a2.toInt + 1 ≤ 2147483647; omega) (fun z10922 h10923 => ?_)
          have h10923 : z10922.toInt = a2.toInt + 1 := h10923
          refine g_aload_n C dX8_walk_141 rfl 2 rfl ?_
          refine g_getI C fi_X8_42 (by decide) (h10919).1 (h10919).2 dX8_walk_142 ?_
          have u10925 := ti_rng (pI Y10912 a0 5)
          refine b_if_ne C 159 dX8_walk_145 (by decide) (fun h10924 => ?_) (fun h10924 => ?_)
          · have h10924 : (pI Y10912 a0 5).toInt ≠ 0 := ti_ne h10924
            refine g_iload_n C dX8_walk_159 rfl 5 rfl ?_
            refine g_lv (lv' := [(0, .ref a0), (4, .int z10882), (5, .int z10888)]) [2, 1, 0] rfl ?_
            exact J160 Y10912 z10882 z10888 a3 z10922 z10920 Iy10914 Xz10918 (by omega) (by omega) (by omega) (by omega) (by omega)
          · have h10924 : (pI Y10912 a0 5).toInt = 0 := congrArg Int32.toInt h10924
            refine g_aload_n C dX8_walk_148 rfl 2 rfl ?_
            obtain ⟨b10926, e10927, h10928⟩ := Iy10914.fld (h10919) 2 5 0 rfl
            refine g_getR C fi_X8_21 rfl e10927 (h10919).1 (h10919).2 dX8_walk_149 ?_
            refine g_iload_n C dX8_walk_152 rfl 5 rfl ?_
            refine g_callVI (rest := [.int z10922, .int z10920, .ref a0]) C mv_X8_93 [.int a3] (s_X5_spread Iy10914 h10928.at) (h10928.at).1 (h10928.at).2 rfl rfl (by decide) (Nat.le_of_ble_eq_true rfl) (by decide) dX8_walk_153 (fun r10929 Y10930 h10931 => ?_)
            obtain ⟨rfl, h10931⟩ := h10931
            have h10931 : True := h10931
            refine g_goto C 160 dX8_walk_156 (by decide) ?_
            refine g_lv (lv' := [(0, .ref a0), (4, .int z10882), (5, .int z10888)]) [2, 1, 0] rfl ?_
            exact J160 Y10912 z10882 z10888 r10929 z10922 z10920 Iy10914 Xz10918 (by omega) (by omega) (by omega) (by omega) (by omega)
        · have h10866 : z10863.toInt < (pI P a0 6).toInt := h10866
          exact ret _ _ _ _ _ dX8_walk_79 (by decide) (by decide) ⟨I, EK.rf⟩
  have J32 : G E ({ frames := 9, cells := 0, slots := 0, locals := 576 } : Room) D cy 6 P 0 0 32 [(0, .ref a0), (1, .int a1), (2, .int a2)] [] := by
    refine g_aload_n C dX8_walk_32 rfl 0 rfl ?_
    refine g_aload_n C dX8_walk_33 rfl 0 rfl ?_
    refine g_getI C fi_X8_38 (by decide) (ha0).1 (ha0).2 dX8_walk_34 ?_
    have h10932 := I.rg (ha0) 4 rfl
    refine g_iload_n C dX8_walk_37 rfl 1 rfl ?_
    refine s_isub C dX8_walk_38 (by show -2147483648 ≤ (pI P a0 4).toInt - a1.toInt ∧ (pI P a0 4).toInt - a1.toInt ≤ 2147483647; omega) (fun z10933 h10934 => ?_)
    have h10934 : z10933.toInt = (pI P a0 4).toInt - a1.toInt := h10934
    refine g_iload_n C dX8_walk_39 rfl 2 rfl ?_
    refine g_callVV (rest := []) C mv_X8_80 [.int z10933, .int a2] (s_X8_addAllWith I ha0 (by omega) (by omega)) (ha0).1 (ha0).2 rfl rfl (by decide) (Nat.le_of_ble_eq_true rfl) (by decide) dX8_walk_40 (fun Y10936 h10937 => ?_)
    obtain ⟨Iy10938, Xy10939⟩ := h10937
    have q10940 := Xy10939.keep ha0 (by decide) 4
    have Xz10941 : EK [0, 5, 13] P Y10936 := Xy10939.mono (by decide)
    have h10942 := Xy10939.at ha0
    exact ret _ _ _ _ _ dX8_walk_43 (by decide) (by decide) ⟨Iy10938, Xz10941⟩
  refine g_aload_n C dX8_walk_0 rfl 0 rfl ?_
  refine g_getI C fi_X8_42 (by decide) (ha0).1 (ha0).2 dX8_walk_1 ?_
  have u10944 := ti_rng (pI P a0 5)
  refine b_if_ne C 18 dX8_walk_4 (by decide) (fun h10943 => ?_) (fun h10943 => ?_)
  · have h10943 : (pI P a0 5).toInt ≠ 0 := ti_ne h10943
    refine g_aload_n C dX8_walk_18 rfl 0 rfl ?_
    obtain ⟨b10945, e10946, h10947⟩ := I.fld (ha0) 3 0 0 rfl
    refine g_getR C fi_X8_28 rfl e10946 (ha0).1 (ha0).2 dX8_walk_19 ?_
    refine g_getI C fi_X8_77 (by decide) (h10947.at).1 (h10947.at).2 dX8_walk_22 ?_
    have h10948 := I.rg (h10947.at) 2 rfl
    refine g_aload_n C dX8_walk_25 rfl 0 rfl ?_
    refine g_getI C fi_X8_51 (by decide) (ha0).1 (ha0).2 dX8_walk_26 ?_
    have h10949 := I.rg (ha0) 6 rfl
    refine b_icmp_ne C 44 dX8_walk_29 (by decide) (fun h10950 => ?_) (fun h10950 => ?_)
    · have h10950 : (pI P b10945 2).toInt ≠ (pI P a0 6).toInt := ti_ne h10950
      exact J44 
    · have h10950 : (pI P b10945 2).toInt = (pI P a0 6).toInt := congrArg Int32.toInt h10950
      refine g_lv (lv' := [(0, .ref a0), (1, .int a1), (2, .int a2)]) [0, 1, 2] rfl ?_
      exact J32 
  · have h10943 : (pI P a0 5).toInt = 0 := congrArg Int32.toInt h10943
    refine g_iload_n C dX8_walk_7 rfl 3 rfl ?_
    refine g_aload_n C dX8_walk_8 rfl 0 rfl ?_
    refine g_getI C fi_X8_56 (by decide) (ha0).1 (ha0).2 dX8_walk_9 ?_
    have u10952 := ti_rng a3
    have u10953 := ti_rng (pI P a0 7)
    refine b_icmp_ne C 44 dX8_walk_12 (by decide) (fun h10951 => ?_) (fun h10951 => ?_)
    · have h10951 : a3.toInt ≠ (pI P a0 7).toInt := ti_ne h10951
      exact J44 
    · have h10951 : a3.toInt = (pI P a0 7).toInt := congrArg Int32.toInt h10951
      refine g_goto C 32 dX8_walk_15 (by decide) ?_
      refine g_lv (lv' := [(0, .ref a0), (1, .int a1), (2, .int a2)]) [0, 1, 2] rfl ?_
      exact J32 
set_option maxHeartbeats 4000000 in
set_option maxRecDepth 100000 in
theorem s_X8_walk_L7 {P : PP} {a0 : Nat} {a1 : Int32} {a2 : Int32} {a3 : Int32} (I : IV P) (ha0 : At P a0 8) (ha1 : 4 ≤ a1.toInt ∧ a1.toInt ≤ 4) (ha2 : 0 ≤ a2.toInt ∧ a2.toInt ≤ 4) : CtrV yX8_walk cX8_walk 6 none ({ frames := 10, cells := 0, slots := 0, locals := 640 } : Room) 0 0 P [.ref a0, .int a1, .int a2, .int a3] (fun P2 => IV P2 ∧ EK [0, 5, 13] P P2) := by
  refine enV (lv := [(0, .ref a0), (1, .int a1), (2, .int a2), (3, .int a3)]) (by decide) (Nat.le_of_ble_eq_true rfl) rfl (fun E D cy C Ci0 ret => ?_)
  have J160 : ∀ (P160 : PP) (v160_4 : Int32) (v160_5 : Int32) (v160_s0 : Int32) (v160_s1 : Int32) (v160_s2 : Int32), (IV P160) → (EK [0, 5, 13] P P160) → (0 ≤ v160_4.toInt ∧ v160_4.toInt ≤ 20) → (0 ≤ v160_5.toInt ∧ v160_5.toInt ≤ 44) → (1 ≤ v160_s1.toInt ∧ v160_s1.toInt ≤ 5) → (5 ≤ v160_s2.toInt ∧ v160_s2.toInt ≤ 5) → (5 ≤ (pI P160 a0 4).toInt ∧ (pI P160 a0 4).toInt ≤ 11) → G E ({ frames := 10, cells := 0, slots := 0, locals := 640 } : Room) D cy 6 P160 0 0 160 [(0, .ref a0), (4, .int v160_4), (5, .int v160_5)] [.int v160_s0, .int v160_s1, .int v160_s2, .ref a0] := by
    intro P160 v160_4 v160_5 v160_s0 v160_s1 v160_s2 I160 X160 hv160_4 hv160_5 hv160_s1 hv160_s2 hq160_0
    have h11085 := X160.at ha0
    refine g_callVV (rest := []) C mv_X8_73 [.int v160_s2, .int v160_s1, .int v160_s0] (s_X8_walk_L6 I160 h11085 (by omega) (by omega)) (h11085).1 (h11085).2 rfl rfl (by decide) (Nat.le_of_ble_eq_true rfl) (by decide) dX8_walk_160 (fun Y11087 h11088 => ?_)
    obtain ⟨Iy11089, Xy11090⟩ := h11088
    have q11091 := Xy11090.keep h11085 (by decide) 4
    have Xz11092 : EK [0, 5, 13] P Y11087 := X160.tr (Xy11090.mono (by decide))
    have h11093 := Xy11090.at h11085
    refine g_aload_n C dX8_walk_163 rfl 0 rfl ?_
    obtain ⟨b11094, e11095, h11096⟩ := Iy11089.fld (h11093) 3 0 0 rfl
    refine g_getR C fi_X8_28 rfl e11095 (h11093).1 (h11093).2 dX8_walk_164 ?_
    refine g_iload C dX8_walk_167 1 rfl ?_
    refine g_callVV (rest := []) C mv_X8_96 [.int v160_4] (s_X0_cut Iy11089 h11096.at) (h11096.at).1 (h11096.at).2 rfl rfl (by decide) (Nat.le_of_ble_eq_true rfl) (by decide) dX8_walk_169 (fun Y11098 h11099 => ?_)
    obtain ⟨Iy11100, Xy11101⟩ := h11099
    have q11102 := Xy11101.keep h11093 (by decide) 4
    have Xz11103 : EK [0, 5, 13] P Y11098 := Xz11092.tr (Xy11101.mono (by decide))
    have h11104 := Xy11101.at h11093
    refine g_aload_n C dX8_walk_172 rfl 0 rfl ?_
    obtain ⟨b11105, e11106, h11107⟩ := Iy11100.fld (h11104) 2 5 0 rfl
    refine g_getR C fi_X8_21 rfl e11106 (h11104).1 (h11104).2 dX8_walk_173 ?_
    refine g_iload C dX8_walk_176 2 rfl ?_
    refine g_callVV (rest := []) C mv_X8_99 [.int v160_5] (s_X5_cut Iy11100 h11107.at) (h11107.at).1 (h11107.at).2 rfl rfl (by decide) (Nat.le_of_ble_eq_true rfl) (by decide) dX8_walk_178 (fun Y11109 h11110 => ?_)
    obtain ⟨Iy11111, Xy11112⟩ := h11110
    have q11113 := Xy11112.keep h11104 (by decide) 4
    have Xz11114 : EK [0, 5, 13] P Y11109 := Xz11103.tr (Xy11112.mono (by decide))
    have h11115 := Xy11112.at h11104
    exact ret _ _ _ _ _ dX8_walk_181 (by decide) (by decide) ⟨Iy11111, Xz11114⟩
  have J44 : G E ({ frames := 10, cells := 0, slots := 0, locals := 640 } : Room) D cy 6 P 0 0 44 [(0, .ref a0), (1, .int a1), (2, .int a2), (3, .int a3)] [] := by
    refine g_iload_n C dX8_walk_44 rfl 1 rfl ?_
    refine g_aload_n C dX8_walk_45 rfl 0 rfl ?_
    refine g_getI C fi_X8_38 (by decide) (ha0).1 (ha0).2 dX8_walk_46 ?_
    have h11116 := I.rg (ha0) 4 rfl
    refine b_icmp_ge C 79 dX8_walk_49 (by decide) (fun h11117 => ?_) (fun h11117 => ?_)
    · have h11117 : (pI P a0 4).toInt ≤ a1.toInt := h11117
      exact ret _ _ _ _ _ dX8_walk_79 (by decide) (by decide) ⟨I, EK.rf⟩
    · have h11117 : a1.toInt < (pI P a0 4).toInt := h11117
      refine g_iload_n C dX8_walk_52 rfl 1 rfl ?_
      refine g_bipush (v := 11) C dX8_walk_53 (by decide) ?_
      refine b_icmp_ge C 79 dX8_walk_55 (by decide) (fun h11118 => ?_) (fun h11118 => ?_)
      · have h11118 : 11 ≤ a1.toInt := h11118
        omega
      · have h11118 : a1.toInt < 11 := h11118
        refine g_aload_n C dX8_walk_58 rfl 0 rfl ?_
        obtain ⟨b11119, e11120, h11121⟩ := I.fld (ha0) 3 0 0 rfl
        refine g_getR C fi_X8_28 rfl e11120 (ha0).1 (ha0).2 dX8_walk_59 ?_
        refine g_getI C fi_X8_77 (by decide) (h11121.at).1 (h11121.at).2 dX8_walk_62 ?_
        have h11122 := I.rg (h11121.at) 2 rfl
        refine g_aload_n C dX8_walk_65 rfl 0 rfl ?_
        refine g_getI C fi_X8_38 (by decide) (ha0).1 (ha0).2 dX8_walk_66 ?_
        refine s_iadd C dX8_walk_69 (by show -2147483648 ≤ (pI P b11119 2).toInt + (pI P a0 4).toInt ∧ (pI P b11119 2).toInt + (pI P a0 4).toInt ≤ 2147483647; omega) (fun z11123 h11124 => ?_)
        have h11124 : z11123.toInt = (pI P b11119 2).toInt + (pI P a0 4).toInt := h11124
        refine g_iload_n C dX8_walk_70 rfl 1 rfl ?_
        refine s_isub C dX8_walk_71 (by show -2147483648 ≤ z11123.toInt - a1.toInt ∧ z11123.toInt - a1.toInt ≤ 2147483647; omega) (fun z11125 h11126 => ?_)
        have h11126 : z11125.toInt = z11123.toInt - a1.toInt := h11126
        refine g_aload_n C dX8_walk_72 rfl 0 rfl ?_
        refine g_getI C fi_X8_51 (by decide) (ha0).1 (ha0).2 dX8_walk_73 ?_
        have h11127 := I.rg (ha0) 6 rfl
        refine b_icmp_ge C 80 dX8_walk_76 (by decide) (fun h11128 => ?_) (fun h11128 => ?_)
        · have h11128 : (pI P a0 6).toInt ≤ z11125.toInt := h11128
          refine g_aload_n C dX8_walk_80 rfl 0 rfl ?_
          refine g_iload_n C dX8_walk_81 rfl 1 rfl ?_
          refine g_iconst (v := 1) C dX8_walk_82 (by decide) ?_
          refine s_iadd C dX8_walk_83 (by show -2147483648 ≤ a1.toInt + 1 ∧ a1.toInt + 1 ≤ 2147483647; omega) (fun z11129 h11130 => ?_)
          have h11130 : z11129.toInt = a1.toInt + 1 := h11130
          refine g_iload_n C dX8_walk_84 rfl 2 rfl ?_
          refine g_iload_n C dX8_walk_85 rfl 3 rfl ?_
          refine g_callVV (rest := []) C mv_X8_73 [.int z11129, .int a2, .int a3] (s_X8_walk_L6 I ha0 (by omega) (by omega)) (ha0).1 (ha0).2 rfl rfl (by decide) (Nat.le_of_ble_eq_true rfl) (by decide) dX8_walk_86 (fun Y11132 h11133 => ?_)
          obtain ⟨Iy11134, Xy11135⟩ := h11133
          have q11136 := Xy11135.keep ha0 (by decide) 4
          have q11137 := Xy11135.keep ha0 (by decide) 6
          have Xz11138 : EK [0, 5, 13] P Y11132 := Xy11135.mono (by decide)
          have h11139 := Xy11135.at ha0
          refine g_aload_n C dX8_walk_89 rfl 0 rfl ?_
          obtain ⟨b11140, e11141, h11142⟩ := Iy11134.fld (h11139) 3 0 0 rfl
          refine g_getR C fi_X8_28 rfl e11141 (h11139).1 (h11139).2 dX8_walk_90 ?_
          refine g_getI C fi_X8_77 (by decide) (h11142.at).1 (h11142.at).2 dX8_walk_93 ?_
          have h11143 := Iy11134.rg (h11142.at) 2 rfl
          refine g_topi (fun z11144 h11145 => ?_)
          have h11145 : z11144.toInt = (pI Y11132 b11140 2).toInt := congrArg Int32.toInt h11145
          refine g_istore (lv' := [(4, .int z11144), (0, .ref a0), (1, .int a1), (2, .int a2), (3, .int a3)]) C dX8_walk_96 (by decide) rfl ?_
          refine g_aload_n C dX8_walk_98 rfl 1 rfl ?_
          obtain ⟨b11146, e11147, h11148⟩ := Iy11134.fld (h11139) 2 5 0 rfl
          refine g_getR C fi_X8_21 rfl e11147 (h11139).1 (h11139).2 dX8_walk_99 ?_
          refine g_getI C fi_X8_84 (by decide) (h11148.at).1 (h11148.at).2 dX8_walk_102 ?_
          have h11149 := Iy11134.rg (h11148.at) 4 rfl
          refine g_topi (fun z11150 h11151 => ?_)
          have h11151 : z11150.toInt = (pI Y11132 b11146 4).toInt := congrArg Int32.toInt h11151
          refine g_istore (lv' := [(5, .int z11150), (4, .int z11144), (0, .ref a0), (1, .int a1), (2, .int a2), (3, .int a3)]) C dX8_walk_105 (by decide) rfl ?_
          refine g_aload_n C dX8_walk_107 rfl 2 rfl ?_
          refine g_getR C fi_X8_28 rfl e11141 (h11139).1 (h11139).2 dX8_walk_108 ?_
          refine g_aload_n C dX8_walk_111 rfl 2 rfl ?_
          obtain ⟨b11152, e11153, h11154⟩ := Iy11134.fld (h11139) 1 13 11 rfl
          refine g_getR C fi_X8_15 rfl e11153 (h11139).1 (h11139).2 dX8_walk_112 ?_
          refine g_iload_n C dX8_walk_115 rfl 3 rfl ?_
          refine g_iald (j := (a1.toInt.toNat)) C h11154.1 h11154.2.1 (ix_in h11154.2.2 (by omega)) dX8_walk_116 ?_
          refine g_topi (fun z11155 _ => ?_)
          refine g_callVV (rest := []) C mv_X8_87 [.int z11155] (s_X0_add Iy11134 h11142.at) (h11142.at).1 (h11142.at).2 rfl rfl (by decide) (Nat.le_of_ble_eq_true rfl) (by decide) dX8_walk_117 (fun Y11157 h11158 => ?_)
          obtain ⟨Iy11159, Xy11160⟩ := h11158
          have q11161 := Xy11160.keep h11139 (by decide) 4
          have q11162 := Xy11160.keep h11139 (by decide) 6
          have q11163 := Xy11160.keep (h11148.at) (by decide) 4
          have Xz11164 : EK [0, 5, 13] P Y11157 := Xz11138.tr (Xy11160.mono (by decide))
          have h11165 := Xy11160.at h11139
          refine g_aload_n C dX8_walk_120 rfl 2 rfl ?_
          obtain ⟨b11166, e11167, h11168⟩ := Iy11159.fld (h11165) 2 5 0 rfl
          refine g_getR C fi_X8_21 rfl e11167 (h11165).1 (h11165).2 dX8_walk_121 ?_
          refine g_aload_n C dX8_walk_124 rfl 2 rfl ?_
          obtain ⟨b11169, e11170, h11171⟩ := Iy11159.fld (h11165) 1 13 11 rfl
          refine g_getR C fi_X8_15 rfl e11170 (h11165).1 (h11165).2 dX8_walk_125 ?_
          refine g_iload_n C dX8_walk_128 rfl 3 rfl ?_
          refine g_iald (j := (a1.toInt.toNat)) C h11171.1 h11171.2.1 (ix_in h11171.2.2 (by omega)) dX8_walk_129 ?_
          refine g_topi (fun z11172 _ => ?_)
          refine g_iload_n C dX8_walk_130 rfl 3 rfl ?_
          refine g_callVV (rest := []) C mv_X8_91 [.int z11172, .int a1] (s_X5_add Iy11159 h11168.at) (h11168.at).1 (h11168.at).2 rfl rfl (by decide) (Nat.le_of_ble_eq_true rfl) (by decide) dX8_walk_131 (fun Y11174 h11175 => ?_)
          obtain ⟨Iy11176, Xy11177⟩ := h11175
          have q11178 := Xy11177.keep h11165 (by decide) 4
          have q11179 := Xy11177.keep h11165 (by decide) 6
          have Xz11180 : EK [0, 5, 13] P Y11174 := Xz11164.tr (Xy11177.mono (by decide))
          have h11181 := Xy11177.at h11165
          refine g_aload_n C dX8_walk_134 rfl 2 rfl ?_
          refine g_iload_n C dX8_walk_135 rfl 3 rfl ?_
          refine g_iconst (v := 1) C dX8_walk_136 (by decide) ?_
          refine s_iadd C dX8_walk_137 (by show -2147483648 ≤ a1.toInt + 1 ∧ a1.toInt + 1 ≤ 2147483647; omega) (fun z11182 h11183 => ?_)
          have h11183 : z11182.toInt = a1.toInt + 1 := h11183
          refine g_iload_n C dX8_walk_138 rfl 4 rfl ?_
          refine g_iconst (v := 1) C dX8_walk_139 (by decide) ?_
          refine s_iadd C dX8_walk_140 (by show -2147483648 ≤ a2.toInt + 1 ∧ a2.toInt + 1 ≤ 2147483647; omega) (fun z11184 h11185 => ?_)
          have h11185 : z11184.toInt = a2.toInt + 1 := h11185
          refine g_aload_n C dX8_walk_141 rfl 2 rfl ?_
          refine g_getI C fi_X8_42 (by decide) (h11181).1 (h11181).2 dX8_walk_142 ?_
          have u11187 := ti_rng (pI Y11174 a0 5)
          refine b_if_ne C 159 dX8_walk_145 (by decide) (fun h11186 => ?_) (fun h11186 => ?_)
          · have h11186 : (pI Y11174 a0 5).toInt ≠ 0 := ti_ne h11186
            refine g_iload_n C dX8_walk_159 rfl 5 rfl ?_
            refine g_lv (lv' := [(0, .ref a0), (4, .int z11144), (5, .int z11150)]) [2, 1, 0] rfl ?_
            exact J160 Y11174 z11144 z11150 a3 z11184 z11182 Iy11176 Xz11180 (by omega) (by omega) (by omega) (by omega) (by omega)
          · have h11186 : (pI Y11174 a0 5).toInt = 0 := congrArg Int32.toInt h11186
            refine g_aload_n C dX8_walk_148 rfl 2 rfl ?_
            obtain ⟨b11188, e11189, h11190⟩ := Iy11176.fld (h11181) 2 5 0 rfl
            refine g_getR C fi_X8_21 rfl e11189 (h11181).1 (h11181).2 dX8_walk_149 ?_
            refine g_iload_n C dX8_walk_152 rfl 5 rfl ?_
            refine g_callVI (rest := [.int z11184, .int z11182, .ref a0]) C mv_X8_93 [.int a3] (s_X5_spread Iy11176 h11190.at) (h11190.at).1 (h11190.at).2 rfl rfl (by decide) (Nat.le_of_ble_eq_true rfl) (by decide) dX8_walk_153 (fun r11191 Y11192 h11193 => ?_)
            obtain ⟨rfl, h11193⟩ := h11193
            have h11193 : True := h11193
            refine g_goto C 160 dX8_walk_156 (by decide) ?_
            refine g_lv (lv' := [(0, .ref a0), (4, .int z11144), (5, .int z11150)]) [2, 1, 0] rfl ?_
            exact J160 Y11174 z11144 z11150 r11191 z11184 z11182 Iy11176 Xz11180 (by omega) (by omega) (by omega) (by omega) (by omega)
        · have h11128 : z11125.toInt < (pI P a0 6).toInt := h11128
          exact ret _ _ _ _ _ dX8_walk_79 (by decide) (by decide) ⟨I, EK.rf⟩
  have J32 : G E ({ frames := 10, cells := 0, slots := 0, locals := 640 } : Room) D cy 6 P 0 0 32 [(0, .ref a0), (1, .int a1), (2, .int a2)] [] := by
    refine g_aload_n C dX8_walk_32 rfl 0 rfl ?_
    refine g_aload_n C dX8_walk_33 rfl 0 rfl ?_
    refine g_getI C fi_X8_38 (by decide) (ha0).1 (ha0).2 dX8_walk_34 ?_
    have h11194 := I.rg (ha0) 4 rfl
    refine g_iload_n C dX8_walk_37 rfl 1 rfl ?_
    refine s_isub C dX8_walk_38 (by show -2147483648 ≤ (pI P a0 4).toInt - a1.toInt ∧ (pI P a0 4).toInt - a1.toInt ≤ 2147483647; omega) (fun z11195 h11196 => ?_)
    have h11196 : z11195.toInt = (pI P a0 4).toInt - a1.toInt := h11196
    refine g_iload_n C dX8_walk_39 rfl 2 rfl ?_
    refine g_callVV (rest := []) C mv_X8_80 [.int z11195, .int a2] (s_X8_addAllWith I ha0 (by omega) (by omega)) (ha0).1 (ha0).2 rfl rfl (by decide) (Nat.le_of_ble_eq_true rfl) (by decide) dX8_walk_40 (fun Y11198 h11199 => ?_)
    obtain ⟨Iy11200, Xy11201⟩ := h11199
    have q11202 := Xy11201.keep ha0 (by decide) 4
    have Xz11203 : EK [0, 5, 13] P Y11198 := Xy11201.mono (by decide)
    have h11204 := Xy11201.at ha0
    exact ret _ _ _ _ _ dX8_walk_43 (by decide) (by decide) ⟨Iy11200, Xz11203⟩
  refine g_aload_n C dX8_walk_0 rfl 0 rfl ?_
  refine g_getI C fi_X8_42 (by decide) (ha0).1 (ha0).2 dX8_walk_1 ?_
  have u11206 := ti_rng (pI P a0 5)
  refine b_if_ne C 18 dX8_walk_4 (by decide) (fun h11205 => ?_) (fun h11205 => ?_)
  · have h11205 : (pI P a0 5).toInt ≠ 0 := ti_ne h11205
    refine g_aload_n C dX8_walk_18 rfl 0 rfl ?_
    obtain ⟨b11207, e11208, h11209⟩ := I.fld (ha0) 3 0 0 rfl
    refine g_getR C fi_X8_28 rfl e11208 (ha0).1 (ha0).2 dX8_walk_19 ?_
    refine g_getI C fi_X8_77 (by decide) (h11209.at).1 (h11209.at).2 dX8_walk_22 ?_
    have h11210 := I.rg (h11209.at) 2 rfl
    refine g_aload_n C dX8_walk_25 rfl 0 rfl ?_
    refine g_getI C fi_X8_51 (by decide) (ha0).1 (ha0).2 dX8_walk_26 ?_
    have h11211 := I.rg (ha0) 6 rfl
    refine b_icmp_ne C 44 dX8_walk_29 (by decide) (fun h11212 => ?_) (fun h11212 => ?_)
    · have h11212 : (pI P b11207 2).toInt ≠ (pI P a0 6).toInt := ti_ne h11212
      exact J44 
    · have h11212 : (pI P b11207 2).toInt = (pI P a0 6).toInt := congrArg Int32.toInt h11212
      refine g_lv (lv' := [(0, .ref a0), (1, .int a1), (2, .int a2)]) [0, 1, 2] rfl ?_
      exact J32 
  · have h11205 : (pI P a0 5).toInt = 0 := congrArg Int32.toInt h11205
    refine g_iload_n C dX8_walk_7 rfl 3 rfl ?_
    refine g_aload_n C dX8_walk_8 rfl 0 rfl ?_
    refine g_getI C fi_X8_56 (by decide) (ha0).1 (ha0).2 dX8_walk_9 ?_
    have u11214 := ti_rng a3
    have u11215 := ti_rng (pI P a0 7)
    refine b_icmp_ne C 44 dX8_walk_12 (by decide) (fun h11213 => ?_) (fun h11213 => ?_)
    · have h11213 : a3.toInt ≠ (pI P a0 7).toInt := ti_ne h11213
      exact J44 
    · have h11213 : a3.toInt = (pI P a0 7).toInt := congrArg Int32.toInt h11213
      refine g_goto C 32 dX8_walk_15 (by decide) ?_
      refine g_lv (lv' := [(0, .ref a0), (1, .int a1), (2, .int a2)]) [0, 1, 2] rfl ?_
      exact J32 
set_option maxHeartbeats 4000000 in
set_option maxRecDepth 100000 in
theorem s_X8_walk_L8 {P : PP} {a0 : Nat} {a1 : Int32} {a2 : Int32} {a3 : Int32} (I : IV P) (ha0 : At P a0 8) (ha1 : 3 ≤ a1.toInt ∧ a1.toInt ≤ 3) (ha2 : 0 ≤ a2.toInt ∧ a2.toInt ≤ 3) : CtrV yX8_walk cX8_walk 6 none ({ frames := 11, cells := 0, slots := 0, locals := 704 } : Room) 0 0 P [.ref a0, .int a1, .int a2, .int a3] (fun P2 => IV P2 ∧ EK [0, 5, 13] P P2) := by
  refine enV (lv := [(0, .ref a0), (1, .int a1), (2, .int a2), (3, .int a3)]) (by decide) (Nat.le_of_ble_eq_true rfl) rfl (fun E D cy C Ci0 ret => ?_)
  have J160 : ∀ (P160 : PP) (v160_4 : Int32) (v160_5 : Int32) (v160_s0 : Int32) (v160_s1 : Int32) (v160_s2 : Int32), (IV P160) → (EK [0, 5, 13] P P160) → (0 ≤ v160_4.toInt ∧ v160_4.toInt ≤ 20) → (0 ≤ v160_5.toInt ∧ v160_5.toInt ≤ 44) → (1 ≤ v160_s1.toInt ∧ v160_s1.toInt ≤ 4) → (4 ≤ v160_s2.toInt ∧ v160_s2.toInt ≤ 4) → (4 ≤ (pI P160 a0 4).toInt ∧ (pI P160 a0 4).toInt ≤ 11) → G E ({ frames := 11, cells := 0, slots := 0, locals := 704 } : Room) D cy 6 P160 0 0 160 [(0, .ref a0), (4, .int v160_4), (5, .int v160_5)] [.int v160_s0, .int v160_s1, .int v160_s2, .ref a0] := by
    intro P160 v160_4 v160_5 v160_s0 v160_s1 v160_s2 I160 X160 hv160_4 hv160_5 hv160_s1 hv160_s2 hq160_0
    have h11347 := X160.at ha0
    refine g_callVV (rest := []) C mv_X8_73 [.int v160_s2, .int v160_s1, .int v160_s0] (s_X8_walk_L7 I160 h11347 (by omega) (by omega)) (h11347).1 (h11347).2 rfl rfl (by decide) (Nat.le_of_ble_eq_true rfl) (by decide) dX8_walk_160 (fun Y11349 h11350 => ?_)
    obtain ⟨Iy11351, Xy11352⟩ := h11350
    have q11353 := Xy11352.keep h11347 (by decide) 4
    have Xz11354 : EK [0, 5, 13] P Y11349 := X160.tr (Xy11352.mono (by decide))
    have h11355 := Xy11352.at h11347
    refine g_aload_n C dX8_walk_163 rfl 0 rfl ?_
    obtain ⟨b11356, e11357, h11358⟩ := Iy11351.fld (h11355) 3 0 0 rfl
    refine g_getR C fi_X8_28 rfl e11357 (h11355).1 (h11355).2 dX8_walk_164 ?_
    refine g_iload C dX8_walk_167 1 rfl ?_
    refine g_callVV (rest := []) C mv_X8_96 [.int v160_4] (s_X0_cut Iy11351 h11358.at) (h11358.at).1 (h11358.at).2 rfl rfl (by decide) (Nat.le_of_ble_eq_true rfl) (by decide) dX8_walk_169 (fun Y11360 h11361 => ?_)
    obtain ⟨Iy11362, Xy11363⟩ := h11361
    have q11364 := Xy11363.keep h11355 (by decide) 4
    have Xz11365 : EK [0, 5, 13] P Y11360 := Xz11354.tr (Xy11363.mono (by decide))
    have h11366 := Xy11363.at h11355
    refine g_aload_n C dX8_walk_172 rfl 0 rfl ?_
    obtain ⟨b11367, e11368, h11369⟩ := Iy11362.fld (h11366) 2 5 0 rfl
    refine g_getR C fi_X8_21 rfl e11368 (h11366).1 (h11366).2 dX8_walk_173 ?_
    refine g_iload C dX8_walk_176 2 rfl ?_
    refine g_callVV (rest := []) C mv_X8_99 [.int v160_5] (s_X5_cut Iy11362 h11369.at) (h11369.at).1 (h11369.at).2 rfl rfl (by decide) (Nat.le_of_ble_eq_true rfl) (by decide) dX8_walk_178 (fun Y11371 h11372 => ?_)
    obtain ⟨Iy11373, Xy11374⟩ := h11372
    have q11375 := Xy11374.keep h11366 (by decide) 4
    have Xz11376 : EK [0, 5, 13] P Y11371 := Xz11365.tr (Xy11374.mono (by decide))
    have h11377 := Xy11374.at h11366
    exact ret _ _ _ _ _ dX8_walk_181 (by decide) (by decide) ⟨Iy11373, Xz11376⟩
  have J44 : G E ({ frames := 11, cells := 0, slots := 0, locals := 704 } : Room) D cy 6 P 0 0 44 [(0, .ref a0), (1, .int a1), (2, .int a2), (3, .int a3)] [] := by
    refine g_iload_n C dX8_walk_44 rfl 1 rfl ?_
    refine g_aload_n C dX8_walk_45 rfl 0 rfl ?_
    refine g_getI C fi_X8_38 (by decide) (ha0).1 (ha0).2 dX8_walk_46 ?_
    have h11378 := I.rg (ha0) 4 rfl
    refine b_icmp_ge C 79 dX8_walk_49 (by decide) (fun h11379 => ?_) (fun h11379 => ?_)
    · have h11379 : (pI P a0 4).toInt ≤ a1.toInt := h11379
      exact ret _ _ _ _ _ dX8_walk_79 (by decide) (by decide) ⟨I, EK.rf⟩
    · have h11379 : a1.toInt < (pI P a0 4).toInt := h11379
      refine g_iload_n C dX8_walk_52 rfl 1 rfl ?_
      refine g_bipush (v := 11) C dX8_walk_53 (by decide) ?_
      refine b_icmp_ge C 79 dX8_walk_55 (by decide) (fun h11380 => ?_) (fun h11380 => ?_)
      · have h11380 : 11 ≤ a1.toInt := h11380
        omega
      · have h11380 : a1.toInt < 11 := h11380
        refine g_aload_n C dX8_walk_58 rfl 0 rfl ?_
        obtain ⟨b11381, e11382, h11383⟩ := I.fld (ha0) 3 0 0 rfl
        refine g_getR C fi_X8_28 rfl e11382 (ha0).1 (ha0).2 dX8_walk_59 ?_
        refine g_getI C fi_X8_77 (by decide) (h11383.at).1 (h11383.at).2 dX8_walk_62 ?_
        have h11384 := I.rg (h11383.at) 2 rfl
        refine g_aload_n C dX8_walk_65 rfl 0 rfl ?_
        refine g_getI C fi_X8_38 (by decide) (ha0).1 (ha0).2 dX8_walk_66 ?_
        refine s_iadd C dX8_walk_69 (by show -2147483648 ≤ (pI P b11381 2).toInt + (pI P a0 4).toInt ∧ (pI P b11381 2).toInt + (pI P a0 4).toInt ≤ 2147483647; omega) (fun z11385 h11386 => ?_)
        have h11386 : z11385.toInt = (pI P b11381 2).toInt + (pI P a0 4).toInt := h11386
        refine g_iload_n C dX8_walk_70 rfl 1 rfl ?_
        refine s_isub C dX8_walk_71 (by show -2147483648 ≤ z11385.toInt - a1.toInt ∧ z11385.toInt - a1.toInt ≤ 2147483647; omega) (fun z11387 h11388 => ?_)
        have h11388 : z11387.toInt = z11385.toInt - a1.toInt := h11388
        refine g_aload_n C dX8_walk_72 rfl 0 rfl ?_
        refine g_getI C fi_X8_51 (by decide) (ha0).1 (ha0).2 dX8_walk_73 ?_
        have h11389 := I.rg (ha0) 6 rfl
        refine b_icmp_ge C 80 dX8_walk_76 (by decide) (fun h11390 => ?_) (fun h11390 => ?_)
        · have h11390 : (pI P a0 6).toInt ≤ z11387.toInt := h11390
          refine g_aload_n C dX8_walk_80 rfl 0 rfl ?_
          refine g_iload_n C dX8_walk_81 rfl 1 rfl ?_
          refine g_iconst (v := 1) C dX8_walk_82 (by decide) ?_
          refine s_iadd C dX8_walk_83 (by show -2147483648 ≤ a1.toInt + 1 ∧ a1.toInt + 1 ≤ 2147483647; omega) (fun z11391 h11392 => ?_)
          have h11392 : z11391.toInt = a1.toInt + 1 := h11392
          refine g_iload_n C dX8_walk_84 rfl 2 rfl ?_
          refine g_iload_n C dX8_walk_85 rfl 3 rfl ?_
          refine g_callVV (rest := []) C mv_X8_73 [.int z11391, .int a2, .int a3] (s_X8_walk_L7 I ha0 (by omega) (by omega)) (ha0).1 (ha0).2 rfl rfl (by decide) (Nat.le_of_ble_eq_true rfl) (by decide) dX8_walk_86 (fun Y11394 h11395 => ?_)
          obtain ⟨Iy11396, Xy11397⟩ := h11395
          have q11398 := Xy11397.keep ha0 (by decide) 4
          have q11399 := Xy11397.keep ha0 (by decide) 6
          have Xz11400 : EK [0, 5, 13] P Y11394 := Xy11397.mono (by decide)
          have h11401 := Xy11397.at ha0
          refine g_aload_n C dX8_walk_89 rfl 0 rfl ?_
          obtain ⟨b11402, e11403, h11404⟩ := Iy11396.fld (h11401) 3 0 0 rfl
          refine g_getR C fi_X8_28 rfl e11403 (h11401).1 (h11401).2 dX8_walk_90 ?_
          refine g_getI C fi_X8_77 (by decide) (h11404.at).1 (h11404.at).2 dX8_walk_93 ?_
          have h11405 := Iy11396.rg (h11404.at) 2 rfl
          refine g_topi (fun z11406 h11407 => ?_)
          have h11407 : z11406.toInt = (pI Y11394 b11402 2).toInt := congrArg Int32.toInt h11407
          refine g_istore (lv' := [(4, .int z11406), (0, .ref a0), (1, .int a1), (2, .int a2), (3, .int a3)]) C dX8_walk_96 (by decide) rfl ?_
          refine g_aload_n C dX8_walk_98 rfl 1 rfl ?_
          obtain ⟨b11408, e11409, h11410⟩ := Iy11396.fld (h11401) 2 5 0 rfl
          refine g_getR C fi_X8_21 rfl e11409 (h11401).1 (h11401).2 dX8_walk_99 ?_
          refine g_getI C fi_X8_84 (by decide) (h11410.at).1 (h11410.at).2 dX8_walk_102 ?_
          have h11411 := Iy11396.rg (h11410.at) 4 rfl
          refine g_topi (fun z11412 h11413 => ?_)
          have h11413 : z11412.toInt = (pI Y11394 b11408 4).toInt := congrArg Int32.toInt h11413
          refine g_istore (lv' := [(5, .int z11412), (4, .int z11406), (0, .ref a0), (1, .int a1), (2, .int a2), (3, .int a3)]) C dX8_walk_105 (by decide) rfl ?_
          refine g_aload_n C dX8_walk_107 rfl 2 rfl ?_
          refine g_getR C fi_X8_28 rfl e11403 (h11401).1 (h11401).2 dX8_walk_108 ?_
          refine g_aload_n C dX8_walk_111 rfl 2 rfl ?_
          obtain ⟨b11414, e11415, h11416⟩ := Iy11396.fld (h11401) 1 13 11 rfl
          refine g_getR C fi_X8_15 rfl e11415 (h11401).1 (h11401).2 dX8_walk_112 ?_
          refine g_iload_n C dX8_walk_115 rfl 3 rfl ?_
          refine g_iald (j := (a1.toInt.toNat)) C h11416.1 h11416.2.1 (ix_in h11416.2.2 (by omega)) dX8_walk_116 ?_
          refine g_topi (fun z11417 _ => ?_)
          refine g_callVV (rest := []) C mv_X8_87 [.int z11417] (s_X0_add Iy11396 h11404.at) (h11404.at).1 (h11404.at).2 rfl rfl (by decide) (Nat.le_of_ble_eq_true rfl) (by decide) dX8_walk_117 (fun Y11419 h11420 => ?_)
          obtain ⟨Iy11421, Xy11422⟩ := h11420
          have q11423 := Xy11422.keep h11401 (by decide) 4
          have q11424 := Xy11422.keep h11401 (by decide) 6
          have q11425 := Xy11422.keep (h11410.at) (by decide) 4
          have Xz11426 : EK [0, 5, 13] P Y11419 := Xz11400.tr (Xy11422.mono (by decide))
          have h11427 := Xy11422.at h11401
          refine g_aload_n C dX8_walk_120 rfl 2 rfl ?_
          obtain ⟨b11428, e11429, h11430⟩ := Iy11421.fld (h11427) 2 5 0 rfl
          refine g_getR C fi_X8_21 rfl e11429 (h11427).1 (h11427).2 dX8_walk_121 ?_
          refine g_aload_n C dX8_walk_124 rfl 2 rfl ?_
          obtain ⟨b11431, e11432, h11433⟩ := Iy11421.fld (h11427) 1 13 11 rfl
          refine g_getR C fi_X8_15 rfl e11432 (h11427).1 (h11427).2 dX8_walk_125 ?_
          refine g_iload_n C dX8_walk_128 rfl 3 rfl ?_
          refine g_iald (j := (a1.toInt.toNat)) C h11433.1 h11433.2.1 (ix_in h11433.2.2 (by omega)) dX8_walk_129 ?_
          refine g_topi (fun z11434 _ => ?_)
          refine g_iload_n C dX8_walk_130 rfl 3 rfl ?_
          refine g_callVV (rest := []) C mv_X8_91 [.int z11434, .int a1] (s_X5_add Iy11421 h11430.at) (h11430.at).1 (h11430.at).2 rfl rfl (by decide) (Nat.le_of_ble_eq_true rfl) (by decide) dX8_walk_131 (fun Y11436 h11437 => ?_)
          obtain ⟨Iy11438, Xy11439⟩ := h11437
          have q11440 := Xy11439.keep h11427 (by decide) 4
          have q11441 := Xy11439.keep h11427 (by decide) 6
          have Xz11442 : EK [0, 5, 13] P Y11436 := Xz11426.tr (Xy11439.mono (by decide))
          have h11443 := Xy11439.at h11427
          refine g_aload_n C dX8_walk_134 rfl 2 rfl ?_
          refine g_iload_n C dX8_walk_135 rfl 3 rfl ?_
          refine g_iconst (v := 1) C dX8_walk_136 (by decide) ?_
          refine s_iadd C dX8_walk_137 (by show -2147483648 ≤ a1.toInt + 1 ∧ a1.toInt + 1 ≤ 2147483647; omega) (fun z11444 h11445 => ?_)
          have h11445 : z11444.toInt = a1.toInt + 1 := h11445
          refine g_iload_n C dX8_walk_138 rfl 4 rfl ?_
          refine g_iconst (v := 1) C dX8_walk_139 (by decide) ?_
          refine s_iadd C dX8_walk_140 (by show -2147483648 ≤ a2.toInt + 1 ∧ a2.toInt + 1 ≤ 2147483647; omega) (fun z11446 h11447 => ?_)
          have h11447 : z11446.toInt = a2.toInt + 1 := h11447
          refine g_aload_n C dX8_walk_141 rfl 2 rfl ?_
          refine g_getI C fi_X8_42 (by decide) (h11443).1 (h11443).2 dX8_walk_142 ?_
          have u11449 := ti_rng (pI Y11436 a0 5)
          refine b_if_ne C 159 dX8_walk_145 (by decide) (fun h11448 => ?_) (fun h11448 => ?_)
          · have h11448 : (pI Y11436 a0 5).toInt ≠ 0 := ti_ne h11448
            refine g_iload_n C dX8_walk_159 rfl 5 rfl ?_
            refine g_lv (lv' := [(0, .ref a0), (4, .int z11406), (5, .int z11412)]) [2, 1, 0] rfl ?_
            exact J160 Y11436 z11406 z11412 a3 z11446 z11444 Iy11438 Xz11442 (by omega) (by omega) (by omega) (by omega) (by omega)
          · have h11448 : (pI Y11436 a0 5).toInt = 0 := congrArg Int32.toInt h11448
            refine g_aload_n C dX8_walk_148 rfl 2 rfl ?_
            obtain ⟨b11450, e11451, h11452⟩ := Iy11438.fld (h11443) 2 5 0 rfl
            refine g_getR C fi_X8_21 rfl e11451 (h11443).1 (h11443).2 dX8_walk_149 ?_
            refine g_iload_n C dX8_walk_152 rfl 5 rfl ?_
            refine g_callVI (rest := [.int z11446, .int z11444, .ref a0]) C mv_X8_93 [.int a3] (s_X5_spread Iy11438 h11452.at) (h11452.at).1 (h11452.at).2 rfl rfl (by decide) (Nat.le_of_ble_eq_true rfl) (by decide) dX8_walk_153 (fun r11453 Y11454 h11455 => ?_)
            obtain ⟨rfl, h11455⟩ := h11455
            have h11455 : True := h11455
            refine g_goto C 160 dX8_walk_156 (by decide) ?_
            refine g_lv (lv' := [(0, .ref a0), (4, .int z11406), (5, .int z11412)]) [2, 1, 0] rfl ?_
            exact J160 Y11436 z11406 z11412 r11453 z11446 z11444 Iy11438 Xz11442 (by omega) (by omega) (by omega) (by omega) (by omega)
        · have h11390 : z11387.toInt < (pI P a0 6).toInt := h11390
          exact ret _ _ _ _ _ dX8_walk_79 (by decide) (by decide) ⟨I, EK.rf⟩
  have J32 : G E ({ frames := 11, cells := 0, slots := 0, locals := 704 } : Room) D cy 6 P 0 0 32 [(0, .ref a0), (1, .int a1), (2, .int a2)] [] := by
    refine g_aload_n C dX8_walk_32 rfl 0 rfl ?_
    refine g_aload_n C dX8_walk_33 rfl 0 rfl ?_
    refine g_getI C fi_X8_38 (by decide) (ha0).1 (ha0).2 dX8_walk_34 ?_
    have h11456 := I.rg (ha0) 4 rfl
    refine g_iload_n C dX8_walk_37 rfl 1 rfl ?_
    refine s_isub C dX8_walk_38 (by show -2147483648 ≤ (pI P a0 4).toInt - a1.toInt ∧ (pI P a0 4).toInt - a1.toInt ≤ 2147483647; omega) (fun z11457 h11458 => ?_)
    have h11458 : z11457.toInt = (pI P a0 4).toInt - a1.toInt := h11458
    refine g_iload_n C dX8_walk_39 rfl 2 rfl ?_
    refine g_callVV (rest := []) C mv_X8_80 [.int z11457, .int a2] (s_X8_addAllWith I ha0 (by omega) (by omega)) (ha0).1 (ha0).2 rfl rfl (by decide) (Nat.le_of_ble_eq_true rfl) (by decide) dX8_walk_40 (fun Y11460 h11461 => ?_)
    obtain ⟨Iy11462, Xy11463⟩ := h11461
    have q11464 := Xy11463.keep ha0 (by decide) 4
    have Xz11465 : EK [0, 5, 13] P Y11460 := Xy11463.mono (by decide)
    have h11466 := Xy11463.at ha0
    exact ret _ _ _ _ _ dX8_walk_43 (by decide) (by decide) ⟨Iy11462, Xz11465⟩
  refine g_aload_n C dX8_walk_0 rfl 0 rfl ?_
  refine g_getI C fi_X8_42 (by decide) (ha0).1 (ha0).2 dX8_walk_1 ?_
  have u11468 := ti_rng (pI P a0 5)
  refine b_if_ne C 18 dX8_walk_4 (by decide) (fun h11467 => ?_) (fun h11467 => ?_)
  · have h11467 : (pI P a0 5).toInt ≠ 0 := ti_ne h11467
    refine g_aload_n C dX8_walk_18 rfl 0 rfl ?_
    obtain ⟨b11469, e11470, h11471⟩ := I.fld (ha0) 3 0 0 rfl
    refine g_getR C fi_X8_28 rfl e11470 (ha0).1 (ha0).2 dX8_walk_19 ?_
    refine g_getI C fi_X8_77 (by decide) (h11471.at).1 (h11471.at).2 dX8_walk_22 ?_
    have h11472 := I.rg (h11471.at) 2 rfl
    refine g_aload_n C dX8_walk_25 rfl 0 rfl ?_
    refine g_getI C fi_X8_51 (by decide) (ha0).1 (ha0).2 dX8_walk_26 ?_
    have h11473 := I.rg (ha0) 6 rfl
    refine b_icmp_ne C 44 dX8_walk_29 (by decide) (fun h11474 => ?_) (fun h11474 => ?_)
    · have h11474 : (pI P b11469 2).toInt ≠ (pI P a0 6).toInt := ti_ne h11474
      exact J44 
    · have h11474 : (pI P b11469 2).toInt = (pI P a0 6).toInt := congrArg Int32.toInt h11474
      refine g_lv (lv' := [(0, .ref a0), (1, .int a1), (2, .int a2)]) [0, 1, 2] rfl ?_
      exact J32 
  · have h11467 : (pI P a0 5).toInt = 0 := congrArg Int32.toInt h11467
    refine g_iload_n C dX8_walk_7 rfl 3 rfl ?_
    refine g_aload_n C dX8_walk_8 rfl 0 rfl ?_
    refine g_getI C fi_X8_56 (by decide) (ha0).1 (ha0).2 dX8_walk_9 ?_
    have u11476 := ti_rng a3
    have u11477 := ti_rng (pI P a0 7)
    refine b_icmp_ne C 44 dX8_walk_12 (by decide) (fun h11475 => ?_) (fun h11475 => ?_)
    · have h11475 : a3.toInt ≠ (pI P a0 7).toInt := ti_ne h11475
      exact J44 
    · have h11475 : a3.toInt = (pI P a0 7).toInt := congrArg Int32.toInt h11475
      refine g_goto C 32 dX8_walk_15 (by decide) ?_
      refine g_lv (lv' := [(0, .ref a0), (1, .int a1), (2, .int a2)]) [0, 1, 2] rfl ?_
      exact J32 
set_option maxHeartbeats 4000000 in
set_option maxRecDepth 100000 in
theorem s_X8_walk_L9 {P : PP} {a0 : Nat} {a1 : Int32} {a2 : Int32} {a3 : Int32} (I : IV P) (ha0 : At P a0 8) (ha1 : 2 ≤ a1.toInt ∧ a1.toInt ≤ 2) (ha2 : 0 ≤ a2.toInt ∧ a2.toInt ≤ 2) : CtrV yX8_walk cX8_walk 6 none ({ frames := 12, cells := 0, slots := 0, locals := 768 } : Room) 0 0 P [.ref a0, .int a1, .int a2, .int a3] (fun P2 => IV P2 ∧ EK [0, 5, 13] P P2) := by
  refine enV (lv := [(0, .ref a0), (1, .int a1), (2, .int a2), (3, .int a3)]) (by decide) (Nat.le_of_ble_eq_true rfl) rfl (fun E D cy C Ci0 ret => ?_)
  have J160 : ∀ (P160 : PP) (v160_4 : Int32) (v160_5 : Int32) (v160_s0 : Int32) (v160_s1 : Int32) (v160_s2 : Int32), (IV P160) → (EK [0, 5, 13] P P160) → (0 ≤ v160_4.toInt ∧ v160_4.toInt ≤ 20) → (0 ≤ v160_5.toInt ∧ v160_5.toInt ≤ 44) → (1 ≤ v160_s1.toInt ∧ v160_s1.toInt ≤ 3) → (3 ≤ v160_s2.toInt ∧ v160_s2.toInt ≤ 3) → (3 ≤ (pI P160 a0 4).toInt ∧ (pI P160 a0 4).toInt ≤ 11) → G E ({ frames := 12, cells := 0, slots := 0, locals := 768 } : Room) D cy 6 P160 0 0 160 [(0, .ref a0), (4, .int v160_4), (5, .int v160_5)] [.int v160_s0, .int v160_s1, .int v160_s2, .ref a0] := by
    intro P160 v160_4 v160_5 v160_s0 v160_s1 v160_s2 I160 X160 hv160_4 hv160_5 hv160_s1 hv160_s2 hq160_0
    have h11609 := X160.at ha0
    refine g_callVV (rest := []) C mv_X8_73 [.int v160_s2, .int v160_s1, .int v160_s0] (s_X8_walk_L8 I160 h11609 (by omega) (by omega)) (h11609).1 (h11609).2 rfl rfl (by decide) (Nat.le_of_ble_eq_true rfl) (by decide) dX8_walk_160 (fun Y11611 h11612 => ?_)
    obtain ⟨Iy11613, Xy11614⟩ := h11612
    have q11615 := Xy11614.keep h11609 (by decide) 4
    have Xz11616 : EK [0, 5, 13] P Y11611 := X160.tr (Xy11614.mono (by decide))
    have h11617 := Xy11614.at h11609
    refine g_aload_n C dX8_walk_163 rfl 0 rfl ?_
    obtain ⟨b11618, e11619, h11620⟩ := Iy11613.fld (h11617) 3 0 0 rfl
    refine g_getR C fi_X8_28 rfl e11619 (h11617).1 (h11617).2 dX8_walk_164 ?_
    refine g_iload C dX8_walk_167 1 rfl ?_
    refine g_callVV (rest := []) C mv_X8_96 [.int v160_4] (s_X0_cut Iy11613 h11620.at) (h11620.at).1 (h11620.at).2 rfl rfl (by decide) (Nat.le_of_ble_eq_true rfl) (by decide) dX8_walk_169 (fun Y11622 h11623 => ?_)
    obtain ⟨Iy11624, Xy11625⟩ := h11623
    have q11626 := Xy11625.keep h11617 (by decide) 4
    have Xz11627 : EK [0, 5, 13] P Y11622 := Xz11616.tr (Xy11625.mono (by decide))
    have h11628 := Xy11625.at h11617
    refine g_aload_n C dX8_walk_172 rfl 0 rfl ?_
    obtain ⟨b11629, e11630, h11631⟩ := Iy11624.fld (h11628) 2 5 0 rfl
    refine g_getR C fi_X8_21 rfl e11630 (h11628).1 (h11628).2 dX8_walk_173 ?_
    refine g_iload C dX8_walk_176 2 rfl ?_
    refine g_callVV (rest := []) C mv_X8_99 [.int v160_5] (s_X5_cut Iy11624 h11631.at) (h11631.at).1 (h11631.at).2 rfl rfl (by decide) (Nat.le_of_ble_eq_true rfl) (by decide) dX8_walk_178 (fun Y11633 h11634 => ?_)
    obtain ⟨Iy11635, Xy11636⟩ := h11634
    have q11637 := Xy11636.keep h11628 (by decide) 4
    have Xz11638 : EK [0, 5, 13] P Y11633 := Xz11627.tr (Xy11636.mono (by decide))
    have h11639 := Xy11636.at h11628
    exact ret _ _ _ _ _ dX8_walk_181 (by decide) (by decide) ⟨Iy11635, Xz11638⟩
  have J44 : G E ({ frames := 12, cells := 0, slots := 0, locals := 768 } : Room) D cy 6 P 0 0 44 [(0, .ref a0), (1, .int a1), (2, .int a2), (3, .int a3)] [] := by
    refine g_iload_n C dX8_walk_44 rfl 1 rfl ?_
    refine g_aload_n C dX8_walk_45 rfl 0 rfl ?_
    refine g_getI C fi_X8_38 (by decide) (ha0).1 (ha0).2 dX8_walk_46 ?_
    have h11640 := I.rg (ha0) 4 rfl
    refine b_icmp_ge C 79 dX8_walk_49 (by decide) (fun h11641 => ?_) (fun h11641 => ?_)
    · have h11641 : (pI P a0 4).toInt ≤ a1.toInt := h11641
      exact ret _ _ _ _ _ dX8_walk_79 (by decide) (by decide) ⟨I, EK.rf⟩
    · have h11641 : a1.toInt < (pI P a0 4).toInt := h11641
      refine g_iload_n C dX8_walk_52 rfl 1 rfl ?_
      refine g_bipush (v := 11) C dX8_walk_53 (by decide) ?_
      refine b_icmp_ge C 79 dX8_walk_55 (by decide) (fun h11642 => ?_) (fun h11642 => ?_)
      · have h11642 : 11 ≤ a1.toInt := h11642
        omega
      · have h11642 : a1.toInt < 11 := h11642
        refine g_aload_n C dX8_walk_58 rfl 0 rfl ?_
        obtain ⟨b11643, e11644, h11645⟩ := I.fld (ha0) 3 0 0 rfl
        refine g_getR C fi_X8_28 rfl e11644 (ha0).1 (ha0).2 dX8_walk_59 ?_
        refine g_getI C fi_X8_77 (by decide) (h11645.at).1 (h11645.at).2 dX8_walk_62 ?_
        have h11646 := I.rg (h11645.at) 2 rfl
        refine g_aload_n C dX8_walk_65 rfl 0 rfl ?_
        refine g_getI C fi_X8_38 (by decide) (ha0).1 (ha0).2 dX8_walk_66 ?_
        refine s_iadd C dX8_walk_69 (by show -2147483648 ≤ (pI P b11643 2).toInt + (pI P a0 4).toInt ∧ (pI P b11643 2).toInt + (pI P a0 4).toInt ≤ 2147483647; omega) (fun z11647 h11648 => ?_)
        have h11648 : z11647.toInt = (pI P b11643 2).toInt + (pI P a0 4).toInt := h11648
        refine g_iload_n C dX8_walk_70 rfl 1 rfl ?_
        refine s_isub C dX8_walk_71 (by show -2147483648 ≤ z11647.toInt - a1.toInt ∧ z11647.toInt - a1.toInt ≤ 2147483647; omega) (fun z11649 h11650 => ?_)
        have h11650 : z11649.toInt = z11647.toInt - a1.toInt := h11650
        refine g_aload_n C dX8_walk_72 rfl 0 rfl ?_
        refine g_getI C fi_X8_51 (by decide) (ha0).1 (ha0).2 dX8_walk_73 ?_
        have h11651 := I.rg (ha0) 6 rfl
        refine b_icmp_ge C 80 dX8_walk_76 (by decide) (fun h11652 => ?_) (fun h11652 => ?_)
        · have h11652 : (pI P a0 6).toInt ≤ z11649.toInt := h11652
          refine g_aload_n C dX8_walk_80 rfl 0 rfl ?_
          refine g_iload_n C dX8_walk_81 rfl 1 rfl ?_
          refine g_iconst (v := 1) C dX8_walk_82 (by decide) ?_
          refine s_iadd C dX8_walk_83 (by show -2147483648 ≤ a1.toInt + 1 ∧ a1.toInt + 1 ≤ 2147483647; omega) (fun z11653 h11654 => ?_)
          have h11654 : z11653.toInt = a1.toInt + 1 := h11654
          refine g_iload_n C dX8_walk_84 rfl 2 rfl ?_
          refine g_iload_n C dX8_walk_85 rfl 3 rfl ?_
          refine g_callVV (rest := []) C mv_X8_73 [.int z11653, .int a2, .int a3] (s_X8_walk_L8 I ha0 (by omega) (by omega)) (ha0).1 (ha0).2 rfl rfl (by decide) (Nat.le_of_ble_eq_true rfl) (by decide) dX8_walk_86 (fun Y11656 h11657 => ?_)
          obtain ⟨Iy11658, Xy11659⟩ := h11657
          have q11660 := Xy11659.keep ha0 (by decide) 4
          have q11661 := Xy11659.keep ha0 (by decide) 6
          have Xz11662 : EK [0, 5, 13] P Y11656 := Xy11659.mono (by decide)
          have h11663 := Xy11659.at ha0
          refine g_aload_n C dX8_walk_89 rfl 0 rfl ?_
          obtain ⟨b11664, e11665, h11666⟩ := Iy11658.fld (h11663) 3 0 0 rfl
          refine g_getR C fi_X8_28 rfl e11665 (h11663).1 (h11663).2 dX8_walk_90 ?_
          refine g_getI C fi_X8_77 (by decide) (h11666.at).1 (h11666.at).2 dX8_walk_93 ?_
          have h11667 := Iy11658.rg (h11666.at) 2 rfl
          refine g_topi (fun z11668 h11669 => ?_)
          have h11669 : z11668.toInt = (pI Y11656 b11664 2).toInt := congrArg Int32.toInt h11669
          refine g_istore (lv' := [(4, .int z11668), (0, .ref a0), (1, .int a1), (2, .int a2), (3, .int a3)]) C dX8_walk_96 (by decide) rfl ?_
          refine g_aload_n C dX8_walk_98 rfl 1 rfl ?_
          obtain ⟨b11670, e11671, h11672⟩ := Iy11658.fld (h11663) 2 5 0 rfl
          refine g_getR C fi_X8_21 rfl e11671 (h11663).1 (h11663).2 dX8_walk_99 ?_
          refine g_getI C fi_X8_84 (by decide) (h11672.at).1 (h11672.at).2 dX8_walk_102 ?_
          have h11673 := Iy11658.rg (h11672.at) 4 rfl
          refine g_topi (fun z11674 h11675 => ?_)
          have h11675 : z11674.toInt = (pI Y11656 b11670 4).toInt := congrArg Int32.toInt h11675
          refine g_istore (lv' := [(5, .int z11674), (4, .int z11668), (0, .ref a0), (1, .int a1), (2, .int a2), (3, .int a3)]) C dX8_walk_105 (by decide) rfl ?_
          refine g_aload_n C dX8_walk_107 rfl 2 rfl ?_
          refine g_getR C fi_X8_28 rfl e11665 (h11663).1 (h11663).2 dX8_walk_108 ?_
          refine g_aload_n C dX8_walk_111 rfl 2 rfl ?_
          obtain ⟨b11676, e11677, h11678⟩ := Iy11658.fld (h11663) 1 13 11 rfl
          refine g_getR C fi_X8_15 rfl e11677 (h11663).1 (h11663).2 dX8_walk_112 ?_
          refine g_iload_n C dX8_walk_115 rfl 3 rfl ?_
          refine g_iald (j := (a1.toInt.toNat)) C h11678.1 h11678.2.1 (ix_in h11678.2.2 (by omega)) dX8_walk_116 ?_
          refine g_topi (fun z11679 _ => ?_)
          refine g_callVV (rest := []) C mv_X8_87 [.int z11679] (s_X0_add Iy11658 h11666.at) (h11666.at).1 (h11666.at).2 rfl rfl (by decide) (Nat.le_of_ble_eq_true rfl) (by decide) dX8_walk_117 (fun Y11681 h11682 => ?_)
          obtain ⟨Iy11683, Xy11684⟩ := h11682
          have q11685 := Xy11684.keep h11663 (by decide) 4
          have q11686 := Xy11684.keep h11663 (by decide) 6
          have q11687 := Xy11684.keep (h11672.at) (by decide) 4
          have Xz11688 : EK [0, 5, 13] P Y11681 := Xz11662.tr (Xy11684.mono (by decide))
          have h11689 := Xy11684.at h11663
          refine g_aload_n C dX8_walk_120 rfl 2 rfl ?_
          obtain ⟨b11690, e11691, h11692⟩ := Iy11683.fld (h11689) 2 5 0 rfl
          refine g_getR C fi_X8_21 rfl e11691 (h11689).1 (h11689).2 dX8_walk_121 ?_
          refine g_aload_n C dX8_walk_124 rfl 2 rfl ?_
          obtain ⟨b11693, e11694, h11695⟩ := Iy11683.fld (h11689) 1 13 11 rfl
          refine g_getR C fi_X8_15 rfl e11694 (h11689).1 (h11689).2 dX8_walk_125 ?_
          refine g_iload_n C dX8_walk_128 rfl 3 rfl ?_
          refine g_iald (j := (a1.toInt.toNat)) C h11695.1 h11695.2.1 (ix_in h11695.2.2 (by omega)) dX8_walk_129 ?_
          refine g_topi (fun z11696 _ => ?_)
          refine g_iload_n C dX8_walk_130 rfl 3 rfl ?_
          refine g_callVV (rest := []) C mv_X8_91 [.int z11696, .int a1] (s_X5_add Iy11683 h11692.at) (h11692.at).1 (h11692.at).2 rfl rfl (by decide) (Nat.le_of_ble_eq_true rfl) (by decide) dX8_walk_131 (fun Y11698 h11699 => ?_)
          obtain ⟨Iy11700, Xy11701⟩ := h11699
          have q11702 := Xy11701.keep h11689 (by decide) 4
          have q11703 := Xy11701.keep h11689 (by decide) 6
          have Xz11704 : EK [0, 5, 13] P Y11698 := Xz11688.tr (Xy11701.mono (by decide))
          have h11705 := Xy11701.at h11689
          refine g_aload_n C dX8_walk_134 rfl 2 rfl ?_
          refine g_iload_n C dX8_walk_135 rfl 3 rfl ?_
          refine g_iconst (v := 1) C dX8_walk_136 (by decide) ?_
          refine s_iadd C dX8_walk_137 (by show -2147483648 ≤ a1.toInt + 1 ∧ a1.toInt + 1 ≤ 2147483647; omega) (fun z11706 h11707 => ?_)
          have h11707 : z11706.toInt = a1.toInt + 1 := h11707
          refine g_iload_n C dX8_walk_138 rfl 4 rfl ?_
          refine g_iconst (v := 1) C dX8_walk_139 (by decide) ?_
          refine s_iadd C dX8_walk_140 (by show -2147483648 ≤ a2.toInt + 1 ∧ a2.toInt + 1 ≤ 2147483647; omega) (fun z11708 h11709 => ?_)
          have h11709 : z11708.toInt = a2.toInt + 1 := h11709
          refine g_aload_n C dX8_walk_141 rfl 2 rfl ?_
          refine g_getI C fi_X8_42 (by decide) (h11705).1 (h11705).2 dX8_walk_142 ?_
          have u11711 := ti_rng (pI Y11698 a0 5)
          refine b_if_ne C 159 dX8_walk_145 (by decide) (fun h11710 => ?_) (fun h11710 => ?_)
          · have h11710 : (pI Y11698 a0 5).toInt ≠ 0 := ti_ne h11710
            refine g_iload_n C dX8_walk_159 rfl 5 rfl ?_
            refine g_lv (lv' := [(0, .ref a0), (4, .int z11668), (5, .int z11674)]) [2, 1, 0] rfl ?_
            exact J160 Y11698 z11668 z11674 a3 z11708 z11706 Iy11700 Xz11704 (by omega) (by omega) (by omega) (by omega) (by omega)
          · have h11710 : (pI Y11698 a0 5).toInt = 0 := congrArg Int32.toInt h11710
            refine g_aload_n C dX8_walk_148 rfl 2 rfl ?_
            obtain ⟨b11712, e11713, h11714⟩ := Iy11700.fld (h11705) 2 5 0 rfl
            refine g_getR C fi_X8_21 rfl e11713 (h11705).1 (h11705).2 dX8_walk_149 ?_
            refine g_iload_n C dX8_walk_152 rfl 5 rfl ?_
            refine g_callVI (rest := [.int z11708, .int z11706, .ref a0]) C mv_X8_93 [.int a3] (s_X5_spread Iy11700 h11714.at) (h11714.at).1 (h11714.at).2 rfl rfl (by decide) (Nat.le_of_ble_eq_true rfl) (by decide) dX8_walk_153 (fun r11715 Y11716 h11717 => ?_)
            obtain ⟨rfl, h11717⟩ := h11717
            have h11717 : True := h11717
            refine g_goto C 160 dX8_walk_156 (by decide) ?_
            refine g_lv (lv' := [(0, .ref a0), (4, .int z11668), (5, .int z11674)]) [2, 1, 0] rfl ?_
            exact J160 Y11698 z11668 z11674 r11715 z11708 z11706 Iy11700 Xz11704 (by omega) (by omega) (by omega) (by omega) (by omega)
        · have h11652 : z11649.toInt < (pI P a0 6).toInt := h11652
          exact ret _ _ _ _ _ dX8_walk_79 (by decide) (by decide) ⟨I, EK.rf⟩
  have J32 : G E ({ frames := 12, cells := 0, slots := 0, locals := 768 } : Room) D cy 6 P 0 0 32 [(0, .ref a0), (1, .int a1), (2, .int a2)] [] := by
    refine g_aload_n C dX8_walk_32 rfl 0 rfl ?_
    refine g_aload_n C dX8_walk_33 rfl 0 rfl ?_
    refine g_getI C fi_X8_38 (by decide) (ha0).1 (ha0).2 dX8_walk_34 ?_
    have h11718 := I.rg (ha0) 4 rfl
    refine g_iload_n C dX8_walk_37 rfl 1 rfl ?_
    refine s_isub C dX8_walk_38 (by show -2147483648 ≤ (pI P a0 4).toInt - a1.toInt ∧ (pI P a0 4).toInt - a1.toInt ≤ 2147483647; omega) (fun z11719 h11720 => ?_)
    have h11720 : z11719.toInt = (pI P a0 4).toInt - a1.toInt := h11720
    refine g_iload_n C dX8_walk_39 rfl 2 rfl ?_
    refine g_callVV (rest := []) C mv_X8_80 [.int z11719, .int a2] (s_X8_addAllWith I ha0 (by omega) (by omega)) (ha0).1 (ha0).2 rfl rfl (by decide) (Nat.le_of_ble_eq_true rfl) (by decide) dX8_walk_40 (fun Y11722 h11723 => ?_)
    obtain ⟨Iy11724, Xy11725⟩ := h11723
    have q11726 := Xy11725.keep ha0 (by decide) 4
    have Xz11727 : EK [0, 5, 13] P Y11722 := Xy11725.mono (by decide)
    have h11728 := Xy11725.at ha0
    exact ret _ _ _ _ _ dX8_walk_43 (by decide) (by decide) ⟨Iy11724, Xz11727⟩
  refine g_aload_n C dX8_walk_0 rfl 0 rfl ?_
  refine g_getI C fi_X8_42 (by decide) (ha0).1 (ha0).2 dX8_walk_1 ?_
  have u11730 := ti_rng (pI P a0 5)
  refine b_if_ne C 18 dX8_walk_4 (by decide) (fun h11729 => ?_) (fun h11729 => ?_)
  · have h11729 : (pI P a0 5).toInt ≠ 0 := ti_ne h11729
    refine g_aload_n C dX8_walk_18 rfl 0 rfl ?_
    obtain ⟨b11731, e11732, h11733⟩ := I.fld (ha0) 3 0 0 rfl
    refine g_getR C fi_X8_28 rfl e11732 (ha0).1 (ha0).2 dX8_walk_19 ?_
    refine g_getI C fi_X8_77 (by decide) (h11733.at).1 (h11733.at).2 dX8_walk_22 ?_
    have h11734 := I.rg (h11733.at) 2 rfl
    refine g_aload_n C dX8_walk_25 rfl 0 rfl ?_
    refine g_getI C fi_X8_51 (by decide) (ha0).1 (ha0).2 dX8_walk_26 ?_
    have h11735 := I.rg (ha0) 6 rfl
    refine b_icmp_ne C 44 dX8_walk_29 (by decide) (fun h11736 => ?_) (fun h11736 => ?_)
    · have h11736 : (pI P b11731 2).toInt ≠ (pI P a0 6).toInt := ti_ne h11736
      exact J44 
    · have h11736 : (pI P b11731 2).toInt = (pI P a0 6).toInt := congrArg Int32.toInt h11736
      refine g_lv (lv' := [(0, .ref a0), (1, .int a1), (2, .int a2)]) [0, 1, 2] rfl ?_
      exact J32 
  · have h11729 : (pI P a0 5).toInt = 0 := congrArg Int32.toInt h11729
    refine g_iload_n C dX8_walk_7 rfl 3 rfl ?_
    refine g_aload_n C dX8_walk_8 rfl 0 rfl ?_
    refine g_getI C fi_X8_56 (by decide) (ha0).1 (ha0).2 dX8_walk_9 ?_
    have u11738 := ti_rng a3
    have u11739 := ti_rng (pI P a0 7)
    refine b_icmp_ne C 44 dX8_walk_12 (by decide) (fun h11737 => ?_) (fun h11737 => ?_)
    · have h11737 : a3.toInt ≠ (pI P a0 7).toInt := ti_ne h11737
      exact J44 
    · have h11737 : a3.toInt = (pI P a0 7).toInt := congrArg Int32.toInt h11737
      refine g_goto C 32 dX8_walk_15 (by decide) ?_
      refine g_lv (lv' := [(0, .ref a0), (1, .int a1), (2, .int a2)]) [0, 1, 2] rfl ?_
      exact J32 
set_option maxHeartbeats 4000000 in
set_option maxRecDepth 100000 in
theorem s_X8_walk_L10 {P : PP} {a0 : Nat} {a1 : Int32} {a2 : Int32} {a3 : Int32} (I : IV P) (ha0 : At P a0 8) (ha1 : 1 ≤ a1.toInt ∧ a1.toInt ≤ 1) (ha2 : 0 ≤ a2.toInt ∧ a2.toInt ≤ 1) : CtrV yX8_walk cX8_walk 6 none ({ frames := 13, cells := 0, slots := 0, locals := 832 } : Room) 0 0 P [.ref a0, .int a1, .int a2, .int a3] (fun P2 => IV P2 ∧ EK [0, 5, 13] P P2) := by
  refine enV (lv := [(0, .ref a0), (1, .int a1), (2, .int a2), (3, .int a3)]) (by decide) (Nat.le_of_ble_eq_true rfl) rfl (fun E D cy C Ci0 ret => ?_)
  have J160 : ∀ (P160 : PP) (v160_4 : Int32) (v160_5 : Int32) (v160_s0 : Int32) (v160_s1 : Int32) (v160_s2 : Int32), (IV P160) → (EK [0, 5, 13] P P160) → (0 ≤ v160_4.toInt ∧ v160_4.toInt ≤ 20) → (0 ≤ v160_5.toInt ∧ v160_5.toInt ≤ 44) → (1 ≤ v160_s1.toInt ∧ v160_s1.toInt ≤ 2) → (2 ≤ v160_s2.toInt ∧ v160_s2.toInt ≤ 2) → (2 ≤ (pI P160 a0 4).toInt ∧ (pI P160 a0 4).toInt ≤ 11) → G E ({ frames := 13, cells := 0, slots := 0, locals := 832 } : Room) D cy 6 P160 0 0 160 [(0, .ref a0), (4, .int v160_4), (5, .int v160_5)] [.int v160_s0, .int v160_s1, .int v160_s2, .ref a0] := by
    intro P160 v160_4 v160_5 v160_s0 v160_s1 v160_s2 I160 X160 hv160_4 hv160_5 hv160_s1 hv160_s2 hq160_0
    have h11871 := X160.at ha0
    refine g_callVV (rest := []) C mv_X8_73 [.int v160_s2, .int v160_s1, .int v160_s0] (s_X8_walk_L9 I160 h11871 (by omega) (by omega)) (h11871).1 (h11871).2 rfl rfl (by decide) (Nat.le_of_ble_eq_true rfl) (by decide) dX8_walk_160 (fun Y11873 h11874 => ?_)
    obtain ⟨Iy11875, Xy11876⟩ := h11874
    have q11877 := Xy11876.keep h11871 (by decide) 4
    have Xz11878 : EK [0, 5, 13] P Y11873 := X160.tr (Xy11876.mono (by decide))
    have h11879 := Xy11876.at h11871
    refine g_aload_n C dX8_walk_163 rfl 0 rfl ?_
    obtain ⟨b11880, e11881, h11882⟩ := Iy11875.fld (h11879) 3 0 0 rfl
    refine g_getR C fi_X8_28 rfl e11881 (h11879).1 (h11879).2 dX8_walk_164 ?_
    refine g_iload C dX8_walk_167 1 rfl ?_
    refine g_callVV (rest := []) C mv_X8_96 [.int v160_4] (s_X0_cut Iy11875 h11882.at) (h11882.at).1 (h11882.at).2 rfl rfl (by decide) (Nat.le_of_ble_eq_true rfl) (by decide) dX8_walk_169 (fun Y11884 h11885 => ?_)
    obtain ⟨Iy11886, Xy11887⟩ := h11885
    have q11888 := Xy11887.keep h11879 (by decide) 4
    have Xz11889 : EK [0, 5, 13] P Y11884 := Xz11878.tr (Xy11887.mono (by decide))
    have h11890 := Xy11887.at h11879
    refine g_aload_n C dX8_walk_172 rfl 0 rfl ?_
    obtain ⟨b11891, e11892, h11893⟩ := Iy11886.fld (h11890) 2 5 0 rfl
    refine g_getR C fi_X8_21 rfl e11892 (h11890).1 (h11890).2 dX8_walk_173 ?_
    refine g_iload C dX8_walk_176 2 rfl ?_
    refine g_callVV (rest := []) C mv_X8_99 [.int v160_5] (s_X5_cut Iy11886 h11893.at) (h11893.at).1 (h11893.at).2 rfl rfl (by decide) (Nat.le_of_ble_eq_true rfl) (by decide) dX8_walk_178 (fun Y11895 h11896 => ?_)
    obtain ⟨Iy11897, Xy11898⟩ := h11896
    have q11899 := Xy11898.keep h11890 (by decide) 4
    have Xz11900 : EK [0, 5, 13] P Y11895 := Xz11889.tr (Xy11898.mono (by decide))
    have h11901 := Xy11898.at h11890
    exact ret _ _ _ _ _ dX8_walk_181 (by decide) (by decide) ⟨Iy11897, Xz11900⟩
  have J44 : G E ({ frames := 13, cells := 0, slots := 0, locals := 832 } : Room) D cy 6 P 0 0 44 [(0, .ref a0), (1, .int a1), (2, .int a2), (3, .int a3)] [] := by
    refine g_iload_n C dX8_walk_44 rfl 1 rfl ?_
    refine g_aload_n C dX8_walk_45 rfl 0 rfl ?_
    refine g_getI C fi_X8_38 (by decide) (ha0).1 (ha0).2 dX8_walk_46 ?_
    have h11902 := I.rg (ha0) 4 rfl
    refine b_icmp_ge C 79 dX8_walk_49 (by decide) (fun h11903 => ?_) (fun h11903 => ?_)
    · have h11903 : (pI P a0 4).toInt ≤ a1.toInt := h11903
      exact ret _ _ _ _ _ dX8_walk_79 (by decide) (by decide) ⟨I, EK.rf⟩
    · have h11903 : a1.toInt < (pI P a0 4).toInt := h11903
      refine g_iload_n C dX8_walk_52 rfl 1 rfl ?_
      refine g_bipush (v := 11) C dX8_walk_53 (by decide) ?_
      refine b_icmp_ge C 79 dX8_walk_55 (by decide) (fun h11904 => ?_) (fun h11904 => ?_)
      · have h11904 : 11 ≤ a1.toInt := h11904
        omega
      · have h11904 : a1.toInt < 11 := h11904
        refine g_aload_n C dX8_walk_58 rfl 0 rfl ?_
        obtain ⟨b11905, e11906, h11907⟩ := I.fld (ha0) 3 0 0 rfl
        refine g_getR C fi_X8_28 rfl e11906 (ha0).1 (ha0).2 dX8_walk_59 ?_
        refine g_getI C fi_X8_77 (by decide) (h11907.at).1 (h11907.at).2 dX8_walk_62 ?_
        have h11908 := I.rg (h11907.at) 2 rfl
        refine g_aload_n C dX8_walk_65 rfl 0 rfl ?_
        refine g_getI C fi_X8_38 (by decide) (ha0).1 (ha0).2 dX8_walk_66 ?_
        refine s_iadd C dX8_walk_69 (by show -2147483648 ≤ (pI P b11905 2).toInt + (pI P a0 4).toInt ∧ (pI P b11905 2).toInt + (pI P a0 4).toInt ≤ 2147483647; omega) (fun z11909 h11910 => ?_)
        have h11910 : z11909.toInt = (pI P b11905 2).toInt + (pI P a0 4).toInt := h11910
        refine g_iload_n C dX8_walk_70 rfl 1 rfl ?_
        refine s_isub C dX8_walk_71 (by show -2147483648 ≤ z11909.toInt - a1.toInt ∧ z11909.toInt - a1.toInt ≤ 2147483647; omega) (fun z11911 h11912 => ?_)
        have h11912 : z11911.toInt = z11909.toInt - a1.toInt := h11912
        refine g_aload_n C dX8_walk_72 rfl 0 rfl ?_
        refine g_getI C fi_X8_51 (by decide) (ha0).1 (ha0).2 dX8_walk_73 ?_
        have h11913 := I.rg (ha0) 6 rfl
        refine b_icmp_ge C 80 dX8_walk_76 (by decide) (fun h11914 => ?_) (fun h11914 => ?_)
        · have h11914 : (pI P a0 6).toInt ≤ z11911.toInt := h11914
          refine g_aload_n C dX8_walk_80 rfl 0 rfl ?_
          refine g_iload_n C dX8_walk_81 rfl 1 rfl ?_
          refine g_iconst (v := 1) C dX8_walk_82 (by decide) ?_
          refine s_iadd C dX8_walk_83 (by show -2147483648 ≤ a1.toInt + 1 ∧ a1.toInt + 1 ≤ 2147483647; omega) (fun z11915 h11916 => ?_)
          have h11916 : z11915.toInt = a1.toInt + 1 := h11916
          refine g_iload_n C dX8_walk_84 rfl 2 rfl ?_
          refine g_iload_n C dX8_walk_85 rfl 3 rfl ?_
          refine g_callVV (rest := []) C mv_X8_73 [.int z11915, .int a2, .int a3] (s_X8_walk_L9 I ha0 (by omega) (by omega)) (ha0).1 (ha0).2 rfl rfl (by decide) (Nat.le_of_ble_eq_true rfl) (by decide) dX8_walk_86 (fun Y11918 h11919 => ?_)
          obtain ⟨Iy11920, Xy11921⟩ := h11919
          have q11922 := Xy11921.keep ha0 (by decide) 4
          have q11923 := Xy11921.keep ha0 (by decide) 6
          have Xz11924 : EK [0, 5, 13] P Y11918 := Xy11921.mono (by decide)
          have h11925 := Xy11921.at ha0
          refine g_aload_n C dX8_walk_89 rfl 0 rfl ?_
          obtain ⟨b11926, e11927, h11928⟩ := Iy11920.fld (h11925) 3 0 0 rfl
          refine g_getR C fi_X8_28 rfl e11927 (h11925).1 (h11925).2 dX8_walk_90 ?_
          refine g_getI C fi_X8_77 (by decide) (h11928.at).1 (h11928.at).2 dX8_walk_93 ?_
          have h11929 := Iy11920.rg (h11928.at) 2 rfl
          refine g_topi (fun z11930 h11931 => ?_)
          have h11931 : z11930.toInt = (pI Y11918 b11926 2).toInt := congrArg Int32.toInt h11931
          refine g_istore (lv' := [(4, .int z11930), (0, .ref a0), (1, .int a1), (2, .int a2), (3, .int a3)]) C dX8_walk_96 (by decide) rfl ?_
          refine g_aload_n C dX8_walk_98 rfl 1 rfl ?_
          obtain ⟨b11932, e11933, h11934⟩ := Iy11920.fld (h11925) 2 5 0 rfl
          refine g_getR C fi_X8_21 rfl e11933 (h11925).1 (h11925).2 dX8_walk_99 ?_
          refine g_getI C fi_X8_84 (by decide) (h11934.at).1 (h11934.at).2 dX8_walk_102 ?_
          have h11935 := Iy11920.rg (h11934.at) 4 rfl
          refine g_topi (fun z11936 h11937 => ?_)
          have h11937 : z11936.toInt = (pI Y11918 b11932 4).toInt := congrArg Int32.toInt h11937
          refine g_istore (lv' := [(5, .int z11936), (4, .int z11930), (0, .ref a0), (1, .int a1), (2, .int a2), (3, .int a3)]) C dX8_walk_105 (by decide) rfl ?_
          refine g_aload_n C dX8_walk_107 rfl 2 rfl ?_
          refine g_getR C fi_X8_28 rfl e11927 (h11925).1 (h11925).2 dX8_walk_108 ?_
          refine g_aload_n C dX8_walk_111 rfl 2 rfl ?_
          obtain ⟨b11938, e11939, h11940⟩ := Iy11920.fld (h11925) 1 13 11 rfl
          refine g_getR C fi_X8_15 rfl e11939 (h11925).1 (h11925).2 dX8_walk_112 ?_
          refine g_iload_n C dX8_walk_115 rfl 3 rfl ?_
          refine g_iald (j := (a1.toInt.toNat)) C h11940.1 h11940.2.1 (ix_in h11940.2.2 (by omega)) dX8_walk_116 ?_
          refine g_topi (fun z11941 _ => ?_)
          refine g_callVV (rest := []) C mv_X8_87 [.int z11941] (s_X0_add Iy11920 h11928.at) (h11928.at).1 (h11928.at).2 rfl rfl (by decide) (Nat.le_of_ble_eq_true rfl) (by decide) dX8_walk_117 (fun Y11943 h11944 => ?_)
          obtain ⟨Iy11945, Xy11946⟩ := h11944
          have q11947 := Xy11946.keep h11925 (by decide) 4
          have q11948 := Xy11946.keep h11925 (by decide) 6
          have q11949 := Xy11946.keep (h11934.at) (by decide) 4
          have Xz11950 : EK [0, 5, 13] P Y11943 := Xz11924.tr (Xy11946.mono (by decide))
          have h11951 := Xy11946.at h11925
          refine g_aload_n C dX8_walk_120 rfl 2 rfl ?_
          obtain ⟨b11952, e11953, h11954⟩ := Iy11945.fld (h11951) 2 5 0 rfl
          refine g_getR C fi_X8_21 rfl e11953 (h11951).1 (h11951).2 dX8_walk_121 ?_
          refine g_aload_n C dX8_walk_124 rfl 2 rfl ?_
          obtain ⟨b11955, e11956, h11957⟩ := Iy11945.fld (h11951) 1 13 11 rfl
          refine g_getR C fi_X8_15 rfl e11956 (h11951).1 (h11951).2 dX8_walk_125 ?_
          refine g_iload_n C dX8_walk_128 rfl 3 rfl ?_
          refine g_iald (j := (a1.toInt.toNat)) C h11957.1 h11957.2.1 (ix_in h11957.2.2 (by omega)) dX8_walk_129 ?_
          refine g_topi (fun z11958 _ => ?_)
          refine g_iload_n C dX8_walk_130 rfl 3 rfl ?_
          refine g_callVV (rest := []) C mv_X8_91 [.int z11958, .int a1] (s_X5_add Iy11945 h11954.at) (h11954.at).1 (h11954.at).2 rfl rfl (by decide) (Nat.le_of_ble_eq_true rfl) (by decide) dX8_walk_131 (fun Y11960 h11961 => ?_)
          obtain ⟨Iy11962, Xy11963⟩ := h11961
          have q11964 := Xy11963.keep h11951 (by decide) 4
          have q11965 := Xy11963.keep h11951 (by decide) 6
          have Xz11966 : EK [0, 5, 13] P Y11960 := Xz11950.tr (Xy11963.mono (by decide))
          have h11967 := Xy11963.at h11951
          refine g_aload_n C dX8_walk_134 rfl 2 rfl ?_
          refine g_iload_n C dX8_walk_135 rfl 3 rfl ?_
          refine g_iconst (v := 1) C dX8_walk_136 (by decide) ?_
          refine s_iadd C dX8_walk_137 (by show -2147483648 ≤ a1.toInt + 1 ∧ a1.toInt + 1 ≤ 2147483647; omega) (fun z11968 h11969 => ?_)
          have h11969 : z11968.toInt = a1.toInt + 1 := h11969
          refine g_iload_n C dX8_walk_138 rfl 4 rfl ?_
          refine g_iconst (v := 1) C dX8_walk_139 (by decide) ?_
          refine s_iadd C dX8_walk_140 (by show -2147483648 ≤ a2.toInt + 1 ∧ a2.toInt + 1 ≤ 2147483647; omega) (fun z11970 h11971 => ?_)
          have h11971 : z11970.toInt = a2.toInt + 1 := h11971
          refine g_aload_n C dX8_walk_141 rfl 2 rfl ?_
          refine g_getI C fi_X8_42 (by decide) (h11967).1 (h11967).2 dX8_walk_142 ?_
          have u11973 := ti_rng (pI Y11960 a0 5)
          refine b_if_ne C 159 dX8_walk_145 (by decide) (fun h11972 => ?_) (fun h11972 => ?_)
          · have h11972 : (pI Y11960 a0 5).toInt ≠ 0 := ti_ne h11972
            refine g_iload_n C dX8_walk_159 rfl 5 rfl ?_
            refine g_lv (lv' := [(0, .ref a0), (4, .int z11930), (5, .int z11936)]) [2, 1, 0] rfl ?_
            exact J160 Y11960 z11930 z11936 a3 z11970 z11968 Iy11962 Xz11966 (by omega) (by omega) (by omega) (by omega) (by omega)
          · have h11972 : (pI Y11960 a0 5).toInt = 0 := congrArg Int32.toInt h11972
            refine g_aload_n C dX8_walk_148 rfl 2 rfl ?_
            obtain ⟨b11974, e11975, h11976⟩ := Iy11962.fld (h11967) 2 5 0 rfl
            refine g_getR C fi_X8_21 rfl e11975 (h11967).1 (h11967).2 dX8_walk_149 ?_
            refine g_iload_n C dX8_walk_152 rfl 5 rfl ?_
            refine g_callVI (rest := [.int z11970, .int z11968, .ref a0]) C mv_X8_93 [.int a3] (s_X5_spread Iy11962 h11976.at) (h11976.at).1 (h11976.at).2 rfl rfl (by decide) (Nat.le_of_ble_eq_true rfl) (by decide) dX8_walk_153 (fun r11977 Y11978 h11979 => ?_)
            obtain ⟨rfl, h11979⟩ := h11979
            have h11979 : True := h11979
            refine g_goto C 160 dX8_walk_156 (by decide) ?_
            refine g_lv (lv' := [(0, .ref a0), (4, .int z11930), (5, .int z11936)]) [2, 1, 0] rfl ?_
            exact J160 Y11960 z11930 z11936 r11977 z11970 z11968 Iy11962 Xz11966 (by omega) (by omega) (by omega) (by omega) (by omega)
        · have h11914 : z11911.toInt < (pI P a0 6).toInt := h11914
          exact ret _ _ _ _ _ dX8_walk_79 (by decide) (by decide) ⟨I, EK.rf⟩
  have J32 : G E ({ frames := 13, cells := 0, slots := 0, locals := 832 } : Room) D cy 6 P 0 0 32 [(0, .ref a0), (1, .int a1), (2, .int a2)] [] := by
    refine g_aload_n C dX8_walk_32 rfl 0 rfl ?_
    refine g_aload_n C dX8_walk_33 rfl 0 rfl ?_
    refine g_getI C fi_X8_38 (by decide) (ha0).1 (ha0).2 dX8_walk_34 ?_
    have h11980 := I.rg (ha0) 4 rfl
    refine g_iload_n C dX8_walk_37 rfl 1 rfl ?_
    refine s_isub C dX8_walk_38 (by show -2147483648 ≤ (pI P a0 4).toInt - a1.toInt ∧ (pI P a0 4).toInt - a1.toInt ≤ 2147483647; omega) (fun z11981 h11982 => ?_)
    have h11982 : z11981.toInt = (pI P a0 4).toInt - a1.toInt := h11982
    refine g_iload_n C dX8_walk_39 rfl 2 rfl ?_
    refine g_callVV (rest := []) C mv_X8_80 [.int z11981, .int a2] (s_X8_addAllWith I ha0 (by omega) (by omega)) (ha0).1 (ha0).2 rfl rfl (by decide) (Nat.le_of_ble_eq_true rfl) (by decide) dX8_walk_40 (fun Y11984 h11985 => ?_)
    obtain ⟨Iy11986, Xy11987⟩ := h11985
    have q11988 := Xy11987.keep ha0 (by decide) 4
    have Xz11989 : EK [0, 5, 13] P Y11984 := Xy11987.mono (by decide)
    have h11990 := Xy11987.at ha0
    exact ret _ _ _ _ _ dX8_walk_43 (by decide) (by decide) ⟨Iy11986, Xz11989⟩
  refine g_aload_n C dX8_walk_0 rfl 0 rfl ?_
  refine g_getI C fi_X8_42 (by decide) (ha0).1 (ha0).2 dX8_walk_1 ?_
  have u11992 := ti_rng (pI P a0 5)
  refine b_if_ne C 18 dX8_walk_4 (by decide) (fun h11991 => ?_) (fun h11991 => ?_)
  · have h11991 : (pI P a0 5).toInt ≠ 0 := ti_ne h11991
    refine g_aload_n C dX8_walk_18 rfl 0 rfl ?_
    obtain ⟨b11993, e11994, h11995⟩ := I.fld (ha0) 3 0 0 rfl
    refine g_getR C fi_X8_28 rfl e11994 (ha0).1 (ha0).2 dX8_walk_19 ?_
    refine g_getI C fi_X8_77 (by decide) (h11995.at).1 (h11995.at).2 dX8_walk_22 ?_
    have h11996 := I.rg (h11995.at) 2 rfl
    refine g_aload_n C dX8_walk_25 rfl 0 rfl ?_
    refine g_getI C fi_X8_51 (by decide) (ha0).1 (ha0).2 dX8_walk_26 ?_
    have h11997 := I.rg (ha0) 6 rfl
    refine b_icmp_ne C 44 dX8_walk_29 (by decide) (fun h11998 => ?_) (fun h11998 => ?_)
    · have h11998 : (pI P b11993 2).toInt ≠ (pI P a0 6).toInt := ti_ne h11998
      exact J44 
    · have h11998 : (pI P b11993 2).toInt = (pI P a0 6).toInt := congrArg Int32.toInt h11998
      refine g_lv (lv' := [(0, .ref a0), (1, .int a1), (2, .int a2)]) [0, 1, 2] rfl ?_
      exact J32 
  · have h11991 : (pI P a0 5).toInt = 0 := congrArg Int32.toInt h11991
    refine g_iload_n C dX8_walk_7 rfl 3 rfl ?_
    refine g_aload_n C dX8_walk_8 rfl 0 rfl ?_
    refine g_getI C fi_X8_56 (by decide) (ha0).1 (ha0).2 dX8_walk_9 ?_
    have u12000 := ti_rng a3
    have u12001 := ti_rng (pI P a0 7)
    refine b_icmp_ne C 44 dX8_walk_12 (by decide) (fun h11999 => ?_) (fun h11999 => ?_)
    · have h11999 : a3.toInt ≠ (pI P a0 7).toInt := ti_ne h11999
      exact J44 
    · have h11999 : a3.toInt = (pI P a0 7).toInt := congrArg Int32.toInt h11999
      refine g_goto C 32 dX8_walk_15 (by decide) ?_
      refine g_lv (lv' := [(0, .ref a0), (1, .int a1), (2, .int a2)]) [0, 1, 2] rfl ?_
      exact J32 
set_option maxHeartbeats 4000000 in
set_option maxRecDepth 100000 in
theorem s_X8_walk_L11 {P : PP} {a0 : Nat} {a1 : Int32} {a2 : Int32} {a3 : Int32} (I : IV P) (ha0 : At P a0 8) (ha1 : 0 ≤ a1.toInt ∧ a1.toInt ≤ 0) (ha2 : 0 ≤ a2.toInt ∧ a2.toInt ≤ 0) : CtrV yX8_walk cX8_walk 6 none ({ frames := 14, cells := 0, slots := 0, locals := 896 } : Room) 0 0 P [.ref a0, .int a1, .int a2, .int a3] (fun P2 => IV P2 ∧ EK [0, 5, 13] P P2) := by
  refine enV (lv := [(0, .ref a0), (1, .int a1), (2, .int a2), (3, .int a3)]) (by decide) (Nat.le_of_ble_eq_true rfl) rfl (fun E D cy C Ci0 ret => ?_)
  have J160 : ∀ (P160 : PP) (v160_4 : Int32) (v160_5 : Int32) (v160_s0 : Int32) (v160_s1 : Int32) (v160_s2 : Int32), (IV P160) → (EK [0, 5, 13] P P160) → (0 ≤ v160_4.toInt ∧ v160_4.toInt ≤ 20) → (0 ≤ v160_5.toInt ∧ v160_5.toInt ≤ 44) → (1 ≤ v160_s1.toInt ∧ v160_s1.toInt ≤ 1) → (1 ≤ v160_s2.toInt ∧ v160_s2.toInt ≤ 1) → (1 ≤ (pI P160 a0 4).toInt ∧ (pI P160 a0 4).toInt ≤ 11) → G E ({ frames := 14, cells := 0, slots := 0, locals := 896 } : Room) D cy 6 P160 0 0 160 [(0, .ref a0), (4, .int v160_4), (5, .int v160_5)] [.int v160_s0, .int v160_s1, .int v160_s2, .ref a0] := by
    intro P160 v160_4 v160_5 v160_s0 v160_s1 v160_s2 I160 X160 hv160_4 hv160_5 hv160_s1 hv160_s2 hq160_0
    have h12133 := X160.at ha0
    refine g_callVV (rest := []) C mv_X8_73 [.int v160_s2, .int v160_s1, .int v160_s0] (s_X8_walk_L10 I160 h12133 (by omega) (by omega)) (h12133).1 (h12133).2 rfl rfl (by decide) (Nat.le_of_ble_eq_true rfl) (by decide) dX8_walk_160 (fun Y12135 h12136 => ?_)
    obtain ⟨Iy12137, Xy12138⟩ := h12136
    have q12139 := Xy12138.keep h12133 (by decide) 4
    have Xz12140 : EK [0, 5, 13] P Y12135 := X160.tr (Xy12138.mono (by decide))
    have h12141 := Xy12138.at h12133
    refine g_aload_n C dX8_walk_163 rfl 0 rfl ?_
    obtain ⟨b12142, e12143, h12144⟩ := Iy12137.fld (h12141) 3 0 0 rfl
    refine g_getR C fi_X8_28 rfl e12143 (h12141).1 (h12141).2 dX8_walk_164 ?_
    refine g_iload C dX8_walk_167 1 rfl ?_
    refine g_callVV (rest := []) C mv_X8_96 [.int v160_4] (s_X0_cut Iy12137 h12144.at) (h12144.at).1 (h12144.at).2 rfl rfl (by decide) (Nat.le_of_ble_eq_true rfl) (by decide) dX8_walk_169 (fun Y12146 h12147 => ?_)
    obtain ⟨Iy12148, Xy12149⟩ := h12147
    have q12150 := Xy12149.keep h12141 (by decide) 4
    have Xz12151 : EK [0, 5, 13] P Y12146 := Xz12140.tr (Xy12149.mono (by decide))
    have h12152 := Xy12149.at h12141
    refine g_aload_n C dX8_walk_172 rfl 0 rfl ?_
    obtain ⟨b12153, e12154, h12155⟩ := Iy12148.fld (h12152) 2 5 0 rfl
    refine g_getR C fi_X8_21 rfl e12154 (h12152).1 (h12152).2 dX8_walk_173 ?_
    refine g_iload C dX8_walk_176 2 rfl ?_
    refine g_callVV (rest := []) C mv_X8_99 [.int v160_5] (s_X5_cut Iy12148 h12155.at) (h12155.at).1 (h12155.at).2 rfl rfl (by decide) (Nat.le_of_ble_eq_true rfl) (by decide) dX8_walk_178 (fun Y12157 h12158 => ?_)
    obtain ⟨Iy12159, Xy12160⟩ := h12158
    have q12161 := Xy12160.keep h12152 (by decide) 4
    have Xz12162 : EK [0, 5, 13] P Y12157 := Xz12151.tr (Xy12160.mono (by decide))
    have h12163 := Xy12160.at h12152
    exact ret _ _ _ _ _ dX8_walk_181 (by decide) (by decide) ⟨Iy12159, Xz12162⟩
  have J44 : G E ({ frames := 14, cells := 0, slots := 0, locals := 896 } : Room) D cy 6 P 0 0 44 [(0, .ref a0), (1, .int a1), (2, .int a2), (3, .int a3)] [] := by
    refine g_iload_n C dX8_walk_44 rfl 1 rfl ?_
    refine g_aload_n C dX8_walk_45 rfl 0 rfl ?_
    refine g_getI C fi_X8_38 (by decide) (ha0).1 (ha0).2 dX8_walk_46 ?_
    have h12164 := I.rg (ha0) 4 rfl
    refine b_icmp_ge C 79 dX8_walk_49 (by decide) (fun h12165 => ?_) (fun h12165 => ?_)
    · have h12165 : (pI P a0 4).toInt ≤ a1.toInt := h12165
      exact ret _ _ _ _ _ dX8_walk_79 (by decide) (by decide) ⟨I, EK.rf⟩
    · have h12165 : a1.toInt < (pI P a0 4).toInt := h12165
      refine g_iload_n C dX8_walk_52 rfl 1 rfl ?_
      refine g_bipush (v := 11) C dX8_walk_53 (by decide) ?_
      refine b_icmp_ge C 79 dX8_walk_55 (by decide) (fun h12166 => ?_) (fun h12166 => ?_)
      · have h12166 : 11 ≤ a1.toInt := h12166
        omega
      · have h12166 : a1.toInt < 11 := h12166
        refine g_aload_n C dX8_walk_58 rfl 0 rfl ?_
        obtain ⟨b12167, e12168, h12169⟩ := I.fld (ha0) 3 0 0 rfl
        refine g_getR C fi_X8_28 rfl e12168 (ha0).1 (ha0).2 dX8_walk_59 ?_
        refine g_getI C fi_X8_77 (by decide) (h12169.at).1 (h12169.at).2 dX8_walk_62 ?_
        have h12170 := I.rg (h12169.at) 2 rfl
        refine g_aload_n C dX8_walk_65 rfl 0 rfl ?_
        refine g_getI C fi_X8_38 (by decide) (ha0).1 (ha0).2 dX8_walk_66 ?_
        refine s_iadd C dX8_walk_69 (by show -2147483648 ≤ (pI P b12167 2).toInt + (pI P a0 4).toInt ∧ (pI P b12167 2).toInt + (pI P a0 4).toInt ≤ 2147483647; omega) (fun z12171 h12172 => ?_)
        have h12172 : z12171.toInt = (pI P b12167 2).toInt + (pI P a0 4).toInt := h12172
        refine g_iload_n C dX8_walk_70 rfl 1 rfl ?_
        refine s_isub C dX8_walk_71 (by show -2147483648 ≤ z12171.toInt - a1.toInt ∧ z12171.toInt - a1.toInt ≤ 2147483647; omega) (fun z12173 h12174 => ?_)
        have h12174 : z12173.toInt = z12171.toInt - a1.toInt := h12174
        refine g_aload_n C dX8_walk_72 rfl 0 rfl ?_
        refine g_getI C fi_X8_51 (by decide) (ha0).1 (ha0).2 dX8_walk_73 ?_
        have h12175 := I.rg (ha0) 6 rfl
        refine b_icmp_ge C 80 dX8_walk_76 (by decide) (fun h12176 => ?_) (fun h12176 => ?_)
        · have h12176 : (pI P a0 6).toInt ≤ z12173.toInt := h12176
          refine g_aload_n C dX8_walk_80 rfl 0 rfl ?_
          refine g_iload_n C dX8_walk_81 rfl 1 rfl ?_
          refine g_iconst (v := 1) C dX8_walk_82 (by decide) ?_
          refine s_iadd C dX8_walk_83 (by show -2147483648 ≤ a1.toInt + 1 ∧ a1.toInt + 1 ≤ 2147483647; omega) (fun z12177 h12178 => ?_)
          have h12178 : z12177.toInt = a1.toInt + 1 := h12178
          refine g_iload_n C dX8_walk_84 rfl 2 rfl ?_
          refine g_iload_n C dX8_walk_85 rfl 3 rfl ?_
          refine g_callVV (rest := []) C mv_X8_73 [.int z12177, .int a2, .int a3] (s_X8_walk_L10 I ha0 (by omega) (by omega)) (ha0).1 (ha0).2 rfl rfl (by decide) (Nat.le_of_ble_eq_true rfl) (by decide) dX8_walk_86 (fun Y12180 h12181 => ?_)
          obtain ⟨Iy12182, Xy12183⟩ := h12181
          have q12184 := Xy12183.keep ha0 (by decide) 4
          have q12185 := Xy12183.keep ha0 (by decide) 6
          have Xz12186 : EK [0, 5, 13] P Y12180 := Xy12183.mono (by decide)
          have h12187 := Xy12183.at ha0
          refine g_aload_n C dX8_walk_89 rfl 0 rfl ?_
          obtain ⟨b12188, e12189, h12190⟩ := Iy12182.fld (h12187) 3 0 0 rfl
          refine g_getR C fi_X8_28 rfl e12189 (h12187).1 (h12187).2 dX8_walk_90 ?_
          refine g_getI C fi_X8_77 (by decide) (h12190.at).1 (h12190.at).2 dX8_walk_93 ?_
          have h12191 := Iy12182.rg (h12190.at) 2 rfl
          refine g_topi (fun z12192 h12193 => ?_)
          have h12193 : z12192.toInt = (pI Y12180 b12188 2).toInt := congrArg Int32.toInt h12193
          refine g_istore (lv' := [(4, .int z12192), (0, .ref a0), (1, .int a1), (2, .int a2), (3, .int a3)]) C dX8_walk_96 (by decide) rfl ?_
          refine g_aload_n C dX8_walk_98 rfl 1 rfl ?_
          obtain ⟨b12194, e12195, h12196⟩ := Iy12182.fld (h12187) 2 5 0 rfl
          refine g_getR C fi_X8_21 rfl e12195 (h12187).1 (h12187).2 dX8_walk_99 ?_
          refine g_getI C fi_X8_84 (by decide) (h12196.at).1 (h12196.at).2 dX8_walk_102 ?_
          have h12197 := Iy12182.rg (h12196.at) 4 rfl
          refine g_topi (fun z12198 h12199 => ?_)
          have h12199 : z12198.toInt = (pI Y12180 b12194 4).toInt := congrArg Int32.toInt h12199
          refine g_istore (lv' := [(5, .int z12198), (4, .int z12192), (0, .ref a0), (1, .int a1), (2, .int a2), (3, .int a3)]) C dX8_walk_105 (by decide) rfl ?_
          refine g_aload_n C dX8_walk_107 rfl 2 rfl ?_
          refine g_getR C fi_X8_28 rfl e12189 (h12187).1 (h12187).2 dX8_walk_108 ?_
          refine g_aload_n C dX8_walk_111 rfl 2 rfl ?_
          obtain ⟨b12200, e12201, h12202⟩ := Iy12182.fld (h12187) 1 13 11 rfl
          refine g_getR C fi_X8_15 rfl e12201 (h12187).1 (h12187).2 dX8_walk_112 ?_
          refine g_iload_n C dX8_walk_115 rfl 3 rfl ?_
          refine g_iald (j := (a1.toInt.toNat)) C h12202.1 h12202.2.1 (ix_in h12202.2.2 (by omega)) dX8_walk_116 ?_
          refine g_topi (fun z12203 _ => ?_)
          refine g_callVV (rest := []) C mv_X8_87 [.int z12203] (s_X0_add Iy12182 h12190.at) (h12190.at).1 (h12190.at).2 rfl rfl (by decide) (Nat.le_of_ble_eq_true rfl) (by decide) dX8_walk_117 (fun Y12205 h12206 => ?_)
          obtain ⟨Iy12207, Xy12208⟩ := h12206
          have q12209 := Xy12208.keep h12187 (by decide) 4
          have q12210 := Xy12208.keep h12187 (by decide) 6
          have q12211 := Xy12208.keep (h12196.at) (by decide) 4
          have Xz12212 : EK [0, 5, 13] P Y12205 := Xz12186.tr (Xy12208.mono (by decide))
          have h12213 := Xy12208.at h12187
          refine g_aload_n C dX8_walk_120 rfl 2 rfl ?_
          obtain ⟨b12214, e12215, h12216⟩ := Iy12207.fld (h12213) 2 5 0 rfl
          refine g_getR C fi_X8_21 rfl e12215 (h12213).1 (h12213).2 dX8_walk_121 ?_
          refine g_aload_n C dX8_walk_124 rfl 2 rfl ?_
          obtain ⟨b12217, e12218, h12219⟩ := Iy12207.fld (h12213) 1 13 11 rfl
          refine g_getR C fi_X8_15 rfl e12218 (h12213).1 (h12213).2 dX8_walk_125 ?_
          refine g_iload_n C dX8_walk_128 rfl 3 rfl ?_
          refine g_iald (j := (a1.toInt.toNat)) C h12219.1 h12219.2.1 (ix_in h12219.2.2 (by omega)) dX8_walk_129 ?_
          refine g_topi (fun z12220 _ => ?_)
          refine g_iload_n C dX8_walk_130 rfl 3 rfl ?_
          refine g_callVV (rest := []) C mv_X8_91 [.int z12220, .int a1] (s_X5_add Iy12207 h12216.at) (h12216.at).1 (h12216.at).2 rfl rfl (by decide) (Nat.le_of_ble_eq_true rfl) (by decide) dX8_walk_131 (fun Y12222 h12223 => ?_)
          obtain ⟨Iy12224, Xy12225⟩ := h12223
          have q12226 := Xy12225.keep h12213 (by decide) 4
          have q12227 := Xy12225.keep h12213 (by decide) 6
          have Xz12228 : EK [0, 5, 13] P Y12222 := Xz12212.tr (Xy12225.mono (by decide))
          have h12229 := Xy12225.at h12213
          refine g_aload_n C dX8_walk_134 rfl 2 rfl ?_
          refine g_iload_n C dX8_walk_135 rfl 3 rfl ?_
          refine g_iconst (v := 1) C dX8_walk_136 (by decide) ?_
          refine s_iadd C dX8_walk_137 (by show -2147483648 ≤ a1.toInt + 1 ∧ a1.toInt + 1 ≤ 2147483647; omega) (fun z12230 h12231 => ?_)
          have h12231 : z12230.toInt = a1.toInt + 1 := h12231
          refine g_iload_n C dX8_walk_138 rfl 4 rfl ?_
          refine g_iconst (v := 1) C dX8_walk_139 (by decide) ?_
          refine s_iadd C dX8_walk_140 (by show -2147483648 ≤ a2.toInt + 1 ∧ a2.toInt + 1 ≤ 2147483647; omega) (fun z12232 h12233 => ?_)
          have h12233 : z12232.toInt = a2.toInt + 1 := h12233
          refine g_aload_n C dX8_walk_141 rfl 2 rfl ?_
          refine g_getI C fi_X8_42 (by decide) (h12229).1 (h12229).2 dX8_walk_142 ?_
          have u12235 := ti_rng (pI Y12222 a0 5)
          refine b_if_ne C 159 dX8_walk_145 (by decide) (fun h12234 => ?_) (fun h12234 => ?_)
          · have h12234 : (pI Y12222 a0 5).toInt ≠ 0 := ti_ne h12234
            refine g_iload_n C dX8_walk_159 rfl 5 rfl ?_
            refine g_lv (lv' := [(0, .ref a0), (4, .int z12192), (5, .int z12198)]) [2, 1, 0] rfl ?_
            exact J160 Y12222 z12192 z12198 a3 z12232 z12230 Iy12224 Xz12228 (by omega) (by omega) (by omega) (by omega) (by omega)
          · have h12234 : (pI Y12222 a0 5).toInt = 0 := congrArg Int32.toInt h12234
            refine g_aload_n C dX8_walk_148 rfl 2 rfl ?_
            obtain ⟨b12236, e12237, h12238⟩ := Iy12224.fld (h12229) 2 5 0 rfl
            refine g_getR C fi_X8_21 rfl e12237 (h12229).1 (h12229).2 dX8_walk_149 ?_
            refine g_iload_n C dX8_walk_152 rfl 5 rfl ?_
            refine g_callVI (rest := [.int z12232, .int z12230, .ref a0]) C mv_X8_93 [.int a3] (s_X5_spread Iy12224 h12238.at) (h12238.at).1 (h12238.at).2 rfl rfl (by decide) (Nat.le_of_ble_eq_true rfl) (by decide) dX8_walk_153 (fun r12239 Y12240 h12241 => ?_)
            obtain ⟨rfl, h12241⟩ := h12241
            have h12241 : True := h12241
            refine g_goto C 160 dX8_walk_156 (by decide) ?_
            refine g_lv (lv' := [(0, .ref a0), (4, .int z12192), (5, .int z12198)]) [2, 1, 0] rfl ?_
            exact J160 Y12222 z12192 z12198 r12239 z12232 z12230 Iy12224 Xz12228 (by omega) (by omega) (by omega) (by omega) (by omega)
        · have h12176 : z12173.toInt < (pI P a0 6).toInt := h12176
          exact ret _ _ _ _ _ dX8_walk_79 (by decide) (by decide) ⟨I, EK.rf⟩
  have J32 : G E ({ frames := 14, cells := 0, slots := 0, locals := 896 } : Room) D cy 6 P 0 0 32 [(0, .ref a0), (1, .int a1), (2, .int a2)] [] := by
    refine g_aload_n C dX8_walk_32 rfl 0 rfl ?_
    refine g_aload_n C dX8_walk_33 rfl 0 rfl ?_
    refine g_getI C fi_X8_38 (by decide) (ha0).1 (ha0).2 dX8_walk_34 ?_
    have h12242 := I.rg (ha0) 4 rfl
    refine g_iload_n C dX8_walk_37 rfl 1 rfl ?_
    refine s_isub C dX8_walk_38 (by show -2147483648 ≤ (pI P a0 4).toInt - a1.toInt ∧ (pI P a0 4).toInt - a1.toInt ≤ 2147483647; omega) (fun z12243 h12244 => ?_)
    have h12244 : z12243.toInt = (pI P a0 4).toInt - a1.toInt := h12244
    refine g_iload_n C dX8_walk_39 rfl 2 rfl ?_
    refine g_callVV (rest := []) C mv_X8_80 [.int z12243, .int a2] (s_X8_addAllWith I ha0 (by omega) (by omega)) (ha0).1 (ha0).2 rfl rfl (by decide) (Nat.le_of_ble_eq_true rfl) (by decide) dX8_walk_40 (fun Y12246 h12247 => ?_)
    obtain ⟨Iy12248, Xy12249⟩ := h12247
    have q12250 := Xy12249.keep ha0 (by decide) 4
    have Xz12251 : EK [0, 5, 13] P Y12246 := Xy12249.mono (by decide)
    have h12252 := Xy12249.at ha0
    exact ret _ _ _ _ _ dX8_walk_43 (by decide) (by decide) ⟨Iy12248, Xz12251⟩
  refine g_aload_n C dX8_walk_0 rfl 0 rfl ?_
  refine g_getI C fi_X8_42 (by decide) (ha0).1 (ha0).2 dX8_walk_1 ?_
  have u12254 := ti_rng (pI P a0 5)
  refine b_if_ne C 18 dX8_walk_4 (by decide) (fun h12253 => ?_) (fun h12253 => ?_)
  · have h12253 : (pI P a0 5).toInt ≠ 0 := ti_ne h12253
    refine g_aload_n C dX8_walk_18 rfl 0 rfl ?_
    obtain ⟨b12255, e12256, h12257⟩ := I.fld (ha0) 3 0 0 rfl
    refine g_getR C fi_X8_28 rfl e12256 (ha0).1 (ha0).2 dX8_walk_19 ?_
    refine g_getI C fi_X8_77 (by decide) (h12257.at).1 (h12257.at).2 dX8_walk_22 ?_
    have h12258 := I.rg (h12257.at) 2 rfl
    refine g_aload_n C dX8_walk_25 rfl 0 rfl ?_
    refine g_getI C fi_X8_51 (by decide) (ha0).1 (ha0).2 dX8_walk_26 ?_
    have h12259 := I.rg (ha0) 6 rfl
    refine b_icmp_ne C 44 dX8_walk_29 (by decide) (fun h12260 => ?_) (fun h12260 => ?_)
    · have h12260 : (pI P b12255 2).toInt ≠ (pI P a0 6).toInt := ti_ne h12260
      exact J44 
    · have h12260 : (pI P b12255 2).toInt = (pI P a0 6).toInt := congrArg Int32.toInt h12260
      refine g_lv (lv' := [(0, .ref a0), (1, .int a1), (2, .int a2)]) [0, 1, 2] rfl ?_
      exact J32 
  · have h12253 : (pI P a0 5).toInt = 0 := congrArg Int32.toInt h12253
    refine g_iload_n C dX8_walk_7 rfl 3 rfl ?_
    refine g_aload_n C dX8_walk_8 rfl 0 rfl ?_
    refine g_getI C fi_X8_56 (by decide) (ha0).1 (ha0).2 dX8_walk_9 ?_
    have u12262 := ti_rng a3
    have u12263 := ti_rng (pI P a0 7)
    refine b_icmp_ne C 44 dX8_walk_12 (by decide) (fun h12261 => ?_) (fun h12261 => ?_)
    · have h12261 : a3.toInt ≠ (pI P a0 7).toInt := ti_ne h12261
      exact J44 
    · have h12261 : a3.toInt = (pI P a0 7).toInt := congrArg Int32.toInt h12261
      refine g_goto C 32 dX8_walk_15 (by decide) ?_
      refine g_lv (lv' := [(0, .ref a0), (1, .int a1), (2, .int a2)]) [0, 1, 2] rfl ?_
      exact J32 
theorem dX8_tally_129 : decode cX8_tally 129 = .ok (.return_, 1) := by decide +kernel
set_option maxHeartbeats 4000000 in
set_option maxRecDepth 100000 in
theorem s_X8_tally {P : PP} {a0 : Nat} {a1 : Nat} {a2 : Int32} {a3 : Int32} {a4 : Int32} (I : IV P) (ha0 : At P a0 8) (ha1 : At P a1 1) (ha2 : 1 ≤ a2.toInt ∧ a2.toInt ≤ 11) (ha4 : 0 ≤ a4.toInt ∧ a4.toInt ≤ 20) : CtrV yX8_tally cX8_tally 6 none ({ frames := 15, cells := 0, slots := 0, locals := 960 } : Room) 0 0 P [.ref a0, .ref a1, .int a2, .int a3, .int a4] (fun P2 => IV P2 ∧ EK [0, 1, 5, 8, 13] P P2) := by
  refine enV (lv := [(0, .ref a0), (1, .ref a1), (2, .int a2), (3, .int a3), (4, .int a4)]) (by decide) (Nat.le_of_ble_eq_true rfl) rfl (fun E D cy C Ci0 ret => ?_)
  have J58 : ∀ (n58 : Nat) (P58 : PP) (v58_5 : Int32), (11 - v58_5.toInt).toNat < n58 → (IV P58) → (EK [0, 1, 5, 8, 13] P P58) → (0 ≤ v58_5.toInt ∧ v58_5.toInt ≤ 11) → (1 ≤ (pI P58 a0 4).toInt ∧ (pI P58 a0 4).toInt ≤ 11) → G E ({ frames := 15, cells := 0, slots := 0, locals := 960 } : Room) D cy 6 P58 0 0 58 [(0, .ref a0), (1, .ref a1), (4, .int a4), (5, .int v58_5)] [] := by
    intro n58
    induction n58 with
    | zero => intro P58 v58_5 hm58 I58 X58 hv58_5 hq58_0; omega
    | succ n58 ih58 =>
      intro P58 v58_5 hm58 I58 X58 hv58_5 hq58_0
      have h13108 := X58.at ha0
      have h13109 := X58.at ha1
      have J95 : ∀ (P95 : PP) (v95_s0 : Int32) (b95_s2 : Nat), (IV P95) → (EK [0, 1, 5, 8, 13] P P95) → (0 ≤ v58_5.toInt ∧ v58_5.toInt ≤ 10) → (Ar P95 b95_s2 13 11) → (1 ≤ (pI P95 a0 4).toInt ∧ (pI P95 a0 4).toInt ≤ 11) → G E ({ frames := 15, cells := 0, slots := 0, locals := 960 } : Room) D cy 6 P95 0 0 95 [(0, .ref a0), (1, .ref a1), (4, .int a4), (5, .int v58_5)] [.int v95_s0, .int v58_5, .ref b95_s2] := by
        intro P95 v95_s0 b95_s2 I95 X95 hv95_5 hb95_s2 hq95_0
        have h13110 := X95.at ha0
        have h13111 := X95.at ha1
        refine g_iast (j := (v58_5.toInt.toNat)) C hb95_s2.1 hb95_s2.2.1 (ix_in hb95_s2.2.2 (by omega)) dX8_tally_95 ?_
        refine gp (ks := [13]) (I95.setA hb95_s2 (by decide)) (EK.setI hb95_s2.2.1 (by decide)) (fun Y13112 Iy13113 Xy13114 => ?_)
        have q13115 := Xy13114.keep h13110 (by decide) 4
        have Xz13116 : EK [0, 1, 5, 8, 13] P Y13112 := X95.tr (Xy13114.mono (by decide))
        have h13117 := Xy13114.at h13110
        have h13118 := Xy13114.at h13111
        refine s_iinc (lv0 := [(0, .ref a0), (1, .ref a1), (4, .int a4)]) (m := 1) C dX8_tally_96 3 rfl (by decide) rfl (by decide) (by omega) (fun z13119 h13120 => ?_)
        have h13120 : z13119.toInt = v58_5.toInt + 1 := h13120
        refine g_goto C 58 dX8_tally_99 (by decide) ?_
        refine g_lv (lv' := [(0, .ref a0), (1, .ref a1), (4, .int a4), (5, .int z13119)]) [1, 2, 3, 0] rfl ?_
        exact ih58 Y13112 z13119 (by omega) Iy13113 Xz13116 (by omega) (by omega)
      refine g_iload C dX8_tally_58 3 rfl ?_
      refine g_aload_n C dX8_tally_60 rfl 0 rfl ?_
      refine g_getI C fi_X8_38 (by decide) (h13108).1 (h13108).2 dX8_tally_61 ?_
      refine b_icmp_ge C 102 dX8_tally_64 (by decide) (fun h13121 => ?_) (fun h13121 => ?_)
      · have h13121 : (pI P58 a0 4).toInt ≤ v58_5.toInt := h13121
        refine g_aload_n C dX8_tally_102 rfl 0 rfl ?_
        obtain ⟨b13122, e13123, h13124⟩ := I58.fld (h13108) 2 5 0 rfl
        refine g_getR C fi_X8_21 rfl e13123 (h13108).1 (h13108).2 dX8_tally_103 ?_
        refine g_aload_n C dX8_tally_106 rfl 1 rfl ?_
        refine g_callVV (rest := []) C mv_X8_65 [.ref a1] (s_X5_startWith I58 h13124.at h13109) (h13124.at).1 (h13124.at).2 rfl rfl (by decide) (Nat.le_of_ble_eq_true rfl) (by decide) dX8_tally_107 (fun Y13126 h13127 => ?_)
        obtain ⟨Iy13128, Xy13129⟩ := h13127
        have q13130 := Xy13129.keep h13108 (by decide) 4
        have Xz13131 : EK [0, 1, 5, 8, 13] P Y13126 := X58.tr (Xy13129.mono (by decide))
        have h13132 := Xy13129.at h13108
        have h13133 := Xy13129.at h13109
        refine g_aload_n C dX8_tally_110 rfl 0 rfl ?_
        obtain ⟨b13134, e13135, h13136⟩ := Iy13128.fld (h13132) 3 0 0 rfl
        refine g_getR C fi_X8_28 rfl e13135 (h13132).1 (h13132).2 dX8_tally_111 ?_
        refine g_aload_n C dX8_tally_114 rfl 0 rfl ?_
        obtain ⟨b13137, e13138, h13139⟩ := Iy13128.fld (h13132) 2 5 0 rfl
        refine g_getR C fi_X8_21 rfl e13138 (h13132).1 (h13132).2 dX8_tally_115 ?_
        refine g_iconst (v := (-1)) C dX8_tally_118 (by decide) ?_
        refine g_callVV (rest := []) C mv_X8_69 [.ref b13137, .int (-1)] (s_X0_take Iy13128 h13136.at h13139.at) (h13136.at).1 (h13136.at).2 rfl rfl (by decide) (Nat.le_of_ble_eq_true rfl) (by decide) dX8_tally_119 (fun Y13141 h13142 => ?_)
        obtain ⟨Iy13143, Xy13144⟩ := h13142
        have q13145 := Xy13144.keep h13132 (by decide) 4
        have Xz13146 : EK [0, 1, 5, 8, 13] P Y13141 := Xz13131.tr (Xy13144.mono (by decide))
        have h13147 := Xy13144.at h13132
        have h13148 := Xy13144.at h13133
        refine g_aload_n C dX8_tally_122 rfl 0 rfl ?_
        refine g_iconst (v := 0) C dX8_tally_123 (by decide) ?_
        refine g_iconst (v := 0) C dX8_tally_124 (by decide) ?_
        refine g_iconst (v := 0) C dX8_tally_125 (by decide) ?_
        refine g_callVV (rest := []) C mv_X8_73 [.int 0, .int 0, .int 0] (s_X8_walk_L11 Iy13143 h13147 (by decide) (by decide)) (h13147).1 (h13147).2 rfl rfl (by decide) (Nat.le_of_ble_eq_true rfl) (by decide) dX8_tally_126 (fun Y13150 h13151 => ?_)
        obtain ⟨Iy13152, Xy13153⟩ := h13151
        have q13154 := Xy13153.keep h13147 (by decide) 4
        have Xz13155 : EK [0, 1, 5, 8, 13] P Y13150 := Xz13146.tr (Xy13153.mono (by decide))
        have h13156 := Xy13153.at h13147
        have h13157 := Xy13153.at h13148
        exact ret _ _ _ _ _ dX8_tally_129 (by decide) (by decide) ⟨Iy13152, Xz13155⟩
      · have h13121 : v58_5.toInt < (pI P58 a0 4).toInt := h13121
        refine g_aload_n C dX8_tally_67 rfl 0 rfl ?_
        obtain ⟨b13158, e13159, h13160⟩ := I58.fld (h13108) 1 13 11 rfl
        refine g_getR C fi_X8_15 rfl e13159 (h13108).1 (h13108).2 dX8_tally_68 ?_
        refine g_iload C dX8_tally_71 3 rfl ?_
        refine g_iload C dX8_tally_73 2 rfl ?_
        refine b_if_le C 89 dX8_tally_75 (by decide) (fun h13161 => ?_) (fun h13161 => ?_)
        · have h13161 : a4.toInt ≤ 0 := h13161
          refine g_aload_n C dX8_tally_89 rfl 1 rfl ?_
          refine g_iload C dX8_tally_90 3 rfl ?_
          refine g_callVI (rest := [.int v58_5, .ref b13158]) C mv_X8_61 [.int v58_5] (s_X1_pagesOf I58 h13109) (h13109).1 (h13109).2 rfl rfl (by decide) (Nat.le_of_ble_eq_true rfl) (by decide) dX8_tally_92 (fun r13162 Y13163 h13164 => ?_)
          obtain ⟨Iy13165, Xy13166, h13164⟩ := h13164
          have q13167 := Xy13166.keep h13108 (by decide) 4
          have Xz13168 : EK [0, 1, 5, 8, 13] P Y13163 := X58.tr (Xy13166.mono (by decide))
          have e13169 := Xy13166.ref h13108 (by decide) e13159
          have h13170 := Xy13166.at h13108
          have h13171 := Xy13166.at h13109
          have h13172 := Xy13166.ar h13160
          have h13164 : True := h13164
          exact J95 Y13163 r13162 b13158 Iy13165 Xz13168 (by omega) h13172 (by omega)
        · have h13161 : 0 < a4.toInt := h13161
          refine g_aload_n C dX8_tally_78 rfl 1 rfl ?_
          refine g_iload C dX8_tally_79 3 rfl ?_
          refine g_iload C dX8_tally_81 2 rfl ?_
          refine g_callVI (rest := [.int v58_5, .ref b13158]) C mv_X8_58 [.int v58_5, .int a4] (s_X1_drawPages I58 h13109 (by omega)) (h13109).1 (h13109).2 rfl rfl (by decide) (Nat.le_of_ble_eq_true rfl) (by decide) dX8_tally_83 (fun r13173 Y13174 h13175 => ?_)
          obtain ⟨Iy13176, Xy13177, h13175⟩ := h13175
          have q13178 := Xy13177.keep h13108 (by decide) 4
          have Xz13179 : EK [0, 1, 5, 8, 13] P Y13174 := X58.tr (Xy13177.mono (by decide))
          have e13180 := Xy13177.ref h13108 (by decide) e13159
          have h13181 := Xy13177.at h13108
          have h13182 := Xy13177.at h13109
          have h13183 := Xy13177.ar h13160
          have h13175 : True := h13175
          refine g_goto C 95 dX8_tally_86 (by decide) ?_
          exact J95 Y13174 r13173 b13158 Iy13176 Xz13179 (by omega) h13183 (by omega)
  have J34 : ∀ (n34 : Nat) (P34 : PP) (v34_5 : Int32), (12 - v34_5.toInt).toNat < n34 → (IV P34) → (EK [0, 1, 5, 8, 13] P P34) → (0 ≤ v34_5.toInt ∧ v34_5.toInt ≤ 12) → (1 ≤ (pI P34 a0 4).toInt ∧ (pI P34 a0 4).toInt ≤ 11) → G E ({ frames := 15, cells := 0, slots := 0, locals := 960 } : Room) D cy 6 P34 0 0 34 [(0, .ref a0), (1, .ref a1), (4, .int a4), (5, .int v34_5)] [] := by
    intro n34
    induction n34 with
    | zero => intro P34 v34_5 hm34 I34 X34 hv34_5 hq34_0; omega
    | succ n34 ih34 =>
      intro P34 v34_5 hm34 I34 X34 hv34_5 hq34_0
      have h13184 := X34.at ha0
      have h13185 := X34.at ha1
      refine g_iload C dX8_tally_34 3 rfl ?_
      refine g_bipush (v := 11) C dX8_tally_36 (by decide) ?_
      refine b_icmp_gt C 55 dX8_tally_38 (by decide) (fun h13186 => ?_) (fun h13186 => ?_)
      · have h13186 : 11 < v34_5.toInt := h13186
        refine g_iconst (v := 0) C dX8_tally_55 (by decide) ?_
        refine g_istore (lv' := [(5, .int 0), (0, .ref a0), (1, .ref a1), (4, .int a4)]) C dX8_tally_56 (by decide) rfl ?_
        refine g_lv (lv' := [(0, .ref a0), (1, .ref a1), (4, .int a4), (5, .int 0)]) [1, 2, 3, 0] rfl ?_
        exact J58 _ P34 0 (Nat.lt_succ_self _) I34 X34 (by decide) (by omega)
      · have h13186 : v34_5.toInt ≤ 11 := h13186
        refine g_aload_n C dX8_tally_41 rfl 0 rfl ?_
        obtain ⟨b13187, e13188, h13189⟩ := I34.fld (h13184) 0 13 12 rfl
        refine g_getR C fi_X8_9 rfl e13188 (h13184).1 (h13184).2 dX8_tally_42 ?_
        refine g_iload C dX8_tally_45 3 rfl ?_
        refine g_iconst (v := 0) C dX8_tally_47 (by decide) ?_
        refine g_iast (j := (v34_5.toInt.toNat)) C h13189.1 h13189.2.1 (ix_in h13189.2.2 (by omega)) dX8_tally_48 ?_
        refine gp (ks := [13]) (I34.setA h13189 (by decide)) (EK.setI h13189.2.1 (by decide)) (fun Y13190 Iy13191 Xy13192 => ?_)
        have q13193 := Xy13192.keep h13184 (by decide) 4
        have Xz13194 : EK [0, 1, 5, 8, 13] P Y13190 := X34.tr (Xy13192.mono (by decide))
        have h13195 := Xy13192.at h13184
        have h13196 := Xy13192.at h13185
        refine s_iinc (lv0 := [(0, .ref a0), (1, .ref a1), (4, .int a4)]) (m := 1) C dX8_tally_49 3 rfl (by decide) rfl (by decide) (by omega) (fun z13197 h13198 => ?_)
        have h13198 : z13197.toInt = v34_5.toInt + 1 := h13198
        refine g_goto C 34 dX8_tally_52 (by decide) ?_
        refine g_lv (lv' := [(0, .ref a0), (1, .ref a1), (4, .int a4), (5, .int z13197)]) [1, 2, 3, 0] rfl ?_
        exact ih34 Y13190 z13197 (by omega) Iy13191 Xz13194 (by omega) (by omega)
  refine g_aload_n C dX8_tally_0 rfl 0 rfl ?_
  refine g_iload_n C dX8_tally_1 rfl 2 rfl ?_
  refine g_bipush (v := 11) C dX8_tally_2 (by decide) ?_
  refine g_mmin C ms_X8_32 (by decide) (by decide) (Nat.le_of_ble_eq_true rfl) (by decide) dX8_tally_4 (fun z13199 h13200 => ?_)
  have h13200 : z13199.toInt ≤ a2.toInt ∧ z13199.toInt ≤ 11 ∧ (z13199.toInt = a2.toInt ∨ z13199.toInt = 11) := h13200
  refine g_putI C fi_X8_38 rfl (ha0).1 (ha0).2 dX8_tally_7 ?_
  refine gpW (ks := [8]) (I.setI (ha0) (rgOk.of rfl (by omega))) (EK.setI (ha0).2 (by decide)) (fun Y13201 Iy13202 Xy13203 w13204 w13205 => ?_)
  have Xz13206 : EK [0, 1, 5, 8, 13] P Y13201 := Xy13203.mono (by decide)
  have h13207 := Xy13203.at ha0
  have h13208 := Xy13203.at ha1
  refine g_aload_n C dX8_tally_10 rfl 0 rfl ?_
  refine g_iload_n C dX8_tally_11 rfl 3 rfl ?_
  refine g_putI C fi_X8_42 rfl (h13207).1 (h13207).2 dX8_tally_12 ?_
  refine gpW (ks := [8]) (Iy13202.setI (h13207) (rgOk.none rfl)) (EK.setI (h13207).2 (by decide)) (fun Y13209 Iy13210 Xy13211 w13212 w13213 => ?_)
  have q13214 := w13212 4 (by decide)
  have Xz13215 : EK [0, 1, 5, 8, 13] P Y13209 := Xz13206.tr (Xy13211.mono (by decide))
  have h13216 := Xy13211.at h13207
  have h13217 := Xy13211.at h13208
  refine g_aload_n C dX8_tally_15 rfl 0 rfl ?_
  refine g_aload_n C dX8_tally_16 rfl 1 rfl ?_
  refine g_callVI (rest := [.ref a0]) C mv_X8_45 [] (s_X1_all Iy13210 h13217) (h13217).1 (h13217).2 rfl rfl (by decide) (Nat.le_of_ble_eq_true rfl) (by decide) dX8_tally_17 (fun r13218 Y13219 h13220 => ?_)
  obtain ⟨rfl, h13220⟩ := h13220
  have h13220 : 0 ≤ r13218.toInt ∧ r13218.toInt ≤ 20 := h13220
  refine g_putI C fi_X8_51 rfl (h13216).1 (h13216).2 dX8_tally_20 ?_
  refine gpW (ks := [8]) (Iy13210.setI (h13216) (rgOk.of rfl (by omega))) (EK.setI (h13216).2 (by decide)) (fun Y13221 Iy13222 Xy13223 w13224 w13225 => ?_)
  have q13226 := w13224 4 (by decide)
  have q13227 := w13224 5 (by decide)
  have Xz13228 : EK [0, 1, 5, 8, 13] P Y13221 := Xz13215.tr (Xy13223.mono (by decide))
  have h13229 := Xy13223.at h13216
  have h13230 := Xy13223.at h13217
  refine g_aload_n C dX8_tally_23 rfl 0 rfl ?_
  refine g_aload_n C dX8_tally_24 rfl 1 rfl ?_
  refine g_callVI (rest := [.ref a0]) C mv_X8_53 [] (s_X1_allBits Iy13222 h13230) (h13230).1 (h13230).2 rfl rfl (by decide) (Nat.le_of_ble_eq_true rfl) (by decide) dX8_tally_25 (fun r13231 Y13232 h13233 => ?_)
  obtain ⟨rfl, h13233⟩ := h13233
  have h13233 : True := h13233
  refine g_putI C fi_X8_56 rfl (h13229).1 (h13229).2 dX8_tally_28 ?_
  refine gpW (ks := [8]) (Iy13222.setI (h13229) (rgOk.none rfl)) (EK.setI (h13229).2 (by decide)) (fun Y13234 Iy13235 Xy13236 w13237 w13238 => ?_)
  have q13239 := w13237 4 (by decide)
  have q13240 := w13237 5 (by decide)
  have q13241 := w13237 6 (by decide)
  have Xz13242 : EK [0, 1, 5, 8, 13] P Y13234 := Xz13228.tr (Xy13236.mono (by decide))
  have h13243 := Xy13236.at h13229
  have h13244 := Xy13236.at h13230
  refine g_iconst (v := 0) C dX8_tally_31 (by decide) ?_
  refine g_istore (lv' := [(5, .int 0), (0, .ref a0), (1, .ref a1), (2, .int a2), (3, .int a3), (4, .int a4)]) C dX8_tally_32 (by decide) rfl ?_
  refine g_lv (lv' := [(0, .ref a0), (1, .ref a1), (4, .int a4), (5, .int 0)]) [1, 2, 5, 0] rfl ?_
  exact J34 _ Y13234 0 (Nat.lt_succ_self _) Iy13235 Xz13242 (by decide) (by omega)
