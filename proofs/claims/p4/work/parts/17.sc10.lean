theorem dX2_find_136 : decode cX2_find 136 = .ok (.aload_n 0, 1) := by decide +kernel
theorem dX2_find_137 : decode cX2_find 137 = .ok (.getfield 45, 3) := by decide +kernel
theorem dX2_find_140 : decode cX2_find 140 = .ok (.bipush 11, 2) := by decide +kernel
theorem dX2_find_142 : decode cX2_find 142 = .ok (.if_icmp .gt 7, 3) := by decide +kernel
theorem dX2_find_145 : decode cX2_find 145 = .ok (.iconst 1, 1) := by decide +kernel
theorem dX2_find_146 : decode cX2_find 146 = .ok (.goto 4, 3) := by decide +kernel
theorem dX2_find_149 : decode cX2_find 149 = .ok (.iconst 0, 1) := by decide +kernel
theorem dX2_find_150 : decode cX2_find 150 = .ok (.ireturn, 1) := by decide +kernel
set_option maxHeartbeats 4000000 in
set_option maxRecDepth 100000 in
theorem s_X2_find {P : PP} {a0 : Nat} {a1 : Nat} {a2 : Nat} {a3 : Nat} (I : IV P) (ha0 : At P a0 2) (ha1 : At P a1 1) (ha2 : At P a2 5) (ha3 : At P a3 5) : CtrI yX2_find cX2_find 7 (some Jvm.ClassFile.FieldType.boolean) ({ frames := 14, cells := 0, slots := 0, locals := 896 } : Room) 0 0 P [.ref a0, .ref a1, .ref a2, .ref a3] (fun r P2 => IV P2 ∧ EK [0, 1, 2, 13] P P2 ∧ (0 ≤ r.toInt ∧ r.toInt ≤ 1)) := by
  refine enI (lv := [(0, .ref a0), (1, .ref a1), (2, .ref a2), (3, .ref a3)]) (by decide) (Nat.le_of_ble_eq_true rfl) rfl (fun E D cy C Ci0 ret => ?_)
  have J62 : ∀ (n62 : Nat) (P62 : PP) (v62_4 : Int32), (11 - v62_4.toInt).toNat < n62 → (IV P62) → (EK [0, 1, 2, 13] P P62) → (0 ≤ v62_4.toInt ∧ v62_4.toInt ≤ 11) → (12 ≤ (pI P62 a0 5).toInt ∧ (pI P62 a0 5).toInt ≤ 12) → (0 ≤ (pI P62 a0 6).toInt ∧ (pI P62 a0 6).toInt ≤ 0) → (∀ b, pR P62 a0 2 = some b → 1 ≤ (pI P62 b 3).toInt ∧ (pI P62 b 3).toInt ≤ 1) → (∀ b, pR P62 a0 3 = some b → 1 ≤ (pI P62 b 3).toInt ∧ (pI P62 b 3).toInt ≤ 1) → G E ({ frames := 14, cells := 0, slots := 0, locals := 896 } : Room) D cy 7 P62 0 0 62 [(0, .ref a0), (1, .ref a1), (4, .int v62_4)] [] := by
    intro n62
    induction n62 with
    | zero => intro P62 v62_4 hm62 I62 X62 hv62_4 hq62_0 hq62_1 hq62_2 hq62_3; omega
    | succ n62 ih62 =>
      intro P62 v62_4 hm62 I62 X62 hv62_4 hq62_0 hq62_1 hq62_2 hq62_3
      have h42598 := X62.at ha0
      have h42599 := X62.at ha1
      have h42600 := X62.at ha2
      have h42601 := X62.at ha3
      obtain ⟨b42602, e42603, h42604⟩ := I62.fld (h42598) 2 0 0 rfl
      have hq62_2 := hq62_2 b42602 e42603
      obtain ⟨b42605, e42606, h42607⟩ := I62.fld (h42598) 3 0 0 rfl
      have hq62_3 := hq62_3 b42605 e42606
      refine g_iload C dX2_find_62 2 rfl ?_
      refine g_bipush (v := 11) C dX2_find_64 (by decide) ?_
      refine b_icmp_ge C 128 dX2_find_66 (by decide) (fun h42608 => ?_) (fun h42608 => ?_)
      · have h42608 : 11 ≤ v62_4.toInt := h42608
        refine g_aload_n C dX2_find_128 rfl 0 rfl ?_
        refine g_bipush (v := 10) C dX2_find_129 (by decide) ?_
        refine g_iconst (v := 0) C dX2_find_131 (by decide) ?_
        refine g_iconst (v := 0) C dX2_find_132 (by decide) ?_
        refine g_callVV (rest := []) C mv_X2_58 [.int 10, .int 0, .int 0] (s_X2_seek_L11 I62 h42598 (by decide) (by decide)) (h42598).1 (h42598).2 rfl rfl (by decide) (Nat.le_of_ble_eq_true rfl) (by decide) dX2_find_133 (fun Y42610 h42611 => ?_)
        obtain ⟨Iy42612, Xy42613⟩ := h42611
        have Xz42614 : EK [0, 1, 2, 13] P Y42610 := X62.tr (Xy42613.mono (by decide))
        have h42615 := Xy42613.at h42598
        have h42616 := Xy42613.at h42599
        have h42617 := Xy42613.at h42600
        have h42618 := Xy42613.at h42601
        refine g_aload_n C dX2_find_136 rfl 0 rfl ?_
        refine g_getI C fi_X2_45 (by decide) (h42615).1 (h42615).2 dX2_find_137 ?_
        have h42619 := Iy42612.rg (h42615) 5 rfl
        refine g_bipush (v := 11) C dX2_find_140 (by decide) ?_
        refine b_icmp_gt C 149 dX2_find_142 (by decide) (fun h42620 => ?_) (fun h42620 => ?_)
        · have h42620 : 11 < (pI Y42610 a0 5).toInt := h42620
          refine g_iconst (v := 0) C dX2_find_149 (by decide) ?_
          exact ret _ _ _ _ _ _ dX2_find_150 rfl (by decide) (by decide) ⟨Iy42612, Xz42614, (by decide)⟩
        · have h42620 : (pI Y42610 a0 5).toInt ≤ 11 := h42620
          refine g_iconst (v := 1) C dX2_find_145 (by decide) ?_
          refine g_goto C 150 dX2_find_146 (by decide) ?_
          exact ret _ _ _ _ _ _ dX2_find_150 rfl (by decide) (by decide) ⟨Iy42612, Xz42614, (by decide)⟩
      · have h42608 : v62_4.toInt < 11 := h42608
        refine g_aload_n C dX2_find_69 rfl 1 rfl ?_
        refine g_iload C dX2_find_70 2 rfl ?_
        refine g_callVI (rest := []) C mv_X2_51 [.int v62_4] (s_X1_pagesOf I62 h42599) (h42599).1 (h42599).2 rfl rfl (by decide) (Nat.le_of_ble_eq_true rfl) (by decide) dX2_find_72 (fun r42621 Y42622 h42623 => ?_)
        obtain ⟨Iy42624, Xy42625, h42623⟩ := h42623
        have q42626 := Xy42625.keep h42598 (by decide) 5
        have q42627 := Xy42625.keep h42598 (by decide) 6
        have q42628 := Xy42625.keep (h42604.at) (by decide) 3
        have q42629 := Xy42625.keep (h42607.at) (by decide) 3
        have Xz42630 : EK [0, 1, 2, 13] P Y42622 := X62.tr (Xy42625.mono (by decide))
        have e42631 := Xy42625.ref h42598 (by decide) e42603
        have e42632 := Xy42625.ref h42598 (by decide) e42606
        have h42633 := Xy42625.at h42598
        have h42634 := Xy42625.at h42599
        have h42635 := Xy42625.at h42600
        have h42636 := Xy42625.at h42601
        have h42637 := Xy42625.ar h42604
        have h42638 := Xy42625.ar h42607
        have h42623 : True := h42623
        refine g_istore (lv' := [(5, .int r42621), (0, .ref a0), (1, .ref a1), (4, .int v62_4)]) C dX2_find_75 (by decide) rfl ?_
        refine g_aload_n C dX2_find_77 rfl 2 rfl ?_
        refine g_iload C dX2_find_78 0 rfl ?_
        refine g_callVI (rest := []) C mv_X2_55 [.int r42621] (s_X1_sumOf Iy42624 h42634) (h42634).1 (h42634).2 rfl rfl (by decide) (Nat.le_of_ble_eq_true rfl) (by decide) dX2_find_80 (fun r42639 Y42640 h42641 => ?_)
        obtain ⟨rfl, h42641⟩ := h42641
        have h42641 : True := h42641
        refine g_istore (lv' := [(6, .int r42639), (5, .int r42621), (0, .ref a0), (1, .ref a1), (4, .int v62_4)]) C dX2_find_83 (by decide) rfl ?_
        refine g_aload_n C dX2_find_85 rfl 2 rfl ?_
        obtain ⟨b42642, e42643, h42644⟩ := Iy42624.fld (h42633) 0 13 11 rfl
        refine g_getR C fi_X2_9 rfl e42643 (h42633).1 (h42633).2 dX2_find_86 ?_
        refine g_iload C dX2_find_89 4 rfl ?_
        refine g_iload C dX2_find_91 1 rfl ?_
        refine g_iload C dX2_find_93 0 rfl ?_
        refine g_sipush (v := 255) C dX2_find_95 (by decide) ?_
        refine s_iand C dX2_find_98 (by show 0 ≤ 255; omega) (fun z42645 h42646 => ?_)
        have h42646 : 0 ≤ z42645.toInt ∧ z42645.toInt ≤ 255 := h42646
        refine g_bipush (v := 20) C dX2_find_99 (by decide) ?_
        refine a_ishl C dX2_find_101 (fun z42647 => ?_)
        refine a_ior C dX2_find_102 (fun z42649 => ?_)
        refine g_iast (j := (v62_4.toInt.toNat)) C h42644.1 h42644.2.1 (ix_in h42644.2.2 (by omega)) dX2_find_103 ?_
        refine gp (ks := [13]) (Iy42624.setA h42644 (by decide)) (EK.setI h42644.2.1 (by decide)) (fun Y42651 Iy42652 Xy42653 => ?_)
        have q42654 := Xy42653.keep h42633 (by decide) 5
        have q42655 := Xy42653.keep h42633 (by decide) 6
        have q42656 := Xy42653.keep (h42637.at) (by decide) 3
        have q42657 := Xy42653.keep (h42638.at) (by decide) 3
        have Xz42658 : EK [0, 1, 2, 13] P Y42651 := Xz42630.tr (Xy42653.mono (by decide))
        have e42659 := Xy42653.ref h42633 (by decide) e42631
        have e42660 := Xy42653.ref h42633 (by decide) e42632
        have h42661 := Xy42653.at h42633
        have h42662 := Xy42653.at h42634
        have h42663 := Xy42653.at h42635
        have h42664 := Xy42653.at h42636
        have h42665 := Xy42653.ar h42637
        have h42666 := Xy42653.ar h42638
        refine g_aload_n C dX2_find_104 rfl 2 rfl ?_
        obtain ⟨b42667, e42668, h42669⟩ := Iy42652.fld (h42661) 1 13 11 rfl
        refine g_getR C fi_X2_15 rfl e42668 (h42661).1 (h42661).2 dX2_find_105 ?_
        refine g_iload C dX2_find_108 4 rfl ?_
        refine g_iload C dX2_find_110 1 rfl ?_
        refine g_iload C dX2_find_112 0 rfl ?_
        refine g_bipush (v := 8) C dX2_find_114 (by decide) ?_
        refine a_ishr C dX2_find_116 (fun z42670 => ?_)
        refine g_bipush (v := 20) C dX2_find_117 (by decide) ?_
        refine a_ishl C dX2_find_119 (fun z42672 => ?_)
        refine a_ior C dX2_find_120 (fun z42674 => ?_)
        refine g_iast (j := (v62_4.toInt.toNat)) C h42669.1 h42669.2.1 (ix_in h42669.2.2 (by omega)) dX2_find_121 ?_
        refine gp (ks := [13]) (Iy42652.setA h42669 (by decide)) (EK.setI h42669.2.1 (by decide)) (fun Y42676 Iy42677 Xy42678 => ?_)
        have q42679 := Xy42678.keep h42661 (by decide) 5
        have q42680 := Xy42678.keep h42661 (by decide) 6
        have q42681 := Xy42678.keep (h42665.at) (by decide) 3
        have q42682 := Xy42678.keep (h42666.at) (by decide) 3
        have Xz42683 : EK [0, 1, 2, 13] P Y42676 := Xz42658.tr (Xy42678.mono (by decide))
        have e42684 := Xy42678.ref h42661 (by decide) e42659
        have e42685 := Xy42678.ref h42661 (by decide) e42660
        have h42686 := Xy42678.at h42661
        have h42687 := Xy42678.at h42662
        have h42688 := Xy42678.at h42663
        have h42689 := Xy42678.at h42664
        have h42690 := Xy42678.ar h42665
        have h42691 := Xy42678.ar h42666
        refine s_iinc (lv0 := [(6, .int r42639), (5, .int r42621), (0, .ref a0), (1, .ref a1)]) (m := 1) C dX2_find_122 4 rfl (by decide) rfl (by decide) (by omega) (fun z42692 h42693 => ?_)
        have h42693 : z42692.toInt = v62_4.toInt + 1 := h42693
        refine g_goto C 62 dX2_find_125 (by decide) ?_
        refine g_lv (lv' := [(0, .ref a0), (1, .ref a1), (4, .int z42692)]) [3, 4, 0] rfl ?_
        exact ih62 Y42676 z42692 (by omega) Iy42677 Xz42683 (by omega) (by omega) (by omega) (fun b9 e9 => by rw [e42684] at e9; cases e9; omega) (fun b9 e9 => by rw [e42685] at e9; cases e9; omega)
  have J38 : ∀ (P38 : PP), (IV P38) → (EK [0, 1, 2, 13] P P38) → (∀ b, pR P38 a0 2 = some b → 0 ≤ (pI P38 b 3).toInt ∧ (pI P38 b 3).toInt ≤ 1) → G E ({ frames := 14, cells := 0, slots := 0, locals := 896 } : Room) D cy 7 P38 0 0 38 [] [] := by
    intro P38 I38 X38 hq38_0
    have h42694 := X38.at ha0
    have h42695 := X38.at ha1
    have h42696 := X38.at ha2
    have h42697 := X38.at ha3
    obtain ⟨b42698, e42699, h42700⟩ := I38.fld (h42694) 2 0 0 rfl
    have hq38_0 := hq38_0 b42698 e42699
    refine g_iconst (v := 0) C dX2_find_38 (by decide) ?_
    exact ret _ _ _ _ _ _ dX2_find_39 rfl (by decide) (by decide) ⟨I38, X38, (by decide)⟩
  refine g_aload_n C dX2_find_0 rfl 0 rfl ?_
  obtain ⟨b42701, e42702, h42703⟩ := I.fld (ha0) 2 0 0 rfl
  refine g_getR C fi_X2_21 rfl e42702 (ha0).1 (ha0).2 dX2_find_1 ?_
  refine g_aload_n C dX2_find_4 rfl 2 rfl ?_
  refine g_iconst (v := (-1)) C dX2_find_5 (by decide) ?_
  refine g_callVV (rest := []) C mv_X2_28 [.ref a2, .int (-1)] (s_X0_take I h42703.at ha2) (h42703.at).1 (h42703.at).2 rfl rfl (by decide) (Nat.le_of_ble_eq_true rfl) (by decide) dX2_find_6 (fun Y42705 h42706 => ?_)
  obtain ⟨Iy42707, Xy42708⟩ := h42706
  have Xz42709 : EK [0, 1, 2, 13] P Y42705 := Xy42708.mono (by decide)
  have h42710 := Xy42708.at ha0
  have h42711 := Xy42708.at ha1
  have h42712 := Xy42708.at ha2
  have h42713 := Xy42708.at ha3
  refine g_aload_n C dX2_find_9 rfl 0 rfl ?_
  obtain ⟨b42714, e42715, h42716⟩ := Iy42707.fld (h42710) 3 0 0 rfl
  refine g_getR C fi_X2_25 rfl e42715 (h42710).1 (h42710).2 dX2_find_10 ?_
  refine g_aload_n C dX2_find_13 rfl 3 rfl ?_
  refine g_iconst (v := (-1)) C dX2_find_14 (by decide) ?_
  refine g_callVV (rest := []) C mv_X2_28 [.ref a3, .int (-1)] (s_X0_take Iy42707 h42716.at h42713) (h42716.at).1 (h42716.at).2 rfl rfl (by decide) (Nat.le_of_ble_eq_true rfl) (by decide) dX2_find_15 (fun Y42718 h42719 => ?_)
  obtain ⟨Iy42720, Xy42721⟩ := h42719
  have Xz42722 : EK [0, 1, 2, 13] P Y42718 := Xz42709.tr (Xy42721.mono (by decide))
  have h42723 := Xy42721.at h42710
  have h42724 := Xy42721.at h42711
  have h42725 := Xy42721.at h42712
  have h42726 := Xy42721.at h42713
  refine g_aload_n C dX2_find_18 rfl 0 rfl ?_
  obtain ⟨b42727, e42728, h42729⟩ := Iy42720.fld (h42723) 2 0 0 rfl
  refine g_getR C fi_X2_21 rfl e42728 (h42723).1 (h42723).2 dX2_find_19 ?_
  refine g_getI C fi_X2_32 (by decide) (h42729.at).1 (h42729.at).2 dX2_find_22 ?_
  have h42730 := Iy42720.rg (h42729.at) 3 rfl
  refine b_if_eq C 38 dX2_find_25 (by decide) (fun h42731 => ?_) (fun h42731 => ?_)
  · have h42731 : (pI Y42718 b42727 3).toInt = 0 := congrArg Int32.toInt h42731
    refine g_lv (lv' := []) [] rfl ?_
    exact J38 Y42718 Iy42720 Xz42722 (fun b9 e9 => by rw [e42728] at e9; cases e9; omega)
  · have h42731 : (pI Y42718 b42727 3).toInt ≠ 0 := ti_ne h42731
    refine g_aload_n C dX2_find_28 rfl 0 rfl ?_
    obtain ⟨b42732, e42733, h42734⟩ := Iy42720.fld (h42723) 3 0 0 rfl
    refine g_getR C fi_X2_25 rfl e42733 (h42723).1 (h42723).2 dX2_find_29 ?_
    refine g_getI C fi_X2_32 (by decide) (h42734.at).1 (h42734.at).2 dX2_find_32 ?_
    have h42735 := Iy42720.rg (h42734.at) 3 rfl
    refine b_if_ne C 40 dX2_find_35 (by decide) (fun h42736 => ?_) (fun h42736 => ?_)
    · have h42736 : (pI Y42718 b42732 3).toInt ≠ 0 := ti_ne h42736
      refine g_aload_n C dX2_find_40 rfl 0 rfl ?_
      refine g_aload_n C dX2_find_41 rfl 1 rfl ?_
      refine g_callVI (rest := [.ref a0]) C mv_X2_36 [] (s_X1_all Iy42720 h42724) (h42724).1 (h42724).2 rfl rfl (by decide) (Nat.le_of_ble_eq_true rfl) (by decide) dX2_find_42 (fun r42737 Y42738 h42739 => ?_)
      obtain ⟨rfl, h42739⟩ := h42739
      have h42739 : 0 ≤ r42737.toInt ∧ r42737.toInt ≤ 20 := h42739
      refine g_putI C fi_X2_42 rfl (h42723).1 (h42723).2 dX2_find_45 ?_
      refine gpW (ks := [2]) (Iy42720.setI (h42723) (rgOk.of rfl (by omega))) (EK.setI (h42723).2 (by decide)) (fun Y42740 Iy42741 Xy42742 w42743 w42744 => ?_)
      have q42745 := Xy42742.keep (h42729.at) (by decide) 3
      have q42746 := Xy42742.keep (h42734.at) (by decide) 3
      have Xz42747 : EK [0, 1, 2, 13] P Y42740 := Xz42722.tr (Xy42742.mono (by decide))
      have e42748 := Xy42742.ref h42723 (by decide) e42728
      have e42749 := Xy42742.ref h42723 (by decide) e42733
      have h42750 := Xy42742.at h42723
      have h42751 := Xy42742.at h42724
      have h42752 := Xy42742.at h42725
      have h42753 := Xy42742.at h42726
      have h42754 := Xy42742.ar h42729
      have h42755 := Xy42742.ar h42734
      refine g_aload_n C dX2_find_48 rfl 0 rfl ?_
      refine g_bipush (v := 12) C dX2_find_49 (by decide) ?_
      refine g_putI C fi_X2_45 rfl (h42750).1 (h42750).2 dX2_find_51 ?_
      refine gpW (ks := [2]) (Iy42741.setI (h42750) (rgOk.of rfl (by decide))) (EK.setI (h42750).2 (by decide)) (fun Y42756 Iy42757 Xy42758 w42759 w42760 => ?_)
      have w42760 : (pI Y42756 a0 5).toInt = 12 := w42760
      have q42761 := Xy42758.keep (h42754.at) (by decide) 3
      have q42762 := Xy42758.keep (h42755.at) (by decide) 3
      have q42763 := w42759 4 (by decide)
      have Xz42764 : EK [0, 1, 2, 13] P Y42756 := Xz42747.tr (Xy42758.mono (by decide))
      have e42765 := Xy42758.ref h42750 (by decide) e42748
      have e42766 := Xy42758.ref h42750 (by decide) e42749
      have h42767 := Xy42758.at h42750
      have h42768 := Xy42758.at h42751
      have h42769 := Xy42758.at h42752
      have h42770 := Xy42758.at h42753
      have h42771 := Xy42758.ar h42754
      have h42772 := Xy42758.ar h42755
      refine g_aload_n C dX2_find_54 rfl 0 rfl ?_
      refine g_iconst (v := 0) C dX2_find_55 (by decide) ?_
      refine g_putI C fi_X2_48 rfl (h42767).1 (h42767).2 dX2_find_56 ?_
      refine gpW (ks := [2]) (Iy42757.setI (h42767) (rgOk.none rfl)) (EK.setI (h42767).2 (by decide)) (fun Y42773 Iy42774 Xy42775 w42776 w42777 => ?_)
      have w42777 : (pI Y42773 a0 6).toInt = 0 := w42777
      have q42778 := Xy42775.keep (h42771.at) (by decide) 3
      have q42779 := Xy42775.keep (h42772.at) (by decide) 3
      have q42780 := w42776 4 (by decide)
      have q42781 := w42776 5 (by decide)
      have Xz42782 : EK [0, 1, 2, 13] P Y42773 := Xz42764.tr (Xy42775.mono (by decide))
      have e42783 := Xy42775.ref h42767 (by decide) e42765
      have e42784 := Xy42775.ref h42767 (by decide) e42766
      have h42785 := Xy42775.at h42767
      have h42786 := Xy42775.at h42768
      have h42787 := Xy42775.at h42769
      have h42788 := Xy42775.at h42770
      have h42789 := Xy42775.ar h42771
      have h42790 := Xy42775.ar h42772
      refine g_iconst (v := 0) C dX2_find_59 (by decide) ?_
      refine g_istore (lv' := [(4, .int 0), (0, .ref a0), (1, .ref a1), (2, .ref a2), (3, .ref a3)]) C dX2_find_60 (by decide) rfl ?_
      refine g_lv (lv' := [(0, .ref a0), (1, .ref a1), (4, .int 0)]) [1, 2, 0] rfl ?_
      exact J62 _ Y42773 0 (Nat.lt_succ_self _) Iy42774 Xz42782 (by decide) (by omega) (by omega) (fun b9 e9 => by rw [e42783] at e9; cases e9; omega) (fun b9 e9 => by rw [e42784] at e9; cases e9; omega)
    · have h42736 : (pI Y42718 b42732 3).toInt = 0 := congrArg Int32.toInt h42736
      refine g_lv (lv' := []) [] rfl ?_
      exact J38 Y42718 Iy42720 Xz42722 (fun b9 e9 => by rw [e42728] at e9; cases e9; omega)
theorem dX11_tocome_24 : decode cX11_tocome 24 = .ok (.iconst (-1), 1) := by decide +kernel
theorem dX11_tocome_25 : decode cX11_tocome 25 = .ok (.ireturn, 1) := by decide +kernel
theorem dX11_tocome_61 : decode cX11_tocome 61 = .ok (.ifCond .ne 5, 3) := by decide +kernel
theorem dX11_tocome_64 : decode cX11_tocome 64 = .ok (.iconst (-1), 1) := by decide +kernel
theorem dX11_tocome_65 : decode cX11_tocome 65 = .ok (.ireturn, 1) := by decide +kernel
theorem dX11_tocome_66 : decode cX11_tocome 66 = .ok (.iload_n 3, 1) := by decide +kernel
theorem dX11_tocome_67 : decode cX11_tocome 67 = .ok (.ifCond .ne 13, 3) := by decide +kernel
theorem dX11_tocome_70 : decode cX11_tocome 70 = .ok (.aload_n 0, 1) := by decide +kernel
theorem dX11_tocome_71 : decode cX11_tocome 71 = .ok (.getfield 67, 3) := by decide +kernel
theorem dX11_tocome_74 : decode cX11_tocome 74 = .ok (.getfield 283, 3) := by decide +kernel
theorem dX11_tocome_77 : decode cX11_tocome 77 = .ok (.goto 10, 3) := by decide +kernel
theorem dX11_tocome_80 : decode cX11_tocome 80 = .ok (.aload_n 0, 1) := by decide +kernel
theorem dX11_tocome_81 : decode cX11_tocome 81 = .ok (.getfield 67, 3) := by decide +kernel
theorem dX11_tocome_84 : decode cX11_tocome 84 = .ok (.getfield 286, 3) := by decide +kernel
theorem dX11_tocome_87 : decode cX11_tocome 87 = .ok (.ireturn, 1) := by decide +kernel
set_option maxHeartbeats 4000000 in
set_option maxRecDepth 100000 in
theorem s_X11_tocome {P : PP} {a0 : Nat} {a1 : Int32} {a2 : Int32} {a3 : Int32} (I : IV P) (ha0 : At P a0 11) : CtrI yX11_tocome cX11_tocome 6 (some Jvm.ClassFile.FieldType.int) ({ frames := 15, cells := 0, slots := 0, locals := 960 } : Room) 0 0 P [.ref a0, .int a1, .int a2, .int a3] (fun r P2 => IV P2 ∧ EK [0, 1, 2, 5, 13] P P2 ∧ (True)) := by
  refine enI (lv := [(0, .ref a0), (1, .int a1), (2, .int a2), (3, .int a3)]) (by decide) (Nat.le_of_ble_eq_true rfl) rfl (fun E D cy C Ci0 ret => ?_)
  have J24 : G E ({ frames := 15, cells := 0, slots := 0, locals := 960 } : Room) D cy 6 P 0 0 24 [] [] := by
    refine g_iconst (v := (-1)) C dX11_tocome_24 (by decide) ?_
    exact ret _ _ _ _ _ _ dX11_tocome_25 rfl (by decide) (by decide) ⟨I, EK.rf, trivial⟩
  refine g_iload_n C dX11_tocome_0 rfl 1 rfl ?_
  refine g_callSI (b := 0) (ci := 0) (rest := []) C ms_X11_158 [.int a1] (s_X11_isQuarter I) rfl rfl (by decide) (Nat.le_of_ble_eq_true rfl) (by decide) dX11_tocome_1 (fun r42851 Y42852 h42853 => ?_)
  obtain ⟨rfl, h42853⟩ := h42853
  obtain ⟨h42853, hi42854⟩ := h42853
  have hi42854 : r42851.toInt = 0 ∨ (((0 : Int) ≤ a1.toInt ∧ a1.toInt ≤ (3 : Int))) := hi42854
  have h42853 : 0 ≤ r42851.toInt ∧ r42851.toInt ≤ 1 := h42853
  refine b_if_eq C 24 dX11_tocome_4 (by decide) (fun h42855 => ?_) (fun h42855 => ?_)
  · have h42855 : r42851.toInt = 0 := congrArg Int32.toInt h42855
    clear hi42854
    refine g_lv (lv' := []) [] rfl ?_
    exact J24 
  · have h42855 : r42851.toInt ≠ 0 := ti_ne h42855
    replace hi42854 := hi42854.resolve_left (by omega)
    refine g_aload_n C dX11_tocome_7 rfl 0 rfl ?_
    refine g_iload_n C dX11_tocome_8 rfl 2 rfl ?_
    refine g_callVI (rest := []) C mv_X11_97 [.int a2] (s_X11_isTold I ha0) (ha0).1 (ha0).2 rfl rfl (by decide) (Nat.le_of_ble_eq_true rfl) (by decide) dX11_tocome_9 (fun r42856 Y42857 h42858 => ?_)
    obtain ⟨rfl, h42858⟩ := h42858
    obtain ⟨h42858, hi42859⟩ := h42858
    have hi42859 : r42856.toInt = 0 ∨ (((0 : Int) ≤ a2.toInt ∧ a2.toInt ≤ (1 : Int))) := hi42859
    have h42858 : 0 ≤ r42856.toInt ∧ r42856.toInt ≤ 1 := h42858
    refine b_if_eq C 24 dX11_tocome_12 (by decide) (fun h42860 => ?_) (fun h42860 => ?_)
    · have h42860 : r42856.toInt = 0 := congrArg Int32.toInt h42860
      clear hi42859
      refine g_lv (lv' := []) [] rfl ?_
      exact J24 
    · have h42860 : r42856.toInt ≠ 0 := ti_ne h42860
      replace hi42859 := hi42859.resolve_left (by omega)
      refine g_iload_n C dX11_tocome_15 rfl 3 rfl ?_
      have u42862 := ti_rng a3
      refine b_if_lt C 24 dX11_tocome_16 (by decide) (fun h42861 => ?_) (fun h42861 => ?_)
      · have h42861 : a3.toInt < 0 := h42861
        refine g_lv (lv' := []) [] rfl ?_
        exact J24 
      · have h42861 : 0 ≤ a3.toInt := h42861
        refine g_iload_n C dX11_tocome_19 rfl 3 rfl ?_
        refine g_iconst (v := 1) C dX11_tocome_20 (by decide) ?_
        have u42864 := ti_rng a3
        refine b_icmp_le C 26 dX11_tocome_21 (by decide) (fun h42863 => ?_) (fun h42863 => ?_)
        · have h42863 : a3.toInt ≤ 1 := h42863
          refine g_aload_n C dX11_tocome_26 rfl 0 rfl ?_
          refine g_iload_n C dX11_tocome_27 rfl 1 rfl ?_
          refine g_iload_n C dX11_tocome_28 rfl 2 rfl ?_
          refine g_iconst (v := 0) C dX11_tocome_29 (by decide) ?_
          refine g_callVQ (rest := []) C mv_X11_216 [.int a1, .int a2, .int 0] (s_X11_gather I ha0 (by omega) (by omega) (by decide)) (ha0).1 (ha0).2 rfl rfl (by decide) (Nat.le_of_ble_eq_true rfl) (by decide) dX11_tocome_30 (fun r42865 Y42866 h42867 => ?_)
          obtain ⟨Iy42868, Xy42869, h42867⟩ := h42867
          have Xz42870 : EK [0, 1, 2, 5, 13] P Y42866 := Xy42869.mono (by decide)
          have h42871 := Xy42869.at ha0
          obtain ⟨b42873, rfl, h42867⟩ := h42867
          show G _ _ _ _ _ _ _ _ _ _ (.ref b42873 :: _)
          refine g_astore (lv' := [(4, .ref b42873), (0, .ref a0), (1, .int a1), (2, .int a2), (3, .int a3)]) C dX11_tocome_33 (by decide) rfl ?_
          refine g_aload_n C dX11_tocome_35 rfl 1 rfl ?_
          refine g_iload_n C dX11_tocome_36 rfl 2 rfl ?_
          refine g_iload_n C dX11_tocome_37 rfl 3 rfl ?_
          refine g_iconst (v := 1) C dX11_tocome_38 (by decide) ?_
          refine g_callVQ (rest := []) C mv_X11_216 [.int a1, .int a2, .int 1] (s_X11_gather Iy42868 h42871 (by omega) (by omega) (by decide)) (h42871).1 (h42871).2 rfl rfl (by decide) (Nat.le_of_ble_eq_true rfl) (by decide) dX11_tocome_39 (fun r42874 Y42875 h42876 => ?_)
          obtain ⟨Iy42877, Xy42878, h42876⟩ := h42876
          have Xz42879 : EK [0, 1, 2, 5, 13] P Y42875 := Xz42870.tr (Xy42878.mono (by decide))
          have h42880 := Xy42878.at h42871
          have h42881 := Xy42878.at h42867
          obtain ⟨b42883, rfl, h42876⟩ := h42876
          show G _ _ _ _ _ _ _ _ _ _ (.ref b42883 :: _)
          refine g_astore (lv' := [(5, .ref b42883), (4, .ref b42873), (0, .ref a0), (1, .int a1), (2, .int a2), (3, .int a3)]) C dX11_tocome_42 (by decide) rfl ?_
          refine g_aload_n C dX11_tocome_44 rfl 2 rfl ?_
          obtain ⟨b42884, e42885, h42886⟩ := Iy42877.fld (h42880) 11 2 0 rfl
          refine g_getR C fi_X11_67 rfl e42885 (h42880).1 (h42880).2 dX11_tocome_45 ?_
          refine g_aload_n C dX11_tocome_48 rfl 2 rfl ?_
          obtain ⟨b42887, e42888, h42889⟩ := Iy42877.fld (h42880) 0 17 2 rfl
          refine g_getR C fi_X11_11 rfl e42888 (h42880).1 (h42880).2 dX11_tocome_49 ?_
          refine g_iload_n C dX11_tocome_52 rfl 4 rfl ?_
          obtain ⟨b42890, e42891, h42892⟩ := Iy42877.elm h42889 (by decide) (a2.toInt.toNat) (by omega)
          refine g_aldR C h42889.1 h42889.2.1 (by decide) (ix_in h42889.2.2 (by omega)) e42891 dX11_tocome_53 ?_
          refine g_aload C dX11_tocome_54 1 rfl ?_
          refine g_aload C dX11_tocome_56 0 rfl ?_
          refine g_callVI (rest := []) C mv_X11_279 [.ref b42890, .ref b42873, .ref b42883] (s_X2_find Iy42877 h42886.at h42892 h42881 h42876) (h42886.at).1 (h42886.at).2 rfl rfl (by decide) (Nat.le_of_ble_eq_true rfl) (by decide) dX11_tocome_58 (fun r42893 Y42894 h42895 => ?_)
          obtain ⟨Iy42896, Xy42897, h42895⟩ := h42895
          have Xz42898 : EK [0, 1, 2, 5, 13] P Y42894 := Xz42879.tr (Xy42897.mono (by decide))
          have h42899 := Xy42897.at h42880
          have h42900 := Xy42897.at h42881
          have h42901 := Xy42897.at h42876
          have h42895 : 0 ≤ r42893.toInt ∧ r42893.toInt ≤ 1 := h42895
          refine b_if_ne C 66 dX11_tocome_61 (by decide) (fun h42902 => ?_) (fun h42902 => ?_)
          · have h42902 : r42893.toInt ≠ 0 := ti_ne h42902
            refine g_iload_n C dX11_tocome_66 rfl 5 rfl ?_
            refine b_if_ne C 80 dX11_tocome_67 (by decide) (fun h42903 => ?_) (fun h42903 => ?_)
            · have h42903 : a3.toInt ≠ 0 := ti_ne h42903
              refine g_aload_n C dX11_tocome_80 rfl 2 rfl ?_
              obtain ⟨b42904, e42905, h42906⟩ := Iy42896.fld (h42899) 11 2 0 rfl
              refine g_getR C fi_X11_67 rfl e42905 (h42899).1 (h42899).2 dX11_tocome_81 ?_
              refine g_getI C fi_X11_286 (by decide) (h42906.at).1 (h42906.at).2 dX11_tocome_84 ?_
              exact ret _ _ _ _ _ _ dX11_tocome_87 rfl (by decide) (by decide) ⟨Iy42896, Xz42898, trivial⟩
            · have h42903 : a3.toInt = 0 := congrArg Int32.toInt h42903
              refine g_aload_n C dX11_tocome_70 rfl 2 rfl ?_
              obtain ⟨b42907, e42908, h42909⟩ := Iy42896.fld (h42899) 11 2 0 rfl
              refine g_getR C fi_X11_67 rfl e42908 (h42899).1 (h42899).2 dX11_tocome_71 ?_
              refine g_getI C fi_X11_283 (by decide) (h42909.at).1 (h42909.at).2 dX11_tocome_74 ?_
              have h42910 := Iy42896.rg (h42909.at) 5 rfl
              refine g_goto C 87 dX11_tocome_77 (by decide) ?_
              exact ret _ _ _ _ _ _ dX11_tocome_87 rfl (by decide) (by decide) ⟨Iy42896, Xz42898, trivial⟩
          · have h42902 : r42893.toInt = 0 := congrArg Int32.toInt h42902
            refine g_iconst (v := (-1)) C dX11_tocome_64 (by decide) ?_
            exact ret _ _ _ _ _ _ dX11_tocome_65 rfl (by decide) (by decide) ⟨Iy42896, Xz42898, trivial⟩
        · have h42863 : 1 < a3.toInt := h42863
          refine g_lv (lv' := []) [] rfl ?_
          exact J24 
theorem dX11_told_0 : decode cX11_told 0 = .ok (.aload_n 0, 1) := by decide +kernel
theorem dX11_told_1 : decode cX11_told 1 = .ok (.iload_n 1, 1) := by decide +kernel
theorem dX11_told_2 : decode cX11_told 2 = .ok (.iload_n 2, 1) := by decide +kernel
theorem dX11_told_3 : decode cX11_told 3 = .ok (.invokevirtual 155, 3) := by decide +kernel
theorem dX11_told_6 : decode cX11_told 6 = .ok (.ifCond .ne 5, 3) := by decide +kernel
theorem dX11_told_9 : decode cX11_told 9 = .ok (.iconst (-1), 1) := by decide +kernel
theorem dX11_told_10 : decode cX11_told 10 = .ok (.ireturn, 1) := by decide +kernel
theorem dX11_told_11 : decode cX11_told 11 = .ok (.aload_n 0, 1) := by decide +kernel
theorem dX11_told_12 : decode cX11_told 12 = .ok (.getfield 11, 3) := by decide +kernel
theorem dX11_told_15 : decode cX11_told 15 = .ok (.iload_n 1, 1) := by decide +kernel
theorem dX11_told_16 : decode cX11_told 16 = .ok (.aaload, 1) := by decide +kernel
theorem dX11_told_17 : decode cX11_told 17 = .ok (.iconst 1, 1) := by decide +kernel
theorem dX11_told_18 : decode cX11_told 18 = .ok (.iload_n 2, 1) := by decide +kernel
theorem dX11_told_19 : decode cX11_told 19 = .ok (.ishl, 1) := by decide +kernel
theorem dX11_told_20 : decode cX11_told 20 = .ok (.invokevirtual 143, 3) := by decide +kernel
theorem dX11_told_23 : decode cX11_told 23 = .ok (.ireturn, 1) := by decide +kernel
set_option maxHeartbeats 4000000 in
set_option maxRecDepth 100000 in
theorem s_X11_told {P : PP} {a0 : Nat} {a1 : Int32} {a2 : Int32} (I : IV P) (ha0 : At P a0 11) : CtrI yX11_told cX11_told 3 (some Jvm.ClassFile.FieldType.int) ({ frames := 4, cells := 0, slots := 0, locals := 256 } : Room) 0 0 P [.ref a0, .int a1, .int a2] (fun r P2 => P = P2 ∧ (True)) := by
  refine enI (lv := [(0, .ref a0), (1, .int a1), (2, .int a2)]) (by decide) (Nat.le_of_ble_eq_true rfl) rfl (fun E D cy C Ci0 ret => ?_)
  refine g_aload_n C dX11_told_0 rfl 0 rfl ?_
  refine g_iload_n C dX11_told_1 rfl 1 rfl ?_
  refine g_iload_n C dX11_told_2 rfl 2 rfl ?_
  refine g_callVI (rest := []) C mv_X11_155 [.int a1, .int a2] (s_X11_isPageOf I ha0) (ha0).1 (ha0).2 rfl rfl (by decide) (Nat.le_of_ble_eq_true rfl) (by decide) dX11_told_3 (fun r42927 Y42928 h42929 => ?_)
  obtain ⟨rfl, h42929⟩ := h42929
  obtain ⟨h42929, hi42930⟩ := h42929
  have hi42930 : r42927.toInt = 0 ∨ (((0 : Int) ≤ a1.toInt ∧ a1.toInt ≤ (1 : Int)) ∧ ((0 : Int) ≤ a2.toInt ∧ a2.toInt ≤ (19 : Int))) := hi42930
  have h42929 : 0 ≤ r42927.toInt ∧ r42927.toInt ≤ 1 := h42929
  refine b_if_ne C 11 dX11_told_6 (by decide) (fun h42931 => ?_) (fun h42931 => ?_)
  · have h42931 : r42927.toInt ≠ 0 := ti_ne h42931
    replace hi42930 := hi42930.resolve_left (by omega)
    refine g_aload_n C dX11_told_11 rfl 0 rfl ?_
    obtain ⟨b42932, e42933, h42934⟩ := I.fld (ha0) 0 17 2 rfl
    refine g_getR C fi_X11_11 rfl e42933 (ha0).1 (ha0).2 dX11_told_12 ?_
    refine g_iload_n C dX11_told_15 rfl 1 rfl ?_
    obtain ⟨b42935, e42936, h42937⟩ := I.elm h42934 (by decide) (a1.toInt.toNat) (by omega)
    refine g_aldR C h42934.1 h42934.2.1 (by decide) (ix_in h42934.2.2 (by omega)) e42936 dX11_told_16 ?_
    refine g_iconst (v := 1) C dX11_told_17 (by decide) ?_
    refine g_iload_n C dX11_told_18 rfl 2 rfl ?_
    refine a_ishl C dX11_told_19 (fun z42938 => ?_)
    refine g_callVI (rest := []) C mv_X11_143 [.int z42938] (s_X1_sumOf I h42937) (h42937).1 (h42937).2 rfl rfl (by decide) (Nat.le_of_ble_eq_true rfl) (by decide) dX11_told_20 (fun r42940 Y42941 h42942 => ?_)
    obtain ⟨rfl, h42942⟩ := h42942
    have h42942 : True := h42942
    exact ret _ _ _ _ _ _ dX11_told_23 rfl (by decide) (by decide) ⟨rfl, trivial⟩
  · have h42931 : r42927.toInt = 0 := congrArg Int32.toInt h42931
    clear hi42930
    refine g_iconst (v := (-1)) C dX11_told_9 (by decide) ?_
    exact ret _ _ _ _ _ _ dX11_told_10 rfl (by decide) (by decide) ⟨rfl, trivial⟩
theorem dX11_town_0 : decode cX11_town 0 = .ok (.aload_n 0, 1) := by decide +kernel
theorem dX11_town_1 : decode cX11_town 1 = .ok (.iload_n 1, 1) := by decide +kernel
theorem dX11_town_2 : decode cX11_town 2 = .ok (.invokevirtual 97, 3) := by decide +kernel
theorem dX11_town_5 : decode cX11_town 5 = .ok (.ifCond .eq 13, 3) := by decide +kernel
theorem dX11_town_8 : decode cX11_town 8 = .ok (.iload_n 2, 1) := by decide +kernel
theorem dX11_town_9 : decode cX11_town 9 = .ok (.ifCond .lt 9, 3) := by decide +kernel
theorem dX11_town_12 : decode cX11_town 12 = .ok (.iload_n 2, 1) := by decide +kernel
theorem dX11_town_13 : decode cX11_town 13 = .ok (.bipush 100, 2) := by decide +kernel
theorem dX11_town_15 : decode cX11_town 15 = .ok (.if_icmp .le 5, 3) := by decide +kernel
theorem dX11_town_18 : decode cX11_town 18 = .ok (.iconst (-1), 1) := by decide +kernel
theorem dX11_town_19 : decode cX11_town 19 = .ok (.ireturn, 1) := by decide +kernel
theorem dX11_town_20 : decode cX11_town 20 = .ok (.iconst 0, 1) := by decide +kernel
theorem dX11_town_21 : decode cX11_town 21 = .ok (.istore_n 3, 1) := by decide +kernel
theorem dX11_town_22 : decode cX11_town 22 = .ok (.iload_n 3, 1) := by decide +kernel
theorem dX11_town_23 : decode cX11_town 23 = .ok (.iconst 4, 1) := by decide +kernel
theorem dX11_town_24 : decode cX11_town 24 = .ok (.if_icmp .ge 26, 3) := by decide +kernel
theorem dX11_town_27 : decode cX11_town 27 = .ok (.aload_n 0, 1) := by decide +kernel
theorem dX11_town_28 : decode cX11_town 28 = .ok (.getfield 35, 3) := by decide +kernel
theorem dX11_town_31 : decode cX11_town 31 = .ok (.iload_n 3, 1) := by decide +kernel
theorem dX11_town_32 : decode cX11_town 32 = .ok (.aload_n 0, 1) := by decide +kernel
theorem dX11_town_33 : decode cX11_town 33 = .ok (.iload_n 3, 1) := by decide +kernel
theorem dX11_town_34 : decode cX11_town 34 = .ok (.aload_n 0, 1) := by decide +kernel
theorem dX11_town_35 : decode cX11_town 35 = .ok (.getfield 11, 3) := by decide +kernel
theorem dX11_town_38 : decode cX11_town 38 = .ok (.iload_n 1, 1) := by decide +kernel
theorem dX11_town_39 : decode cX11_town 39 = .ok (.aaload, 1) := by decide +kernel
theorem dX11_town_40 : decode cX11_town 40 = .ok (.invokevirtual 326, 3) := by decide +kernel
theorem dX11_town_43 : decode cX11_town 43 = .ok (.iastore, 1) := by decide +kernel
theorem dX11_town_44 : decode cX11_town 44 = .ok (.iinc 3 1, 3) := by decide +kernel
theorem dX11_town_47 : decode cX11_town 47 = .ok (.goto (-25), 3) := by decide +kernel
theorem dX11_town_50 : decode cX11_town 50 = .ok (.iload_n 2, 1) := by decide +kernel
theorem dX11_town_51 : decode cX11_town 51 = .ok (.aload_n 0, 1) := by decide +kernel
theorem dX11_town_52 : decode cX11_town 52 = .ok (.invokevirtual 330, 3) := by decide +kernel
theorem dX11_town_55 : decode cX11_town 55 = .ok (.imul, 1) := by decide +kernel
theorem dX11_town_56 : decode cX11_town 56 = .ok (.istore_n 3, 1) := by decide +kernel
theorem dX11_town_57 : decode cX11_town 57 = .ok (.iconst 0, 1) := by decide +kernel
theorem dX11_town_58 : decode cX11_town 58 = .ok (.istore 4, 2) := by decide +kernel
theorem dX11_town_60 : decode cX11_town 60 = .ok (.iload 4, 2) := by decide +kernel
theorem dX11_town_62 : decode cX11_town 62 = .ok (.bipush 60, 2) := by decide +kernel
theorem dX11_town_64 : decode cX11_town 64 = .ok (.if_icmp .gt 25, 3) := by decide +kernel
theorem dX11_town_67 : decode cX11_town 67 = .ok (.bipush 100, 2) := by decide +kernel
theorem dX11_town_69 : decode cX11_town 69 = .ok (.aload_n 0, 1) := by decide +kernel
theorem dX11_town_70 : decode cX11_town 70 = .ok (.iload 4, 2) := by decide +kernel
theorem dX11_town_72 : decode cX11_town 72 = .ok (.invokevirtual 333, 3) := by decide +kernel
theorem dX11_town_75 : decode cX11_town 75 = .ok (.imul, 1) := by decide +kernel
theorem dX11_town_76 : decode cX11_town 76 = .ok (.iload_n 3, 1) := by decide +kernel
theorem dX11_town_77 : decode cX11_town 77 = .ok (.if_icmp .lt 6, 3) := by decide +kernel
theorem dX11_town_80 : decode cX11_town 80 = .ok (.iload 4, 2) := by decide +kernel
theorem dX11_town_82 : decode cX11_town 82 = .ok (.ireturn, 1) := by decide +kernel
theorem dX11_town_83 : decode cX11_town 83 = .ok (.iinc 4 1, 3) := by decide +kernel
theorem dX11_town_86 : decode cX11_town 86 = .ok (.goto (-26), 3) := by decide +kernel
theorem dX11_town_89 : decode cX11_town 89 = .ok (.iconst (-1), 1) := by decide +kernel
theorem dX11_town_90 : decode cX11_town 90 = .ok (.ireturn, 1) := by decide +kernel
set_option maxHeartbeats 4000000 in
set_option maxRecDepth 100000 in
theorem s_X11_town {P : PP} {a0 : Nat} {a1 : Int32} {a2 : Int32} (I : IV P) (ha0 : At P a0 11) : CtrI yX11_town cX11_town 5 (some Jvm.ClassFile.FieldType.int) ({ frames := 6, cells := 0, slots := 0, locals := 384 } : Room) 0 0 P [.ref a0, .int a1, .int a2] (fun r P2 => IV P2 ∧ EK [0, 1, 5, 13] P P2 ∧ (-1 ≤ r.toInt ∧ r.toInt ≤ 60)) := by
  refine enI (lv := [(0, .ref a0), (1, .int a1), (2, .int a2)]) (by decide) (Nat.le_of_ble_eq_true rfl) rfl (fun E D cy C Ci0 ret => ?_)
  have J60 : ∀ (n60 : Nat) (P60 : PP) (v60_3 : Int32) (v60_4 : Int32), (61 - v60_4.toInt).toNat < n60 → (IV P60) → (EK [0, 1, 5, 13] P P60) → (0 ≤ v60_4.toInt ∧ v60_4.toInt ≤ 61) → G E ({ frames := 6, cells := 0, slots := 0, locals := 384 } : Room) D cy 5 P60 0 0 60 [(0, .ref a0), (3, .int v60_3), (4, .int v60_4)] [] := by
    intro n60
    induction n60 with
    | zero => intro P60 v60_3 v60_4 hm60 I60 X60 hv60_4; omega
    | succ n60 ih60 =>
      intro P60 v60_3 v60_4 hm60 I60 X60 hv60_4
      have h43343 := X60.at ha0
      refine g_iload C dX11_town_60 2 rfl ?_
      refine g_bipush (v := 60) C dX11_town_62 (by decide) ?_
      refine b_icmp_gt C 89 dX11_town_64 (by decide) (fun h43344 => ?_) (fun h43344 => ?_)
      · have h43344 : 60 < v60_4.toInt := h43344
        refine g_iconst (v := (-1)) C dX11_town_89 (by decide) ?_
        exact ret _ _ _ _ _ _ dX11_town_90 rfl (by decide) (by decide) ⟨I60, X60, (by decide)⟩
      · have h43344 : v60_4.toInt ≤ 60 := h43344
        refine g_bipush (v := 100) C dX11_town_67 (by decide) ?_
        refine g_aload_n C dX11_town_69 rfl 0 rfl ?_
        refine g_iload C dX11_town_70 2 rfl ?_
        refine g_callVI (rest := [.int 100]) C mv_X11_333 [.int v60_4] (s_X11_housesServed I60 h43343) (h43343).1 (h43343).2 rfl rfl (by decide) (Nat.le_of_ble_eq_true rfl) (by decide) dX11_town_72 (fun r43345 Y43346 h43347 => ?_)
        obtain ⟨rfl, h43347⟩ := h43347
        have h43347 : True := h43347
        refine a_imul C dX11_town_75 (fun z43348 => ?_)
        refine g_iload_n C dX11_town_76 rfl 1 rfl ?_
        have u43351 := ti_rng z43348
        have u43352 := ti_rng v60_3
        refine b_icmp_lt C 83 dX11_town_77 (by decide) (fun h43350 => ?_) (fun h43350 => ?_)
        · have h43350 : z43348.toInt < v60_3.toInt := h43350
          refine s_iinc (lv0 := [(0, .ref a0), (3, .int v60_3)]) (m := 1) C dX11_town_83 2 rfl (by decide) rfl (by decide) (by omega) (fun z43353 h43354 => ?_)
          have h43354 : z43353.toInt = v60_4.toInt + 1 := h43354
          refine g_goto C 60 dX11_town_86 (by decide) ?_
          refine g_lv (lv' := [(0, .ref a0), (3, .int v60_3), (4, .int z43353)]) [1, 2, 0] rfl ?_
          exact ih60 P60 v60_3 z43353 (by omega) I60 X60 (by omega)
        · have h43350 : v60_3.toInt ≤ z43348.toInt := h43350
          refine g_iload C dX11_town_80 2 rfl ?_
          exact ret _ _ _ _ _ _ dX11_town_82 rfl (by decide) (by decide) ⟨I60, X60, (by omega)⟩
  have J22 : ∀ (n22 : Nat) (P22 : PP) (v22_3 : Int32), (4 - v22_3.toInt).toNat < n22 → (IV P22) → (EK [0, 1, 5, 13] P P22) → (0 ≤ a1.toInt ∧ a1.toInt ≤ 1) → (0 ≤ a2.toInt ∧ a2.toInt ≤ 100) → (0 ≤ v22_3.toInt ∧ v22_3.toInt ≤ 4) → G E ({ frames := 6, cells := 0, slots := 0, locals := 384 } : Room) D cy 5 P22 0 0 22 [(0, .ref a0), (1, .int a1), (2, .int a2), (3, .int v22_3)] [] := by
    intro n22
    induction n22 with
    | zero => intro P22 v22_3 hm22 I22 X22 hv22_1 hv22_2 hv22_3; omega
    | succ n22 ih22 =>
      intro P22 v22_3 hm22 I22 X22 hv22_1 hv22_2 hv22_3
      have h43355 := X22.at ha0
      refine g_iload_n C dX11_town_22 rfl 3 rfl ?_
      refine g_iconst (v := 4) C dX11_town_23 (by decide) ?_
      refine b_icmp_ge C 50 dX11_town_24 (by decide) (fun h43356 => ?_) (fun h43356 => ?_)
      · have h43356 : 4 ≤ v22_3.toInt := h43356
        refine g_iload_n C dX11_town_50 rfl 2 rfl ?_
        refine g_aload_n C dX11_town_51 rfl 0 rfl ?_
        refine g_callVI (rest := [.int a2]) C mv_X11_330 [] (s_X11_allHouses I22 h43355) (h43355).1 (h43355).2 rfl rfl (by decide) (Nat.le_of_ble_eq_true rfl) (by decide) dX11_town_52 (fun r43357 Y43358 h43359 => ?_)
        obtain ⟨rfl, h43359⟩ := h43359
        have h43359 : True := h43359
        refine a_imul C dX11_town_55 (fun z43360 => ?_)
        refine g_istore_n (lv' := [(3, .int z43360), (0, .ref a0), (1, .int a1), (2, .int a2)]) C dX11_town_56 rfl (by decide) rfl ?_
        refine g_iconst (v := 0) C dX11_town_57 (by decide) ?_
        refine g_istore (lv' := [(4, .int 0), (3, .int z43360), (0, .ref a0), (1, .int a1), (2, .int a2)]) C dX11_town_58 (by decide) rfl ?_
        refine g_lv (lv' := [(0, .ref a0), (3, .int z43360), (4, .int 0)]) [2, 1, 0] rfl ?_
        exact J60 _ P22 z43360 0 (Nat.lt_succ_self _) I22 X22 (by decide)
      · have h43356 : v22_3.toInt < 4 := h43356
        refine g_aload_n C dX11_town_27 rfl 0 rfl ?_
        obtain ⟨b43362, e43363, h43364⟩ := I22.fld (h43355) 6 13 4 rfl
        refine g_getR C fi_X11_35 rfl e43363 (h43355).1 (h43355).2 dX11_town_28 ?_
        refine g_iload_n C dX11_town_31 rfl 3 rfl ?_
        refine g_aload_n C dX11_town_32 rfl 0 rfl ?_
        refine g_iload_n C dX11_town_33 rfl 3 rfl ?_
        refine g_aload_n C dX11_town_34 rfl 0 rfl ?_
        obtain ⟨b43365, e43366, h43367⟩ := I22.fld (h43355) 0 17 2 rfl
        refine g_getR C fi_X11_11 rfl e43366 (h43355).1 (h43355).2 dX11_town_35 ?_
        refine g_iload_n C dX11_town_38 rfl 1 rfl ?_
        obtain ⟨b43368, e43369, h43370⟩ := I22.elm h43367 (by decide) (a1.toInt.toNat) (by omega)
        refine g_aldR C h43367.1 h43367.2.1 (by decide) (ix_in h43367.2.2 (by omega)) e43369 dX11_town_39 ?_
        refine g_callVI (rest := [.int v22_3, .ref b43362]) C mv_X11_326 [.int v22_3, .ref b43368] (s_X11_neededIn I22 h43355 (by omega) h43370) (h43355).1 (h43355).2 rfl rfl (by decide) (Nat.le_of_ble_eq_true rfl) (by decide) dX11_town_40 (fun r43371 Y43372 h43373 => ?_)
        obtain ⟨Iy43374, Xy43375, h43373⟩ := h43373
        have Xz43376 : EK [0, 1, 5, 13] P Y43372 := X22.tr (Xy43375.mono (by decide))
        have e43377 := Xy43375.ref h43355 (by decide) e43363
        have h43378 := Xy43375.at h43355
        have h43379 := Xy43375.ar h43364
        have h43373 : -1 ≤ r43371.toInt ∧ r43371.toInt ≤ 60 := h43373
        refine g_iast (j := (v22_3.toInt.toNat)) C h43379.1 h43379.2.1 (ix_in h43379.2.2 (by omega)) dX11_town_43 ?_
        refine gp (ks := [13]) (Iy43374.setA h43379 (by decide)) (EK.setI h43379.2.1 (by decide)) (fun Y43380 Iy43381 Xy43382 => ?_)
        have Xz43383 : EK [0, 1, 5, 13] P Y43380 := Xz43376.tr (Xy43382.mono (by decide))
        have h43384 := Xy43382.at h43378
        refine s_iinc (lv0 := [(0, .ref a0), (1, .int a1), (2, .int a2)]) (m := 1) C dX11_town_44 3 rfl (by decide) rfl (by decide) (by omega) (fun z43385 h43386 => ?_)
        have h43386 : z43385.toInt = v22_3.toInt + 1 := h43386
        refine g_goto C 22 dX11_town_47 (by decide) ?_
        refine g_lv (lv' := [(0, .ref a0), (1, .int a1), (2, .int a2), (3, .int z43385)]) [1, 2, 3, 0] rfl ?_
        exact ih22 Y43380 z43385 (by omega) Iy43381 Xz43383 (by omega) (by omega) (by omega)
  have J18 : G E ({ frames := 6, cells := 0, slots := 0, locals := 384 } : Room) D cy 5 P 0 0 18 [] [] := by
    refine g_iconst (v := (-1)) C dX11_town_18 (by decide) ?_
    exact ret _ _ _ _ _ _ dX11_town_19 rfl (by decide) (by decide) ⟨I, EK.rf, (by decide)⟩
  refine g_aload_n C dX11_town_0 rfl 0 rfl ?_
  refine g_iload_n C dX11_town_1 rfl 1 rfl ?_
  refine g_callVI (rest := []) C mv_X11_97 [.int a1] (s_X11_isTold I ha0) (ha0).1 (ha0).2 rfl rfl (by decide) (Nat.le_of_ble_eq_true rfl) (by decide) dX11_town_2 (fun r43387 Y43388 h43389 => ?_)
  obtain ⟨rfl, h43389⟩ := h43389
  obtain ⟨h43389, hi43390⟩ := h43389
  have hi43390 : r43387.toInt = 0 ∨ (((0 : Int) ≤ a1.toInt ∧ a1.toInt ≤ (1 : Int))) := hi43390
  have h43389 : 0 ≤ r43387.toInt ∧ r43387.toInt ≤ 1 := h43389
  refine b_if_eq C 18 dX11_town_5 (by decide) (fun h43391 => ?_) (fun h43391 => ?_)
  · have h43391 : r43387.toInt = 0 := congrArg Int32.toInt h43391
    clear hi43390
    refine g_lv (lv' := []) [] rfl ?_
    exact J18 
  · have h43391 : r43387.toInt ≠ 0 := ti_ne h43391
    replace hi43390 := hi43390.resolve_left (by omega)
    refine g_iload_n C dX11_town_8 rfl 2 rfl ?_
    have u43393 := ti_rng a2
    refine b_if_lt C 18 dX11_town_9 (by decide) (fun h43392 => ?_) (fun h43392 => ?_)
    · have h43392 : a2.toInt < 0 := h43392
      refine g_lv (lv' := []) [] rfl ?_
      exact J18 
    · have h43392 : 0 ≤ a2.toInt := h43392
      refine g_iload_n C dX11_town_12 rfl 2 rfl ?_
      refine g_bipush (v := 100) C dX11_town_13 (by decide) ?_
      have u43395 := ti_rng a2
      refine b_icmp_le C 20 dX11_town_15 (by decide) (fun h43394 => ?_) (fun h43394 => ?_)
      · have h43394 : a2.toInt ≤ 100 := h43394
        refine g_iconst (v := 0) C dX11_town_20 (by decide) ?_
        refine g_istore_n (lv' := [(3, .int 0), (0, .ref a0), (1, .int a1), (2, .int a2)]) C dX11_town_21 rfl (by decide) rfl ?_
        refine g_lv (lv' := [(0, .ref a0), (1, .int a1), (2, .int a2), (3, .int 0)]) [1, 2, 3, 0] rfl ?_
        exact J22 _ P 0 (Nat.lt_succ_self _) I EK.rf (by omega) (by omega) (by decide)
      · have h43394 : 100 < a2.toInt := h43394
        refine g_lv (lv' := []) [] rfl ?_
        exact J18 
theorem dX11_unknownPages_0 : decode cX11_unknownPages 0 = .ok (.ldc_w 364, 3) := by decide +kernel
theorem dX11_unknownPages_3 : decode cX11_unknownPages 3 = .ok (.istore_n 3, 1) := by decide +kernel
theorem dX11_unknownPages_4 : decode cX11_unknownPages 4 = .ok (.iconst 0, 1) := by decide +kernel
theorem dX11_unknownPages_5 : decode cX11_unknownPages 5 = .ok (.istore 4, 2) := by decide +kernel
theorem dX11_unknownPages_7 : decode cX11_unknownPages 7 = .ok (.iload 4, 2) := by decide +kernel
theorem dX11_unknownPages_9 : decode cX11_unknownPages 9 = .ok (.iconst 2, 1) := by decide +kernel
theorem dX11_unknownPages_10 : decode cX11_unknownPages 10 = .ok (.if_icmp .ge 35, 3) := by decide +kernel
theorem dX11_unknownPages_13 : decode cX11_unknownPages 13 = .ok (.aload_n 2, 1) := by decide +kernel
theorem dX11_unknownPages_14 : decode cX11_unknownPages 14 = .ok (.iload 4, 2) := by decide +kernel
theorem dX11_unknownPages_16 : decode cX11_unknownPages 16 = .ok (.invokevirtual 365, 3) := by decide +kernel
theorem dX11_unknownPages_19 : decode cX11_unknownPages 19 = .ok (.ifCond .eq 20, 3) := by decide +kernel
theorem dX11_unknownPages_22 : decode cX11_unknownPages 22 = .ok (.iload_n 3, 1) := by decide +kernel
theorem dX11_unknownPages_23 : decode cX11_unknownPages 23 = .ok (.aload_n 0, 1) := by decide +kernel
theorem dX11_unknownPages_24 : decode cX11_unknownPages 24 = .ok (.iload_n 1, 1) := by decide +kernel
theorem dX11_unknownPages_25 : decode cX11_unknownPages 25 = .ok (.aload_n 2, 1) := by decide +kernel
theorem dX11_unknownPages_26 : decode cX11_unknownPages 26 = .ok (.getfield 191, 3) := by decide +kernel
theorem dX11_unknownPages_29 : decode cX11_unknownPages 29 = .ok (.iload 4, 2) := by decide +kernel
theorem dX11_unknownPages_31 : decode cX11_unknownPages 31 = .ok (.invokevirtual 216, 3) := by decide +kernel
theorem dX11_unknownPages_34 : decode cX11_unknownPages 34 = .ok (.invokevirtual 220, 3) := by decide +kernel
theorem dX11_unknownPages_37 : decode cX11_unknownPages 37 = .ok (.iand, 1) := by decide +kernel
theorem dX11_unknownPages_38 : decode cX11_unknownPages 38 = .ok (.istore_n 3, 1) := by decide +kernel
theorem dX11_unknownPages_39 : decode cX11_unknownPages 39 = .ok (.iinc 4 1, 3) := by decide +kernel
theorem dX11_unknownPages_42 : decode cX11_unknownPages 42 = .ok (.goto (-35), 3) := by decide +kernel
theorem dX11_unknownPages_45 : decode cX11_unknownPages 45 = .ok (.aload_n 2, 1) := by decide +kernel
theorem dX11_unknownPages_46 : decode cX11_unknownPages 46 = .ok (.aload_n 2, 1) := by decide +kernel
theorem dX11_unknownPages_47 : decode cX11_unknownPages 47 = .ok (.getfield 191, 3) := by decide +kernel
theorem dX11_unknownPages_50 : decode cX11_unknownPages 50 = .ok (.invokevirtual 368, 3) := by decide +kernel
theorem dX11_unknownPages_53 : decode cX11_unknownPages 53 = .ok (.iload_n 3, 1) := by decide +kernel
theorem dX11_unknownPages_54 : decode cX11_unknownPages 54 = .ok (.iconst (-1), 1) := by decide +kernel
theorem dX11_unknownPages_55 : decode cX11_unknownPages 55 = .ok (.ixor, 1) := by decide +kernel
theorem dX11_unknownPages_56 : decode cX11_unknownPages 56 = .ok (.iand, 1) := by decide +kernel
theorem dX11_unknownPages_57 : decode cX11_unknownPages 57 = .ok (.invokestatic 150, 3) := by decide +kernel
theorem dX11_unknownPages_60 : decode cX11_unknownPages 60 = .ok (.ireturn, 1) := by decide +kernel
set_option maxHeartbeats 4000000 in
set_option maxRecDepth 100000 in
theorem s_X11_unknownPages {P : PP} {a0 : Nat} {a1 : Int32} {a2 : Nat} (I : IV P) (ha0 : At P a0 11) (ha1 : 0 ≤ a1.toInt ∧ a1.toInt ≤ 3) (ha2 : At P a2 7) (hp2_0 : 0 ≤ (pI P a2 0).toInt ∧ (pI P a2 0).toInt ≤ 1) : CtrI yX11_unknownPages cX11_unknownPages 5 (some Jvm.ClassFile.FieldType.int) ({ frames := 4, cells := 0, slots := 0, locals := 256 } : Room) 0 0 P [.ref a0, .int a1, .ref a2] (fun r P2 => IV P2 ∧ EK [5, 13] P P2 ∧ (0 ≤ r.toInt ∧ r.toInt ≤ 63)) := by
  refine enI (lv := [(0, .ref a0), (1, .int a1), (2, .ref a2)]) (by decide) (Nat.le_of_ble_eq_true rfl) rfl (fun E D cy C Ci0 ret => ?_)
  have J7 : ∀ (n7 : Nat) (P7 : PP) (v7_3 : Int32) (v7_4 : Int32), (2 - v7_4.toInt).toNat < n7 → (IV P7) → (EK [5, 13] P P7) → (0 ≤ v7_4.toInt ∧ v7_4.toInt ≤ 2) → (0 ≤ (pI P7 a2 0).toInt ∧ (pI P7 a2 0).toInt ≤ 1) → G E ({ frames := 4, cells := 0, slots := 0, locals := 256 } : Room) D cy 5 P7 0 0 7 [(0, .ref a0), (1, .int a1), (2, .ref a2), (3, .int v7_3), (4, .int v7_4)] [] := by
    intro n7
    induction n7 with
    | zero => intro P7 v7_3 v7_4 hm7 I7 X7 hv7_4 hq7_0; omega
    | succ n7 ih7 =>
      intro P7 v7_3 v7_4 hm7 I7 X7 hv7_4 hq7_0
      have h43500 := X7.at ha0
      have h43501 := X7.at ha2
      have J39 : ∀ (P39 : PP) (v39_3 : Int32), (IV P39) → (EK [5, 13] P P39) → (0 ≤ v7_4.toInt ∧ v7_4.toInt ≤ 1) → (0 ≤ (pI P39 a2 0).toInt ∧ (pI P39 a2 0).toInt ≤ 1) → G E ({ frames := 4, cells := 0, slots := 0, locals := 256 } : Room) D cy 5 P39 0 0 39 [(0, .ref a0), (1, .int a1), (2, .ref a2), (3, .int v39_3), (4, .int v7_4)] [] := by
        intro P39 v39_3 I39 X39 hv39_4 hq39_0
        have h43502 := X39.at ha0
        have h43503 := X39.at ha2
        refine s_iinc (lv0 := [(0, .ref a0), (1, .int a1), (2, .ref a2), (3, .int v39_3)]) (m := 1) C dX11_unknownPages_39 4 rfl (by decide) rfl (by decide) (by omega) (fun z43504 h43505 => ?_)
        have h43505 : z43504.toInt = v7_4.toInt + 1 := h43505
        refine g_goto C 7 dX11_unknownPages_42 (by decide) ?_
        refine g_lv (lv' := [(0, .ref a0), (1, .int a1), (2, .ref a2), (3, .int v39_3), (4, .int z43504)]) [1, 2, 3, 4, 0] rfl ?_
        exact ih7 P39 v39_3 z43504 (by omega) I39 X39 (by omega) (by omega)
      refine g_iload C dX11_unknownPages_7 4 rfl ?_
      refine g_iconst (v := 2) C dX11_unknownPages_9 (by decide) ?_
      refine b_icmp_ge C 45 dX11_unknownPages_10 (by decide) (fun h43506 => ?_) (fun h43506 => ?_)
      · have h43506 : 2 ≤ v7_4.toInt := h43506
        refine g_aload_n C dX11_unknownPages_45 rfl 2 rfl ?_
        refine g_aload_n C dX11_unknownPages_46 rfl 2 rfl ?_
        refine g_getI C fi_X11_191 (by decide) (h43501).1 (h43501).2 dX11_unknownPages_47 ?_
        refine g_callVI (rest := []) C mv_X11_368 [.int (pI P7 a2 0)] (s_X7_pagesBy I7 h43501) (h43501).1 (h43501).2 rfl rfl (by decide) (Nat.le_of_ble_eq_true rfl) (by decide) dX11_unknownPages_50 (fun r43507 Y43508 h43509 => ?_)
        obtain ⟨rfl, h43509⟩ := h43509
        have h43509 : True := h43509
        refine g_iload_n C dX11_unknownPages_53 rfl 3 rfl ?_
        refine g_iconst (v := (-1)) C dX11_unknownPages_54 (by decide) ?_
        refine a_ixor C dX11_unknownPages_55 (fun z43510 => ?_)
        refine a_iand C dX11_unknownPages_56 (fun z43512 => ?_)
        refine g_callSI (b := 0) (ci := 0) (rest := []) C ms_X11_150 [.int z43512] (s_J6_bitCount_0f7a4 I7) rfl rfl (by decide) (Nat.le_of_ble_eq_true rfl) (by decide) dX11_unknownPages_57 (fun r43514 Y43515 h43516 => ?_)
        obtain ⟨rfl, h43516⟩ := h43516
        obtain ⟨h43516, hi43517⟩ := h43516
        have hi43517 : r43514 = bcF z43512 := hi43517
        have h43516 : 0 ≤ r43514.toInt ∧ r43514.toInt ≤ 63 := h43516
        exact ret _ _ _ _ _ _ dX11_unknownPages_60 rfl (by decide) (by decide) ⟨I7, X7, (by omega)⟩
      · have h43506 : v7_4.toInt < 2 := h43506
        refine g_aload_n C dX11_unknownPages_13 rfl 2 rfl ?_
        refine g_iload C dX11_unknownPages_14 4 rfl ?_
        refine g_callVI (rest := []) C mv_X11_365 [.int v7_4] (s_X7_hasOctet I7 h43501) (h43501).1 (h43501).2 rfl rfl (by decide) (Nat.le_of_ble_eq_true rfl) (by decide) dX11_unknownPages_16 (fun r43518 Y43519 h43520 => ?_)
        obtain ⟨rfl, h43520⟩ := h43520
        have h43520 : 0 ≤ r43518.toInt ∧ r43518.toInt ≤ 1 := h43520
        refine b_if_eq C 39 dX11_unknownPages_19 (by decide) (fun h43521 => ?_) (fun h43521 => ?_)
        · have h43521 : r43518.toInt = 0 := congrArg Int32.toInt h43521
          exact J39 P7 v7_3 I7 X7 (by omega) (by omega)
        · have h43521 : r43518.toInt ≠ 0 := ti_ne h43521
          refine g_iload_n C dX11_unknownPages_22 rfl 3 rfl ?_
          refine g_aload_n C dX11_unknownPages_23 rfl 0 rfl ?_
          refine g_iload_n C dX11_unknownPages_24 rfl 1 rfl ?_
          refine g_aload_n C dX11_unknownPages_25 rfl 2 rfl ?_
          refine g_getI C fi_X11_191 (by decide) (h43501).1 (h43501).2 dX11_unknownPages_26 ?_
          refine g_iload C dX11_unknownPages_29 4 rfl ?_
          refine g_callVQ (rest := [.int v7_3]) C mv_X11_216 [.int a1, .int (pI P7 a2 0), .int v7_4] (s_X11_gather I7 h43500 (by omega) (by omega) (by omega)) (h43500).1 (h43500).2 rfl rfl (by decide) (Nat.le_of_ble_eq_true rfl) (by decide) dX11_unknownPages_31 (fun r43522 Y43523 h43524 => ?_)
          obtain ⟨Iy43525, Xy43526, h43524⟩ := h43524
          have q43527 := Xy43526.keep h43501 (by decide) 0
          have Xz43528 : EK [5, 13] P Y43523 := X7.tr (Xy43526.mono (by decide))
          have h43529 := Xy43526.at h43500
          have h43530 := Xy43526.at h43501
          obtain ⟨b43532, rfl, h43524⟩ := h43524
          show G _ _ _ _ _ _ _ _ _ _ (.ref b43532 :: _)
          refine g_callVI (rest := [.int v7_3]) C mv_X11_220 [] (s_X5_peel Iy43525 h43524) (h43524).1 (h43524).2 rfl rfl (by decide) (Nat.le_of_ble_eq_true rfl) (by decide) dX11_unknownPages_34 (fun r43533 Y43534 h43535 => ?_)
          obtain ⟨Iy43536, Xy43537, h43535⟩ := h43535
          have q43538 := Xy43537.keep h43530 (by decide) 0
          have Xz43539 : EK [5, 13] P Y43534 := Xz43528.tr (Xy43537.mono (by decide))
          have h43540 := Xy43537.at h43529
          have h43541 := Xy43537.at h43530
          have h43535 : True := h43535
          refine a_iand C dX11_unknownPages_37 (fun z43542 => ?_)
          refine g_istore_n (lv' := [(3, .int z43542), (0, .ref a0), (1, .int a1), (2, .ref a2), (4, .int v7_4)]) C dX11_unknownPages_38 rfl (by decide) rfl ?_
          refine g_lv (lv' := [(0, .ref a0), (1, .int a1), (2, .ref a2), (3, .int z43542), (4, .int v7_4)]) [1, 2, 3, 0, 4] rfl ?_
          exact J39 Y43534 z43542 Iy43536 Xz43539 (by omega) (by omega)
  refine g_ldcw (v := 1048575) C kc_X11_364 dX11_unknownPages_0 ?_
  refine g_istore_n (lv' := [(3, .int 1048575), (0, .ref a0), (1, .int a1), (2, .ref a2)]) C dX11_unknownPages_3 rfl (by decide) rfl ?_
  refine g_iconst (v := 0) C dX11_unknownPages_4 (by decide) ?_
  refine g_istore (lv' := [(4, .int 0), (3, .int 1048575), (0, .ref a0), (1, .int a1), (2, .ref a2)]) C dX11_unknownPages_5 (by decide) rfl ?_
  refine g_lv (lv' := [(0, .ref a0), (1, .int a1), (2, .ref a2), (3, .int 1048575), (4, .int 0)]) [2, 3, 4, 1, 0] rfl ?_
  exact J7 _ P 1048575 0 (Nat.lt_succ_self _) I EK.rf (by decide) (by omega)
