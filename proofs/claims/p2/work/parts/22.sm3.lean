theorem dX12_lays_0 : decode cX12_lays 0 = .ok (.bipush 40, 2) := by decide +kernel
theorem dX12_lays_2 : decode cX12_lays 2 = .ok (.iload_n 1, 1) := by decide +kernel
theorem dX12_lays_3 : decode cX12_lays 3 = .ok (.imul, 1) := by decide +kernel
theorem dX12_lays_4 : decode cX12_lays 4 = .ok (.aload_n 0, 1) := by decide +kernel
theorem dX12_lays_5 : decode cX12_lays 5 = .ok (.getfield 69, 3) := by decide +kernel
theorem dX12_lays_8 : decode cX12_lays 8 = .ok (.iload_n 1, 1) := by decide +kernel
theorem dX12_lays_9 : decode cX12_lays 9 = .ok (.iaload, 1) := by decide +kernel
theorem dX12_lays_10 : decode cX12_lays 10 = .ok (.iadd, 1) := by decide +kernel
theorem dX12_lays_11 : decode cX12_lays 11 = .ok (.istore 7, 2) := by decide +kernel
theorem dX12_lays_13 : decode cX12_lays 13 = .ok (.aload_n 0, 1) := by decide +kernel
theorem dX12_lays_14 : decode cX12_lays 14 = .ok (.getfield 72, 3) := by decide +kernel
theorem dX12_lays_17 : decode cX12_lays 17 = .ok (.iload 7, 2) := by decide +kernel
theorem dX12_lays_19 : decode cX12_lays 19 = .ok (.iload_n 3, 1) := by decide +kernel
theorem dX12_lays_20 : decode cX12_lays 20 = .ok (.iastore, 1) := by decide +kernel
theorem dX12_lays_21 : decode cX12_lays 21 = .ok (.aload_n 0, 1) := by decide +kernel
theorem dX12_lays_22 : decode cX12_lays 22 = .ok (.getfield 75, 3) := by decide +kernel
theorem dX12_lays_25 : decode cX12_lays 25 = .ok (.iload 7, 2) := by decide +kernel
theorem dX12_lays_27 : decode cX12_lays 27 = .ok (.iload_n 2, 1) := by decide +kernel
theorem dX12_lays_28 : decode cX12_lays 28 = .ok (.iastore, 1) := by decide +kernel
theorem dX12_lays_29 : decode cX12_lays 29 = .ok (.aload_n 0, 1) := by decide +kernel
theorem dX12_lays_30 : decode cX12_lays 30 = .ok (.getfield 78, 3) := by decide +kernel
theorem dX12_lays_33 : decode cX12_lays 33 = .ok (.iload 7, 2) := by decide +kernel
theorem dX12_lays_35 : decode cX12_lays 35 = .ok (.iload 4, 2) := by decide +kernel
theorem dX12_lays_37 : decode cX12_lays 37 = .ok (.iastore, 1) := by decide +kernel
theorem dX12_lays_38 : decode cX12_lays 38 = .ok (.aload_n 0, 1) := by decide +kernel
theorem dX12_lays_39 : decode cX12_lays 39 = .ok (.getfield 81, 3) := by decide +kernel
theorem dX12_lays_42 : decode cX12_lays 42 = .ok (.iload 7, 2) := by decide +kernel
theorem dX12_lays_44 : decode cX12_lays 44 = .ok (.iload 5, 2) := by decide +kernel
theorem dX12_lays_46 : decode cX12_lays 46 = .ok (.iastore, 1) := by decide +kernel
theorem dX12_lays_47 : decode cX12_lays 47 = .ok (.aload_n 0, 1) := by decide +kernel
theorem dX12_lays_48 : decode cX12_lays 48 = .ok (.getfield 84, 3) := by decide +kernel
theorem dX12_lays_51 : decode cX12_lays 51 = .ok (.iload 7, 2) := by decide +kernel
theorem dX12_lays_53 : decode cX12_lays 53 = .ok (.iload 6, 2) := by decide +kernel
theorem dX12_lays_55 : decode cX12_lays 55 = .ok (.iastore, 1) := by decide +kernel
theorem dX12_lays_56 : decode cX12_lays 56 = .ok (.aload_n 0, 1) := by decide +kernel
theorem dX12_lays_57 : decode cX12_lays 57 = .ok (.getfield 69, 3) := by decide +kernel
theorem dX12_lays_60 : decode cX12_lays 60 = .ok (.iload_n 1, 1) := by decide +kernel
theorem dX12_lays_61 : decode cX12_lays 61 = .ok (.dup2, 1) := by decide +kernel
theorem dX12_lays_62 : decode cX12_lays 62 = .ok (.iaload, 1) := by decide +kernel
theorem dX12_lays_63 : decode cX12_lays 63 = .ok (.iconst 1, 1) := by decide +kernel
theorem dX12_lays_64 : decode cX12_lays 64 = .ok (.iadd, 1) := by decide +kernel
theorem dX12_lays_65 : decode cX12_lays 65 = .ok (.iastore, 1) := by decide +kernel
theorem dX12_lays_66 : decode cX12_lays 66 = .ok (.aload_n 0, 1) := by decide +kernel
theorem dX12_lays_67 : decode cX12_lays 67 = .ok (.getfield 69, 3) := by decide +kernel
theorem dX12_lays_70 : decode cX12_lays 70 = .ok (.iload_n 1, 1) := by decide +kernel
theorem dX12_lays_71 : decode cX12_lays 71 = .ok (.iaload, 1) := by decide +kernel
theorem dX12_lays_72 : decode cX12_lays 72 = .ok (.iconst 1, 1) := by decide +kernel
theorem dX12_lays_73 : decode cX12_lays 73 = .ok (.isub, 1) := by decide +kernel
theorem dX12_lays_74 : decode cX12_lays 74 = .ok (.ireturn, 1) := by decide +kernel
set_option maxHeartbeats 4000000 in
set_option maxRecDepth 100000 in
theorem s_X12_lays {P : PP} {a0 : Nat} {a1 : Int32} {a2 : Int32} {a3 : Int32} {a4 : Int32} {a5 : Int32} {a6 : Int32} (I : IM P a0) (ha1 : 0 ≤ a1.toInt ∧ a1.toInt ≤ 3) (ha2 : -1 ≤ a2.toInt ∧ a2.toInt ≤ 1) (hf0 : ∀ b, pR P a0 20 = some b → 0 ≤ (pI P b (a1.toInt.toNat)).toInt ∧ (pI P b (a1.toInt.toNat)).toInt ≤ 39) : CtrI yX12_lays cX12_lays 8 (some Jvm.ClassFile.FieldType.int) ({ frames := 1, cells := 0, slots := 0, locals := 64 } : Room) 0 0 P [.ref a0, .int a1, .int a2, .int a3, .int a4, .int a5, .int a6] (fun r P2 => IM P2 a0 ∧ EM [20, 21, 22, 23, 24, 25] a0 P P2 ∧ (0 ≤ r.toInt ∧ r.toInt ≤ 39)) := by
  refine enI (lv := [(0, .ref a0), (1, .int a1), (2, .int a2), (3, .int a3), (4, .int a4), (5, .int a5), (6, .int a6)]) (by decide) (Nat.le_of_ble_eq_true rfl) rfl (fun E D cy C Ci0 ret => ?_)
  have ha0 := I.2.1
  obtain ⟨b20632, e20633, h20634⟩ := I.fld (ha0) 20 13 20 rfl
  have hf0 := hf0 b20632 e20633
  refine g_bipush (v := 40) C dX12_lays_0 (by decide) ?_
  refine g_iload_n C dX12_lays_2 rfl 1 rfl ?_
  refine s_imul C dX12_lays_3 (by show -2147483648 ≤ 40 * a1.toInt ∧ 40 * a1.toInt ≤ 2147483647; omega) (fun z20635 h20636 => ?_)
  have h20636 : z20635.toInt = 40 * a1.toInt := h20636
  refine g_aload_n C dX12_lays_4 rfl 0 rfl ?_
  refine g_getR C fi_X12_69 rfl e20633 (ha0).1 (ha0).2 dX12_lays_5 ?_
  refine g_iload_n C dX12_lays_8 rfl 1 rfl ?_
  refine g_iald (j := (a1.toInt.toNat)) C h20634.1 h20634.2.1 (ix_in h20634.2.2 (by omega)) dX12_lays_9 ?_
  refine s_iadd C dX12_lays_10 (by show -2147483648 ≤ z20635.toInt + (pI P b20632 (a1.toInt.toNat)).toInt ∧ z20635.toInt + (pI P b20632 (a1.toInt.toNat)).toInt ≤ 2147483647; omega) (fun z20637 h20638 => ?_)
  have h20638 : z20637.toInt = z20635.toInt + (pI P b20632 (a1.toInt.toNat)).toInt := h20638
  refine g_istore (lv' := [(7, .int z20637), (0, .ref a0), (1, .int a1), (2, .int a2), (3, .int a3), (4, .int a4), (5, .int a5), (6, .int a6)]) C dX12_lays_11 (by decide) rfl ?_
  refine g_aload_n C dX12_lays_13 rfl 1 rfl ?_
  obtain ⟨b20639, e20640, h20641⟩ := I.fld (ha0) 21 13 800 rfl
  refine g_getR C fi_X12_72 rfl e20640 (ha0).1 (ha0).2 dX12_lays_14 ?_
  refine g_iload C dX12_lays_17 0 rfl ?_
  refine g_iload_n C dX12_lays_19 rfl 4 rfl ?_
  refine g_iast (j := (z20637.toInt.toNat)) C h20641.1 h20641.2.1 (ix_in h20641.2.2 (by omega)) dX12_lays_20 ?_
  refine gqW (ks := [21]) (I.setA e20640 h20641 (by decide) (arOk.none rfl)) (EM.setA I e20640 rfl (by decide)) (fun Y20642 Iy20643 Xy20644 w20645 => ?_)
  have w20645 : (pI Y20642 b20639 (z20637.toInt.toNat)).toInt = a3.toInt := w20645
  have q20646 := Xy20644.keepA e20633 (by decide) rfl (a1.toInt.toNat)
  have Xz20647 : EM [20, 21, 22, 23, 24, 25] a0 P Y20642 := Xy20644.mono (by decide)
  have e20648 := Xy20644.ref ha0 (by decide) e20633
  have e20649 := Xy20644.ref ha0 (by decide) e20640
  have h20650 := Xy20644.at ha0
  have h20651 := Xy20644.ar h20634
  have h20652 := Xy20644.ar h20641
  refine g_aload_n C dX12_lays_21 rfl 1 rfl ?_
  obtain ⟨b20653, e20654, h20655⟩ := Iy20643.fld (h20650) 22 13 800 rfl
  refine g_getR C fi_X12_75 rfl e20654 (h20650).1 (h20650).2 dX12_lays_22 ?_
  refine g_iload C dX12_lays_25 0 rfl ?_
  refine g_iload_n C dX12_lays_27 rfl 3 rfl ?_
  refine g_iast (j := (z20637.toInt.toNat)) C h20655.1 h20655.2.1 (ix_in h20655.2.2 (by omega)) dX12_lays_28 ?_
  refine gqW (ks := [22]) (Iy20643.setA e20654 h20655 (by decide) (arOk.of rfl (by omega))) (EM.setA Iy20643 e20654 rfl (by decide)) (fun Y20656 Iy20657 Xy20658 w20659 => ?_)
  have w20659 : (pI Y20656 b20653 (z20637.toInt.toNat)).toInt = a2.toInt := w20659
  have q20660 := Xy20658.keepA e20648 (by decide) rfl (a1.toInt.toNat)
  have q20661 := Xy20658.keepA e20649 (by decide) rfl (z20637.toInt.toNat)
  have Xz20662 : EM [20, 21, 22, 23, 24, 25] a0 P Y20656 := EM.tr ha0 Xz20647 (Xy20658.mono (by decide))
  have e20663 := Xy20658.ref h20650 (by decide) e20648
  have e20664 := Xy20658.ref h20650 (by decide) e20649
  have e20665 := Xy20658.ref h20650 (by decide) e20654
  have h20666 := Xy20658.at h20650
  have h20667 := Xy20658.ar h20651
  have h20668 := Xy20658.ar h20652
  have h20669 := Xy20658.ar h20655
  refine g_aload_n C dX12_lays_29 rfl 1 rfl ?_
  obtain ⟨b20670, e20671, h20672⟩ := Iy20657.fld (h20666) 23 13 800 rfl
  refine g_getR C fi_X12_78 rfl e20671 (h20666).1 (h20666).2 dX12_lays_30 ?_
  refine g_iload C dX12_lays_33 0 rfl ?_
  refine g_iload C dX12_lays_35 5 rfl ?_
  refine g_iast (j := (z20637.toInt.toNat)) C h20672.1 h20672.2.1 (ix_in h20672.2.2 (by omega)) dX12_lays_37 ?_
  refine gqW (ks := [23]) (Iy20657.setA e20671 h20672 (by decide) (arOk.none rfl)) (EM.setA Iy20657 e20671 rfl (by decide)) (fun Y20673 Iy20674 Xy20675 w20676 => ?_)
  have w20676 : (pI Y20673 b20670 (z20637.toInt.toNat)).toInt = a4.toInt := w20676
  have q20677 := Xy20675.keepA e20663 (by decide) rfl (a1.toInt.toNat)
  have q20678 := Xy20675.keepA e20664 (by decide) rfl (z20637.toInt.toNat)
  have q20679 := Xy20675.keepA e20665 (by decide) rfl (z20637.toInt.toNat)
  have Xz20680 : EM [20, 21, 22, 23, 24, 25] a0 P Y20673 := EM.tr ha0 Xz20662 (Xy20675.mono (by decide))
  have e20681 := Xy20675.ref h20666 (by decide) e20663
  have e20682 := Xy20675.ref h20666 (by decide) e20664
  have e20683 := Xy20675.ref h20666 (by decide) e20665
  have e20684 := Xy20675.ref h20666 (by decide) e20671
  have h20685 := Xy20675.at h20666
  have h20686 := Xy20675.ar h20667
  have h20687 := Xy20675.ar h20668
  have h20688 := Xy20675.ar h20669
  have h20689 := Xy20675.ar h20672
  refine g_aload_n C dX12_lays_38 rfl 1 rfl ?_
  obtain ⟨b20690, e20691, h20692⟩ := Iy20674.fld (h20685) 24 13 800 rfl
  refine g_getR C fi_X12_81 rfl e20691 (h20685).1 (h20685).2 dX12_lays_39 ?_
  refine g_iload C dX12_lays_42 0 rfl ?_
  refine g_iload C dX12_lays_44 6 rfl ?_
  refine g_iast (j := (z20637.toInt.toNat)) C h20692.1 h20692.2.1 (ix_in h20692.2.2 (by omega)) dX12_lays_46 ?_
  refine gqW (ks := [24]) (Iy20674.setA e20691 h20692 (by decide) (arOk.none rfl)) (EM.setA Iy20674 e20691 rfl (by decide)) (fun Y20693 Iy20694 Xy20695 w20696 => ?_)
  have w20696 : (pI Y20693 b20690 (z20637.toInt.toNat)).toInt = a5.toInt := w20696
  have q20697 := Xy20695.keepA e20681 (by decide) rfl (a1.toInt.toNat)
  have q20698 := Xy20695.keepA e20682 (by decide) rfl (z20637.toInt.toNat)
  have q20699 := Xy20695.keepA e20683 (by decide) rfl (z20637.toInt.toNat)
  have q20700 := Xy20695.keepA e20684 (by decide) rfl (z20637.toInt.toNat)
  have Xz20701 : EM [20, 21, 22, 23, 24, 25] a0 P Y20693 := EM.tr ha0 Xz20680 (Xy20695.mono (by decide))
  have e20702 := Xy20695.ref h20685 (by decide) e20681
  have e20703 := Xy20695.ref h20685 (by decide) e20682
  have e20704 := Xy20695.ref h20685 (by decide) e20683
  have e20705 := Xy20695.ref h20685 (by decide) e20684
  have e20706 := Xy20695.ref h20685 (by decide) e20691
  have h20707 := Xy20695.at h20685
  have h20708 := Xy20695.ar h20686
  have h20709 := Xy20695.ar h20687
  have h20710 := Xy20695.ar h20688
  have h20711 := Xy20695.ar h20689
  have h20712 := Xy20695.ar h20692
  refine g_aload_n C dX12_lays_47 rfl 1 rfl ?_
  obtain ⟨b20713, e20714, h20715⟩ := Iy20694.fld (h20707) 25 13 800 rfl
  refine g_getR C fi_X12_84 rfl e20714 (h20707).1 (h20707).2 dX12_lays_48 ?_
  refine g_iload C dX12_lays_51 0 rfl ?_
  refine g_iload C dX12_lays_53 7 rfl ?_
  refine g_iast (j := (z20637.toInt.toNat)) C h20715.1 h20715.2.1 (ix_in h20715.2.2 (by omega)) dX12_lays_55 ?_
  refine gqW (ks := [25]) (Iy20694.setA e20714 h20715 (by decide) (arOk.none rfl)) (EM.setA Iy20694 e20714 rfl (by decide)) (fun Y20716 Iy20717 Xy20718 w20719 => ?_)
  have w20719 : (pI Y20716 b20713 (z20637.toInt.toNat)).toInt = a6.toInt := w20719
  have q20720 := Xy20718.keepA e20702 (by decide) rfl (a1.toInt.toNat)
  have q20721 := Xy20718.keepA e20703 (by decide) rfl (z20637.toInt.toNat)
  have q20722 := Xy20718.keepA e20704 (by decide) rfl (z20637.toInt.toNat)
  have q20723 := Xy20718.keepA e20705 (by decide) rfl (z20637.toInt.toNat)
  have q20724 := Xy20718.keepA e20706 (by decide) rfl (z20637.toInt.toNat)
  have Xz20725 : EM [20, 21, 22, 23, 24, 25] a0 P Y20716 := EM.tr ha0 Xz20701 (Xy20718.mono (by decide))
  have e20726 := Xy20718.ref h20707 (by decide) e20702
  have e20727 := Xy20718.ref h20707 (by decide) e20703
  have e20728 := Xy20718.ref h20707 (by decide) e20704
  have e20729 := Xy20718.ref h20707 (by decide) e20705
  have e20730 := Xy20718.ref h20707 (by decide) e20706
  have e20731 := Xy20718.ref h20707 (by decide) e20714
  have h20732 := Xy20718.at h20707
  have h20733 := Xy20718.ar h20708
  have h20734 := Xy20718.ar h20709
  have h20735 := Xy20718.ar h20710
  have h20736 := Xy20718.ar h20711
  have h20737 := Xy20718.ar h20712
  have h20738 := Xy20718.ar h20715
  refine g_aload_n C dX12_lays_56 rfl 1 rfl ?_
  refine g_getR C fi_X12_69 rfl e20726 (h20732).1 (h20732).2 dX12_lays_57 ?_
  refine g_iload_n C dX12_lays_60 rfl 2 rfl ?_
  refine g_dup2_11 C dX12_lays_61 rfl rfl ?_
  refine g_iald (j := (a1.toInt.toNat)) C h20733.1 h20733.2.1 (ix_in h20733.2.2 (by omega)) dX12_lays_62 ?_
  refine g_iconst (v := 1) C dX12_lays_63 (by decide) ?_
  refine s_iadd C dX12_lays_64 (by show -2147483648 ≤ (pI Y20716 b20632 (a1.toInt.toNat)).toInt + 1 ∧ (pI Y20716 b20632 (a1.toInt.toNat)).toInt + 1 ≤ 2147483647; omega) (fun z20739 h20740 => ?_)
  have h20740 : z20739.toInt = (pI Y20716 b20632 (a1.toInt.toNat)).toInt + 1 := h20740
  refine g_iast (j := (a1.toInt.toNat)) C h20733.1 h20733.2.1 (ix_in h20733.2.2 (by omega)) dX12_lays_65 ?_
  refine gqW (ks := [20]) (Iy20717.setA e20726 h20733 (by decide) (arOk.of rfl (by omega))) (EM.setA Iy20717 e20726 rfl (by decide)) (fun Y20741 Iy20742 Xy20743 w20744 => ?_)
  have w20744 : (pI Y20741 b20632 (a1.toInt.toNat)).toInt = z20739.toInt := w20744
  have q20745 := Xy20743.keepA e20727 (by decide) rfl (z20637.toInt.toNat)
  have q20746 := Xy20743.keepA e20728 (by decide) rfl (z20637.toInt.toNat)
  have q20747 := Xy20743.keepA e20729 (by decide) rfl (z20637.toInt.toNat)
  have q20748 := Xy20743.keepA e20730 (by decide) rfl (z20637.toInt.toNat)
  have q20749 := Xy20743.keepA e20731 (by decide) rfl (z20637.toInt.toNat)
  have Xz20750 : EM [20, 21, 22, 23, 24, 25] a0 P Y20741 := EM.tr ha0 Xz20725 (Xy20743.mono (by decide))
  have e20751 := Xy20743.ref h20732 (by decide) e20726
  have e20752 := Xy20743.ref h20732 (by decide) e20727
  have e20753 := Xy20743.ref h20732 (by decide) e20728
  have e20754 := Xy20743.ref h20732 (by decide) e20729
  have e20755 := Xy20743.ref h20732 (by decide) e20730
  have e20756 := Xy20743.ref h20732 (by decide) e20731
  have h20757 := Xy20743.at h20732
  have h20758 := Xy20743.ar h20733
  have h20759 := Xy20743.ar h20734
  have h20760 := Xy20743.ar h20735
  have h20761 := Xy20743.ar h20736
  have h20762 := Xy20743.ar h20737
  have h20763 := Xy20743.ar h20738
  refine g_aload_n C dX12_lays_66 rfl 1 rfl ?_
  refine g_getR C fi_X12_69 rfl e20751 (h20757).1 (h20757).2 dX12_lays_67 ?_
  refine g_iload_n C dX12_lays_70 rfl 2 rfl ?_
  refine g_iald (j := (a1.toInt.toNat)) C h20758.1 h20758.2.1 (ix_in h20758.2.2 (by omega)) dX12_lays_71 ?_
  refine g_iconst (v := 1) C dX12_lays_72 (by decide) ?_
  refine s_isub C dX12_lays_73 (by show -2147483648 ≤ (pI Y20741 b20632 (a1.toInt.toNat)).toInt - 1 ∧ (pI Y20741 b20632 (a1.toInt.toNat)).toInt - 1 ≤ 2147483647; omega) (fun z20764 h20765 => ?_)
  have h20765 : z20764.toInt = (pI Y20741 b20632 (a1.toInt.toNat)).toInt - 1 := h20765
  exact ret _ _ _ _ _ _ dX12_lays_74 rfl (by decide) (by decide) ⟨Iy20742, Xz20750, (by omega)⟩
theorem dX12_laysIf_0 : decode cX12_laysIf 0 = .ok (.aload_n 0, 1) := by decide +kernel
theorem dX12_laysIf_1 : decode cX12_laysIf 1 = .ok (.getfield 66, 3) := by decide +kernel
theorem dX12_laysIf_4 : decode cX12_laysIf 4 = .ok (.iload_n 2, 1) := by decide +kernel
theorem dX12_laysIf_5 : decode cX12_laysIf 5 = .ok (.iaload, 1) := by decide +kernel
theorem dX12_laysIf_6 : decode cX12_laysIf 6 = .ok (.ifCond .le 28, 3) := by decide +kernel
theorem dX12_laysIf_9 : decode cX12_laysIf 9 = .ok (.iload 5, 2) := by decide +kernel
theorem dX12_laysIf_11 : decode cX12_laysIf 11 = .ok (.aload_n 0, 1) := by decide +kernel
theorem dX12_laysIf_12 : decode cX12_laysIf 12 = .ok (.iload_n 2, 1) := by decide +kernel
theorem dX12_laysIf_13 : decode cX12_laysIf 13 = .ok (.iload_n 3, 1) := by decide +kernel
theorem dX12_laysIf_14 : decode cX12_laysIf 14 = .ok (.iload 4, 2) := by decide +kernel
theorem dX12_laysIf_16 : decode cX12_laysIf 16 = .ok (.invokevirtual 267, 3) := by decide +kernel
theorem dX12_sealOf_0 : decode cX12_sealOf 0 = .ok (.aload_n 0, 1) := by decide +kernel
theorem dX12_sealOf_1 : decode cX12_sealOf 1 = .ok (.getfield 66, 3) := by decide +kernel
theorem dX12_sealOf_4 : decode cX12_sealOf 4 = .ok (.iload_n 1, 1) := by decide +kernel
theorem dX12_sealOf_5 : decode cX12_sealOf 5 = .ok (.iaload, 1) := by decide +kernel
theorem dX12_sealOf_6 : decode cX12_sealOf 6 = .ok (.ifCond .ne 7, 3) := by decide +kernel
theorem dX12_sealOf_9 : decode cX12_sealOf 9 = .ok (.iconst 0, 1) := by decide +kernel
theorem dX12_sealOf_10 : decode cX12_sealOf 10 = .ok (.goto 22, 3) := by decide +kernel
theorem dX12_sealOf_13 : decode cX12_sealOf 13 = .ok (.iload_n 2, 1) := by decide +kernel
theorem dX12_sealOf_14 : decode cX12_sealOf 14 = .ok (.iconst 1, 1) := by decide +kernel
theorem dX12_sealOf_15 : decode cX12_sealOf 15 = .ok (.iadd, 1) := by decide +kernel
theorem dX12_sealOf_16 : decode cX12_sealOf 16 = .ok (.aload_n 0, 1) := by decide +kernel
theorem dX12_sealOf_17 : decode cX12_sealOf 17 = .ok (.getfield 66, 3) := by decide +kernel
theorem dX12_sealOf_20 : decode cX12_sealOf 20 = .ok (.iload_n 1, 1) := by decide +kernel
theorem dX12_sealOf_21 : decode cX12_sealOf 21 = .ok (.iaload, 1) := by decide +kernel
theorem dX12_sealOf_22 : decode cX12_sealOf 22 = .ok (.imul, 1) := by decide +kernel
theorem dX12_sealOf_23 : decode cX12_sealOf 23 = .ok (.bipush 31, 2) := by decide +kernel
theorem dX12_sealOf_25 : decode cX12_sealOf 25 = .ok (.iload_n 3, 1) := by decide +kernel
theorem dX12_sealOf_26 : decode cX12_sealOf 26 = .ok (.imul, 1) := by decide +kernel
theorem dX12_sealOf_27 : decode cX12_sealOf 27 = .ok (.iadd, 1) := by decide +kernel
theorem dX12_sealOf_28 : decode cX12_sealOf 28 = .ok (.sipush 997, 3) := by decide +kernel
theorem dX12_sealOf_31 : decode cX12_sealOf 31 = .ok (.irem, 1) := by decide +kernel
theorem dX12_sealOf_32 : decode cX12_sealOf 32 = .ok (.ireturn, 1) := by decide +kernel
set_option maxHeartbeats 4000000 in
set_option maxRecDepth 100000 in
theorem s_X12_sealOf {P : PP} {a0 : Nat} {a1 : Int32} {a2 : Int32} {a3 : Int32} (I : IM P a0) (ha1 : 0 ≤ a1.toInt ∧ a1.toInt ≤ 1) : CtrI yX12_sealOf cX12_sealOf 4 (some Jvm.ClassFile.FieldType.int) ({ frames := 1, cells := 0, slots := 0, locals := 64 } : Room) 0 0 P [.ref a0, .int a1, .int a2, .int a3] (fun r P2 => P = P2 ∧ (True)) := by
  refine enI (lv := [(0, .ref a0), (1, .int a1), (2, .int a2), (3, .int a3)]) (by decide) (Nat.le_of_ble_eq_true rfl) rfl (fun E D cy C Ci0 ret => ?_)
  have ha0 := I.2.1
  refine g_aload_n C dX12_sealOf_0 rfl 0 rfl ?_
  obtain ⟨b20789, e20790, h20791⟩ := I.fld (ha0) 17 13 3 rfl
  refine g_getR C fi_X12_66 rfl e20790 (ha0).1 (ha0).2 dX12_sealOf_1 ?_
  refine g_iload_n C dX12_sealOf_4 rfl 1 rfl ?_
  refine g_iald (j := (a1.toInt.toNat)) C h20791.1 h20791.2.1 (ix_in h20791.2.2 (by omega)) dX12_sealOf_5 ?_
  have u20793 := ti_rng (pI P b20789 (a1.toInt.toNat))
  refine b_if_ne C 13 dX12_sealOf_6 (by decide) (fun h20792 => ?_) (fun h20792 => ?_)
  · have h20792 : (pI P b20789 (a1.toInt.toNat)).toInt ≠ 0 := ti_ne h20792
    refine g_iload_n C dX12_sealOf_13 rfl 2 rfl ?_
    refine g_iconst (v := 1) C dX12_sealOf_14 (by decide) ?_
    refine a_iadd C dX12_sealOf_15 (fun z20794 => ?_)
    refine g_aload_n C dX12_sealOf_16 rfl 0 rfl ?_
    refine g_getR C fi_X12_66 rfl e20790 (ha0).1 (ha0).2 dX12_sealOf_17 ?_
    refine g_iload_n C dX12_sealOf_20 rfl 1 rfl ?_
    refine g_iald (j := (a1.toInt.toNat)) C h20791.1 h20791.2.1 (ix_in h20791.2.2 (by omega)) dX12_sealOf_21 ?_
    refine a_imul C dX12_sealOf_22 (fun z20796 => ?_)
    refine g_bipush (v := 31) C dX12_sealOf_23 (by decide) ?_
    refine g_iload_n C dX12_sealOf_25 rfl 3 rfl ?_
    refine a_imul C dX12_sealOf_26 (fun z20798 => ?_)
    refine a_iadd C dX12_sealOf_27 (fun z20800 => ?_)
    refine g_sipush (v := 997) C dX12_sealOf_28 (by decide) ?_
    refine a_irem C dX12_sealOf_31 (by show 997 ≠ 0; omega) (fun z20802 => ?_)
    exact ret _ _ _ _ _ _ dX12_sealOf_32 rfl (by decide) (by decide) ⟨rfl, trivial⟩
  · have h20792 : (pI P b20789 (a1.toInt.toNat)).toInt = 0 := congrArg Int32.toInt h20792
    refine g_iconst (v := 0) C dX12_sealOf_9 (by decide) ?_
    refine g_goto C 32 dX12_sealOf_10 (by decide) ?_
    exact ret _ _ _ _ _ _ dX12_sealOf_32 rfl (by decide) (by decide) ⟨rfl, trivial⟩
theorem dX12_laysIf_19 : decode cX12_laysIf 19 = .ok (.if_icmp .eq 15, 3) := by decide +kernel
theorem dX12_laysIf_22 : decode cX12_laysIf 22 = .ok (.aload_n 0, 1) := by decide +kernel
theorem dX12_laysIf_23 : decode cX12_laysIf 23 = .ok (.dup, 1) := by decide +kernel
theorem dX12_laysIf_24 : decode cX12_laysIf 24 = .ok (.getfield 288, 3) := by decide +kernel
theorem dX12_laysIf_27 : decode cX12_laysIf 27 = .ok (.iconst 1, 1) := by decide +kernel
theorem dX12_laysIf_28 : decode cX12_laysIf 28 = .ok (.iadd, 1) := by decide +kernel
theorem dX12_laysIf_29 : decode cX12_laysIf 29 = .ok (.putfield 288, 3) := by decide +kernel
theorem dX12_laysIf_32 : decode cX12_laysIf 32 = .ok (.iconst (-1), 1) := by decide +kernel
theorem dX12_laysIf_33 : decode cX12_laysIf 33 = .ok (.ireturn, 1) := by decide +kernel
theorem dX12_laysIf_34 : decode cX12_laysIf 34 = .ok (.aload_n 0, 1) := by decide +kernel
theorem dX12_laysIf_35 : decode cX12_laysIf 35 = .ok (.iload_n 1, 1) := by decide +kernel
theorem dX12_laysIf_36 : decode cX12_laysIf 36 = .ok (.iload_n 2, 1) := by decide +kernel
theorem dX12_laysIf_37 : decode cX12_laysIf 37 = .ok (.iload_n 3, 1) := by decide +kernel
theorem dX12_laysIf_38 : decode cX12_laysIf 38 = .ok (.iload 4, 2) := by decide +kernel
theorem dX12_laysIf_40 : decode cX12_laysIf 40 = .ok (.iconst 3, 1) := by decide +kernel
theorem dX12_laysIf_41 : decode cX12_laysIf 41 = .ok (.iload 5, 2) := by decide +kernel
theorem dX12_laysIf_43 : decode cX12_laysIf 43 = .ok (.invokevirtual 284, 3) := by decide +kernel
theorem dX12_laysIf_46 : decode cX12_laysIf 46 = .ok (.ireturn, 1) := by decide +kernel
set_option maxHeartbeats 4000000 in
set_option maxRecDepth 100000 in
theorem s_X12_laysIf {P : PP} {a0 : Nat} {a1 : Int32} {a2 : Int32} {a3 : Int32} {a4 : Int32} {a5 : Int32} (I : IM P a0) (ha1 : 0 ≤ a1.toInt ∧ a1.toInt ≤ 3) (ha2 : 0 ≤ a2.toInt ∧ a2.toInt ≤ 1) (hf0 : ∀ b, pR P a0 20 = some b → 0 ≤ (pI P b (a1.toInt.toNat)).toInt ∧ (pI P b (a1.toInt.toNat)).toInt ≤ 39) : CtrI yX12_laysIf cX12_laysIf 6 (some Jvm.ClassFile.FieldType.int) ({ frames := 2, cells := 0, slots := 0, locals := 128 } : Room) 0 0 P [.ref a0, .int a1, .int a2, .int a3, .int a4, .int a5] (fun r P2 => IM P2 a0 ∧ EM [20, 21, 22, 23, 24, 25, 27] a0 P P2 ∧ (-1 ≤ r.toInt ∧ r.toInt ≤ 39)) := by
  refine enI (lv := [(0, .ref a0), (1, .int a1), (2, .int a2), (3, .int a3), (4, .int a4), (5, .int a5)]) (by decide) (Nat.le_of_ble_eq_true rfl) rfl (fun E D cy C Ci0 ret => ?_)
  have ha0 := I.2.1
  have J34 : (∀ b, pR P a0 17 = some b → (pI P b (a2.toInt.toNat)).toInt ≤ 2147483647) → (∀ b, pR P a0 20 = some b → 0 ≤ (pI P b (a1.toInt.toNat)).toInt ∧ (pI P b (a1.toInt.toNat)).toInt ≤ 39) → G E ({ frames := 2, cells := 0, slots := 0, locals := 128 } : Room) D cy 6 P 0 0 34 [(0, .ref a0), (1, .int a1), (2, .int a2), (3, .int a3), (4, .int a4), (5, .int a5)] [] := by
    intro hq34_0 hq34_1
    obtain ⟨b20848, e20849, h20850⟩ := I.fld (ha0) 17 13 3 rfl
    have hq34_0 := hq34_0 b20848 e20849
    obtain ⟨b20851, e20852, h20853⟩ := I.fld (ha0) 20 13 20 rfl
    have hq34_1 := hq34_1 b20851 e20852
    refine g_aload_n C dX12_laysIf_34 rfl 0 rfl ?_
    refine g_iload_n C dX12_laysIf_35 rfl 1 rfl ?_
    refine g_iload_n C dX12_laysIf_36 rfl 2 rfl ?_
    refine g_iload_n C dX12_laysIf_37 rfl 3 rfl ?_
    refine g_iload C dX12_laysIf_38 4 rfl ?_
    refine g_iconst (v := 3) C dX12_laysIf_40 (by decide) ?_
    refine g_iload C dX12_laysIf_41 5 rfl ?_
    refine g_callVI (rest := []) C mv_X12_284 [.int a1, .int a2, .int a3, .int a4, .int 3, .int a5] (s_X12_lays I (by omega) (by omega) (fun b9 e9 => by rw [e20852] at e9; cases e9; show 0 ≤ (pI P b20851 (a1.toInt.toNat)).toInt ∧ (pI P b20851 (a1.toInt.toNat)).toInt ≤ 39; omega)) (ha0).1 (ha0).2 rfl rfl (by decide) (Nat.le_of_ble_eq_true rfl) (by decide) dX12_laysIf_43 (fun r20854 Y20855 h20856 => ?_)
    obtain ⟨Iy20857, Xy20858, h20856⟩ := h20856
    have q20859 := Xy20858.keepA e20849 (by decide) rfl (a2.toInt.toNat)
    have Xz20860 : EM [20, 21, 22, 23, 24, 25, 27] a0 P Y20855 := Xy20858.mono (by decide)
    have e20861 := Xy20858.ref ha0 (by decide) e20849
    have h20862 := Xy20858.at ha0
    have h20863 := Xy20858.ar h20850
    have h20856 : 0 ≤ r20854.toInt ∧ r20854.toInt ≤ 39 := h20856
    exact ret _ _ _ _ _ _ dX12_laysIf_46 rfl (by decide) (by decide) ⟨Iy20857, Xz20860, (by omega)⟩
  obtain ⟨b20864, e20865, h20866⟩ := I.fld (ha0) 20 13 20 rfl
  have hf0 := hf0 b20864 e20865
  refine g_aload_n C dX12_laysIf_0 rfl 0 rfl ?_
  obtain ⟨b20867, e20868, h20869⟩ := I.fld (ha0) 17 13 3 rfl
  refine g_getR C fi_X12_66 rfl e20868 (ha0).1 (ha0).2 dX12_laysIf_1 ?_
  refine g_iload_n C dX12_laysIf_4 rfl 2 rfl ?_
  refine g_iald (j := (a2.toInt.toNat)) C h20869.1 h20869.2.1 (ix_in h20869.2.2 (by omega)) dX12_laysIf_5 ?_
  have u20871 := ti_rng (pI P b20867 (a2.toInt.toNat))
  refine b_if_le C 34 dX12_laysIf_6 (by decide) (fun h20870 => ?_) (fun h20870 => ?_)
  · have h20870 : (pI P b20867 (a2.toInt.toNat)).toInt ≤ 0 := h20870
    exact J34 (fun b9 e9 => by rw [e20868] at e9; cases e9; omega) (fun b9 e9 => by rw [e20865] at e9; cases e9; omega)
  · have h20870 : 0 < (pI P b20867 (a2.toInt.toNat)).toInt := h20870
    refine g_iload C dX12_laysIf_9 5 rfl ?_
    refine g_aload_n C dX12_laysIf_11 rfl 0 rfl ?_
    refine g_iload_n C dX12_laysIf_12 rfl 2 rfl ?_
    refine g_iload_n C dX12_laysIf_13 rfl 3 rfl ?_
    refine g_iload C dX12_laysIf_14 4 rfl ?_
    refine g_callVI (rest := [.int a5]) C mv_X12_267 [.int a2, .int a3, .int a4] (s_X12_sealOf I (by omega)) (ha0).1 (ha0).2 rfl rfl (by decide) (Nat.le_of_ble_eq_true rfl) (by decide) dX12_laysIf_16 (fun r20872 Y20873 h20874 => ?_)
    obtain ⟨rfl, h20874⟩ := h20874
    have h20874 : True := h20874
    have u20876 := ti_rng a5
    have u20877 := ti_rng r20872
    refine b_icmp_eq C 34 dX12_laysIf_19 (by decide) (fun h20875 => ?_) (fun h20875 => ?_)
    · have h20875 : a5.toInt = r20872.toInt := congrArg Int32.toInt h20875
      exact J34 (fun b9 e9 => by rw [e20868] at e9; cases e9; omega) (fun b9 e9 => by rw [e20865] at e9; cases e9; omega)
    · have h20875 : a5.toInt ≠ r20872.toInt := ti_ne h20875
      refine g_aload_n C dX12_laysIf_22 rfl 0 rfl ?_
      refine g_dup C dX12_laysIf_23 rfl ?_
      refine g_getI C fi_X12_288 (by decide) (ha0).1 (ha0).2 dX12_laysIf_24 ?_
      refine g_iconst (v := 1) C dX12_laysIf_27 (by decide) ?_
      refine a_iadd C dX12_laysIf_28 (fun z20878 => ?_)
      refine g_putI C fi_X12_288 rfl (ha0).1 (ha0).2 dX12_laysIf_29 ?_
      refine gqW (ks := [27]) (I.setI (rgOk.none rfl)) (EM.setI I (by decide)) (fun Y20880 Iy20881 Xy20882 w20883 => ?_)
      have w20883 : (pI Y20880 a0 27).toInt = z20878.toInt := w20883
      have q20884 := Xy20882.keepA e20865 (by decide) rfl (a1.toInt.toNat)
      have q20885 := Xy20882.keepA e20868 (by decide) rfl (a2.toInt.toNat)
      have Xz20886 : EM [20, 21, 22, 23, 24, 25, 27] a0 P Y20880 := Xy20882.mono (by decide)
      have e20887 := Xy20882.ref ha0 (by decide) e20865
      have e20888 := Xy20882.ref ha0 (by decide) e20868
      have h20889 := Xy20882.at ha0
      have h20890 := Xy20882.ar h20866
      have h20891 := Xy20882.ar h20869
      refine g_iconst (v := (-1)) C dX12_laysIf_32 (by decide) ?_
      exact ret _ _ _ _ _ _ dX12_laysIf_33 rfl (by decide) (by decide) ⟨Iy20881, Xz20886, (by decide)⟩
theorem dX12_leaflet_0 : decode cX12_leaflet 0 = .ok (.aload_n 0, 1) := by decide +kernel
theorem dX12_leaflet_1 : decode cX12_leaflet 1 = .ok (.iconst 0, 1) := by decide +kernel
theorem dX12_leaflet_2 : decode cX12_leaflet 2 = .ok (.putfield 1, 3) := by decide +kernel
theorem dX12_leaflet_5 : decode cX12_leaflet 5 = .ok (.aload_n 0, 1) := by decide +kernel
theorem dX12_leaflet_6 : decode cX12_leaflet 6 = .ok (.iload_n 1, 1) := by decide +kernel
theorem dX12_leaflet_7 : decode cX12_leaflet 7 = .ok (.invokevirtual 192, 3) := by decide +kernel
theorem dX12_leaflet_10 : decode cX12_leaflet 10 = .ok (.ifCond .eq 19, 3) := by decide +kernel
theorem dX12_leaflet_13 : decode cX12_leaflet 13 = .ok (.iload_n 2, 1) := by decide +kernel
theorem dX12_leaflet_14 : decode cX12_leaflet 14 = .ok (.invokestatic 258, 3) := by decide +kernel
theorem dX12_leaflet_17 : decode cX12_leaflet 17 = .ok (.ifCond .eq 12, 3) := by decide +kernel
theorem dX12_leaflet_20 : decode cX12_leaflet 20 = .ok (.iload_n 3, 1) := by decide +kernel
theorem dX12_leaflet_21 : decode cX12_leaflet 21 = .ok (.iconst 0, 1) := by decide +kernel
theorem dX12_leaflet_22 : decode cX12_leaflet 22 = .ok (.iconst 3, 1) := by decide +kernel
theorem dX12_leaflet_23 : decode cX12_leaflet 23 = .ok (.invokestatic 178, 3) := by decide +kernel
theorem dX12_leaflet_26 : decode cX12_leaflet 26 = .ok (.ifCond .ne 5, 3) := by decide +kernel
theorem dX12_leaflet_31 : decode cX12_leaflet 31 = .ok (.aload_n 0, 1) := by decide +kernel
theorem dX12_leaflet_32 : decode cX12_leaflet 32 = .ok (.iload_n 1, 1) := by decide +kernel
theorem dX12_leaflet_33 : decode cX12_leaflet 33 = .ok (.iload_n 2, 1) := by decide +kernel
theorem dX12_leaflet_34 : decode cX12_leaflet 34 = .ok (.invokevirtual 261, 3) := by decide +kernel
theorem dX12_mark_0 : decode cX12_mark 0 = .ok (.aload_n 0, 1) := by decide +kernel
theorem dX12_mark_1 : decode cX12_mark 1 = .ok (.iconst 0, 1) := by decide +kernel
theorem dX12_mark_2 : decode cX12_mark 2 = .ok (.putfield 1, 3) := by decide +kernel
theorem dX12_mark_5 : decode cX12_mark 5 = .ok (.iload_n 1, 1) := by decide +kernel
theorem dX12_mark_6 : decode cX12_mark 6 = .ok (.iconst 0, 1) := by decide +kernel
theorem dX12_mark_7 : decode cX12_mark 7 = .ok (.iconst 3, 1) := by decide +kernel
theorem dX12_mark_8 : decode cX12_mark 8 = .ok (.invokestatic 178, 3) := by decide +kernel
theorem dX12_mark_11 : decode cX12_mark 11 = .ok (.ifCond .eq 16, 3) := by decide +kernel
theorem dX12_mark_14 : decode cX12_mark 14 = .ok (.iload_n 2, 1) := by decide +kernel
theorem dX12_mark_15 : decode cX12_mark 15 = .ok (.ifCond .eq 14, 3) := by decide +kernel
theorem dX12_mark_18 : decode cX12_mark 18 = .ok (.aload_n 0, 1) := by decide +kernel
theorem dX12_mark_19 : decode cX12_mark 19 = .ok (.getfield 87, 3) := by decide +kernel
theorem dX12_mark_22 : decode cX12_mark 22 = .ok (.iload_n 1, 1) := by decide +kernel
theorem dX12_mark_23 : decode cX12_mark 23 = .ok (.baload, 1) := by decide +kernel
theorem dX12_mark_24 : decode cX12_mark 24 = .ok (.ifCond .ne 5, 3) := by decide +kernel
theorem dX12_mark_27 : decode cX12_mark 27 = .ok (.iconst 0, 1) := by decide +kernel
theorem dX12_mark_28 : decode cX12_mark 28 = .ok (.ireturn, 1) := by decide +kernel
theorem dX12_mark_29 : decode cX12_mark 29 = .ok (.iconst 0, 1) := by decide +kernel
theorem dX12_mark_30 : decode cX12_mark 30 = .ok (.istore_n 3, 1) := by decide +kernel
theorem dX12_mark_31 : decode cX12_mark 31 = .ok (.iload_n 3, 1) := by decide +kernel
theorem dX12_mark_32 : decode cX12_mark 32 = .ok (.iconst 4, 1) := by decide +kernel
theorem dX12_mark_33 : decode cX12_mark 33 = .ok (.if_icmp .ge 43, 3) := by decide +kernel
theorem dX12_mark_36 : decode cX12_mark 36 = .ok (.aload_n 0, 1) := by decide +kernel
theorem dX12_mark_37 : decode cX12_mark 37 = .ok (.iload_n 2, 1) := by decide +kernel
theorem dX12_mark_38 : decode cX12_mark 38 = .ok (.ifCond .eq 13, 3) := by decide +kernel
theorem dX12_mark_41 : decode cX12_mark 41 = .ok (.iconst 4, 1) := by decide +kernel
theorem dX12_mark_42 : decode cX12_mark 42 = .ok (.iload_n 1, 1) := by decide +kernel
theorem dX12_mark_43 : decode cX12_mark 43 = .ok (.iconst 1, 1) := by decide +kernel
theorem dX12_mark_44 : decode cX12_mark 44 = .ok (.iadd, 1) := by decide +kernel
theorem dX12_mark_45 : decode cX12_mark 45 = .ok (.imul, 1) := by decide +kernel
theorem dX12_mark_46 : decode cX12_mark 46 = .ok (.iload_n 3, 1) := by decide +kernel
theorem dX12_mark_47 : decode cX12_mark 47 = .ok (.iadd, 1) := by decide +kernel
theorem dX12_mark_48 : decode cX12_mark 48 = .ok (.goto 4, 3) := by decide +kernel
theorem dX12_mark_51 : decode cX12_mark 51 = .ok (.iload_n 3, 1) := by decide +kernel
theorem dX12_mark_52 : decode cX12_mark 52 = .ok (.iload_n 2, 1) := by decide +kernel
theorem dX12_mark_53 : decode cX12_mark 53 = .ok (.ifCond .eq 7, 3) := by decide +kernel
theorem dX12_mark_56 : decode cX12_mark 56 = .ok (.iload_n 3, 1) := by decide +kernel
theorem dX12_mark_57 : decode cX12_mark 57 = .ok (.goto 10, 3) := by decide +kernel
theorem dX12_mark_60 : decode cX12_mark 60 = .ok (.iconst 4, 1) := by decide +kernel
theorem dX12_mark_61 : decode cX12_mark 61 = .ok (.iload_n 1, 1) := by decide +kernel
theorem dX12_mark_62 : decode cX12_mark 62 = .ok (.iconst 1, 1) := by decide +kernel
theorem dX12_mark_63 : decode cX12_mark 63 = .ok (.iadd, 1) := by decide +kernel
theorem dX12_mark_64 : decode cX12_mark 64 = .ok (.imul, 1) := by decide +kernel
theorem dX12_mark_65 : decode cX12_mark 65 = .ok (.iload_n 3, 1) := by decide +kernel
theorem dX12_mark_66 : decode cX12_mark 66 = .ok (.iadd, 1) := by decide +kernel
theorem dX12_mark_67 : decode cX12_mark 67 = .ok (.invokevirtual 302, 3) := by decide +kernel
theorem dX12_mark_70 : decode cX12_mark 70 = .ok (.iinc 3 1, 3) := by decide +kernel
theorem dX12_mark_73 : decode cX12_mark 73 = .ok (.goto (-42), 3) := by decide +kernel
theorem dX12_mark_76 : decode cX12_mark 76 = .ok (.aload_n 0, 1) := by decide +kernel
theorem dX12_mark_77 : decode cX12_mark 77 = .ok (.getfield 87, 3) := by decide +kernel
theorem dX12_mark_80 : decode cX12_mark 80 = .ok (.iload_n 1, 1) := by decide +kernel
theorem dX12_mark_81 : decode cX12_mark 81 = .ok (.iconst 1, 1) := by decide +kernel
theorem dX12_mark_82 : decode cX12_mark 82 = .ok (.bastore, 1) := by decide +kernel
theorem dX12_mark_83 : decode cX12_mark 83 = .ok (.iconst 1, 1) := by decide +kernel
theorem dX12_mark_84 : decode cX12_mark 84 = .ok (.ireturn, 1) := by decide +kernel
set_option maxHeartbeats 4000000 in
set_option maxRecDepth 100000 in
theorem s_X12_mark {P : PP} {a0 : Nat} {a1 : Int32} {a2 : Int32} (I : IM P a0) (ha2 : 0 ≤ a2.toInt ∧ a2.toInt ≤ 1) : CtrI yX12_mark cX12_mark 4 (some Jvm.ClassFile.FieldType.boolean) ({ frames := 3, cells := 0, slots := 0, locals := 192 } : Room) 0 0 P [.ref a0, .int a1, .int a2] (fun r P2 => IM P2 a0 ∧ EM [0, 20, 21, 22, 23, 24, 25, 26] a0 P P2 ∧ (0 ≤ r.toInt ∧ r.toInt ≤ 1) ∧ (r.toInt = 0 ∨ (((0 : Int) ≤ a1.toInt ∧ a1.toInt ≤ (3 : Int))))) := by
  refine enI (lv := [(0, .ref a0), (1, .int a1), (2, .int a2)]) (by decide) (Nat.le_of_ble_eq_true rfl) rfl (fun E D cy C Ci0 ret => ?_)
  have ha0 := I.2.1
  have J31 : ∀ (n31 : Nat) (P31 : PP) (v31_3 : Int32), (4 - v31_3.toInt).toNat < n31 → (IM P31 a0) → (EM [0, 20, 21, 22, 23, 24, 25, 26] a0 P P31) → (0 ≤ a1.toInt ∧ a1.toInt ≤ 3) → (0 ≤ v31_3.toInt ∧ v31_3.toInt ≤ 4) → (0 ≤ (pI P31 a0 0).toInt ∧ (pI P31 a0 0).toInt ≤ 0) → G E ({ frames := 3, cells := 0, slots := 0, locals := 192 } : Room) D cy 4 P31 0 0 31 [(0, .ref a0), (1, .int a1), (2, .int a2), (3, .int v31_3)] [] := by
    intro n31
    induction n31 with
    | zero => intro P31 v31_3 hm31 I31 X31 hv31_1 hv31_3 hq31_0; omega
    | succ n31 ih31 =>
      intro P31 v31_3 hm31 I31 X31 hv31_1 hv31_3 hq31_0
      have h21065 := X31.at ha0
      have J67 : ∀ (v67_s0 : Int32) (v67_s1 : Int32), (0 ≤ a1.toInt ∧ a1.toInt ≤ 3) → (0 ≤ v31_3.toInt ∧ v31_3.toInt ≤ 3) → (0 ≤ v67_s0.toInt ∧ v67_s0.toInt ≤ 19) → (0 ≤ v67_s1.toInt ∧ v67_s1.toInt ≤ 19) → (0 ≤ (pI P31 a0 0).toInt ∧ (pI P31 a0 0).toInt ≤ 0) → G E ({ frames := 3, cells := 0, slots := 0, locals := 192 } : Room) D cy 4 P31 0 0 67 [(0, .ref a0), (1, .int a1), (2, .int a2), (3, .int v31_3)] [.int v67_s0, .int v67_s1, .ref a0] := by
        intro v67_s0 v67_s1 hv67_1 hv67_3 hv67_s0 hv67_s1 hq67_0
        have h21066 := X31.at ha0
        refine g_callVV (rest := []) C mv_X12_302 [.int v67_s1, .int v67_s0] (s_X12_copies I31 (by omega) (by omega)) (h21066).1 (h21066).2 rfl rfl (by decide) (Nat.le_of_ble_eq_true rfl) (by decide) dX12_mark_67 (fun Y21068 h21069 => ?_)
        obtain ⟨Iy21070, Xy21071⟩ := h21069
        have q21072 := Xy21071.keepF 0 (by decide)
        have Xz21073 : EM [0, 20, 21, 22, 23, 24, 25, 26] a0 P Y21068 := EM.tr ha0 X31 (Xy21071.mono (by decide))
        have h21074 := Xy21071.at h21066
        refine s_iinc (lv0 := [(0, .ref a0), (1, .int a1), (2, .int a2)]) (m := 1) C dX12_mark_70 3 rfl (by decide) rfl (by decide) (by omega) (fun z21075 h21076 => ?_)
        have h21076 : z21075.toInt = v31_3.toInt + 1 := h21076
        refine g_goto C 31 dX12_mark_73 (by decide) ?_
        refine g_lv (lv' := [(0, .ref a0), (1, .int a1), (2, .int a2), (3, .int z21075)]) [1, 2, 3, 0] rfl ?_
        exact ih31 Y21068 z21075 (by omega) Iy21070 Xz21073 (by omega) (by omega) (by omega)
      have J52 : ∀ (v52_s0 : Int32), (0 ≤ a1.toInt ∧ a1.toInt ≤ 3) → (0 ≤ v31_3.toInt ∧ v31_3.toInt ≤ 3) → (0 ≤ v52_s0.toInt ∧ v52_s0.toInt ≤ 19) → (0 ≤ (pI P31 a0 0).toInt ∧ (pI P31 a0 0).toInt ≤ 0) → G E ({ frames := 3, cells := 0, slots := 0, locals := 192 } : Room) D cy 4 P31 0 0 52 [(0, .ref a0), (1, .int a1), (2, .int a2), (3, .int v31_3)] [.int v52_s0, .ref a0] := by
        intro v52_s0 hv52_1 hv52_3 hv52_s0 hq52_0
        have h21077 := X31.at ha0
        refine g_iload_n C dX12_mark_52 rfl 2 rfl ?_
        refine b_if_eq C 60 dX12_mark_53 (by decide) (fun h21078 => ?_) (fun h21078 => ?_)
        · have h21078 : a2.toInt = 0 := congrArg Int32.toInt h21078
          refine g_iconst (v := 4) C dX12_mark_60 (by decide) ?_
          refine g_iload_n C dX12_mark_61 rfl 1 rfl ?_
          refine g_iconst (v := 1) C dX12_mark_62 (by decide) ?_
          refine s_iadd C dX12_mark_63 (by show -2147483648 ≤ a1.toInt + 1 ∧ a1.toInt + 1 ≤ 2147483647; omega) (fun z21079 h21080 => ?_)
          have h21080 : z21079.toInt = a1.toInt + 1 := h21080
          refine s_imul C dX12_mark_64 (by show -2147483648 ≤ 4 * z21079.toInt ∧ 4 * z21079.toInt ≤ 2147483647; omega) (fun z21081 h21082 => ?_)
          have h21082 : z21081.toInt = 4 * z21079.toInt := h21082
          refine g_iload_n C dX12_mark_65 rfl 3 rfl ?_
          refine s_iadd C dX12_mark_66 (by show -2147483648 ≤ z21081.toInt + v31_3.toInt ∧ z21081.toInt + v31_3.toInt ≤ 2147483647; omega) (fun z21083 h21084 => ?_)
          have h21084 : z21083.toInt = z21081.toInt + v31_3.toInt := h21084
          exact J67 z21083 v52_s0 (by omega) (by omega) (by omega) (by omega) (by omega)
        · have h21078 : a2.toInt ≠ 0 := ti_ne h21078
          refine g_iload_n C dX12_mark_56 rfl 3 rfl ?_
          refine g_goto C 67 dX12_mark_57 (by decide) ?_
          exact J67 v31_3 v52_s0 (by omega) (by omega) (by omega) (by omega) (by omega)
      refine g_iload_n C dX12_mark_31 rfl 3 rfl ?_
      refine g_iconst (v := 4) C dX12_mark_32 (by decide) ?_
      refine b_icmp_ge C 76 dX12_mark_33 (by decide) (fun h21085 => ?_) (fun h21085 => ?_)
      · have h21085 : 4 ≤ v31_3.toInt := h21085
        refine g_aload_n C dX12_mark_76 rfl 0 rfl ?_
        obtain ⟨b21086, e21087, h21088⟩ := I31.fld (h21065) 26 15 4 rfl
        refine g_getR C fi_X12_87 rfl e21087 (h21065).1 (h21065).2 dX12_mark_77 ?_
        refine g_iload_n C dX12_mark_80 rfl 1 rfl ?_
        refine g_iconst (v := 1) C dX12_mark_81 (by decide) ?_
        refine g_zast (j := (a1.toInt.toNat)) C h21088.1 h21088.2.1 (ix_in h21088.2.2 (by omega)) (Or.inr rfl) dX12_mark_82 ?_
        refine gqW (ks := [26]) (I31.setA e21087 h21088 (by decide) (arOk.none rfl)) (EM.setA I31 e21087 rfl (by decide)) (fun Y21089 Iy21090 Xy21091 w21092 => ?_)
        have w21092 : (pI Y21089 b21086 (a1.toInt.toNat)).toInt = 1 := w21092
        have q21093 := Xy21091.keepF 0 (by decide)
        have Xz21094 : EM [0, 20, 21, 22, 23, 24, 25, 26] a0 P Y21089 := EM.tr ha0 X31 (Xy21091.mono (by decide))
        have e21095 := Xy21091.ref h21065 (by decide) e21087
        have h21096 := Xy21091.at h21065
        have h21097 := Xy21091.ar h21088
        refine g_iconst (v := 1) C dX12_mark_83 (by decide) ?_
        exact ret _ _ _ _ _ _ dX12_mark_84 rfl (by decide) (by decide) ⟨Iy21090, Xz21094, (by decide), Or.inr (by omega)⟩
      · have h21085 : v31_3.toInt < 4 := h21085
        refine g_aload_n C dX12_mark_36 rfl 0 rfl ?_
        refine g_iload_n C dX12_mark_37 rfl 2 rfl ?_
        refine b_if_eq C 51 dX12_mark_38 (by decide) (fun h21098 => ?_) (fun h21098 => ?_)
        · have h21098 : a2.toInt = 0 := congrArg Int32.toInt h21098
          refine g_iload_n C dX12_mark_51 rfl 3 rfl ?_
          exact J52 v31_3 (by omega) (by omega) (by omega) (by omega)
        · have h21098 : a2.toInt ≠ 0 := ti_ne h21098
          refine g_iconst (v := 4) C dX12_mark_41 (by decide) ?_
          refine g_iload_n C dX12_mark_42 rfl 1 rfl ?_
          refine g_iconst (v := 1) C dX12_mark_43 (by decide) ?_
          refine s_iadd C dX12_mark_44 (by show -2147483648 ≤ a1.toInt + 1 ∧ a1.toInt + 1 ≤ 2147483647; omega) (fun z21099 h21100 => ?_)
          have h21100 : z21099.toInt = a1.toInt + 1 := h21100
          refine s_imul C dX12_mark_45 (by show -2147483648 ≤ 4 * z21099.toInt ∧ 4 * z21099.toInt ≤ 2147483647; omega) (fun z21101 h21102 => ?_)
          have h21102 : z21101.toInt = 4 * z21099.toInt := h21102
          refine g_iload_n C dX12_mark_46 rfl 3 rfl ?_
          refine s_iadd C dX12_mark_47 (by show -2147483648 ≤ z21101.toInt + v31_3.toInt ∧ z21101.toInt + v31_3.toInt ≤ 2147483647; omega) (fun z21103 h21104 => ?_)
          have h21104 : z21103.toInt = z21101.toInt + v31_3.toInt := h21104
          refine g_goto C 52 dX12_mark_48 (by decide) ?_
          exact J52 z21103 (by omega) (by omega) (by omega) (by omega)
  have J29 : ∀ (P29 : PP), (IM P29 a0) → (EM [0, 20, 21, 22, 23, 24, 25, 26] a0 P P29) → (0 ≤ a1.toInt ∧ a1.toInt ≤ 3) → (0 ≤ (pI P29 a0 0).toInt ∧ (pI P29 a0 0).toInt ≤ 0) → G E ({ frames := 3, cells := 0, slots := 0, locals := 192 } : Room) D cy 4 P29 0 0 29 [(0, .ref a0), (1, .int a1), (2, .int a2)] [] := by
    intro P29 I29 X29 hv29_1 hq29_0
    have h21105 := X29.at ha0
    refine g_iconst (v := 0) C dX12_mark_29 (by decide) ?_
    refine g_istore_n (lv' := [(3, .int 0), (0, .ref a0), (1, .int a1), (2, .int a2)]) C dX12_mark_30 rfl (by decide) rfl ?_
    refine g_lv (lv' := [(0, .ref a0), (1, .int a1), (2, .int a2), (3, .int 0)]) [1, 2, 3, 0] rfl ?_
    exact J31 _ P29 0 (Nat.lt_succ_self _) I29 X29 (by omega) (by decide) (by omega)
  have J27 : ∀ (P27 : PP), (IM P27 a0) → (EM [0, 20, 21, 22, 23, 24, 25, 26] a0 P P27) → (0 ≤ (pI P27 a0 0).toInt ∧ (pI P27 a0 0).toInt ≤ 0) → G E ({ frames := 3, cells := 0, slots := 0, locals := 192 } : Room) D cy 4 P27 0 0 27 [] [] := by
    intro P27 I27 X27 hq27_0
    have h21106 := X27.at ha0
    refine g_iconst (v := 0) C dX12_mark_27 (by decide) ?_
    exact ret _ _ _ _ _ _ dX12_mark_28 rfl (by decide) (by decide) ⟨I27, X27, (by decide), Or.inl rfl⟩
  refine g_aload_n C dX12_mark_0 rfl 0 rfl ?_
  refine g_iconst (v := 0) C dX12_mark_1 (by decide) ?_
  refine g_putI C fi_X12_1 rfl (ha0).1 (ha0).2 dX12_mark_2 ?_
  refine gqW (ks := [0]) (I.setI (rgOk.of rfl (by decide))) (EM.setI I (by decide)) (fun Y21107 Iy21108 Xy21109 w21110 => ?_)
  have w21110 : (pI Y21107 a0 0).toInt = 0 := w21110
  have Xz21111 : EM [0, 20, 21, 22, 23, 24, 25, 26] a0 P Y21107 := Xy21109.mono (by decide)
  have h21112 := Xy21109.at ha0
  refine g_iload_n C dX12_mark_5 rfl 1 rfl ?_
  refine g_iconst (v := 0) C dX12_mark_6 (by decide) ?_
  refine g_iconst (v := 3) C dX12_mark_7 (by decide) ?_
  refine g_callSI (b := 0) (ci := 0) (rest := []) C ms_X12_178 [.int a1, .int 0, .int 3] (s_X12_within Iy21108.1) rfl rfl (by decide) (Nat.le_of_ble_eq_true rfl) (by decide) dX12_mark_8 (fun r21113 Y21114 h21115 => ?_)
  obtain ⟨rfl, h21115⟩ := h21115
  obtain ⟨h21115, hi21116⟩ := h21115
  have hi21116 : r21113.toInt = 0 ∨ (0 ≤ a1.toInt ∧ a1.toInt ≤ 3) := hi21116
  have h21115 : 0 ≤ r21113.toInt ∧ r21113.toInt ≤ 1 := h21115
  refine b_if_eq C 27 dX12_mark_11 (by decide) (fun h21117 => ?_) (fun h21117 => ?_)
  · have h21117 : r21113.toInt = 0 := congrArg Int32.toInt h21117
    clear hi21116
    refine g_lv (lv' := []) [] rfl ?_
    exact J27 Y21107 Iy21108 Xz21111 (by omega)
  · have h21117 : r21113.toInt ≠ 0 := ti_ne h21117
    replace hi21116 := hi21116.resolve_left (by omega)
    refine g_iload_n C dX12_mark_14 rfl 2 rfl ?_
    refine b_if_eq C 29 dX12_mark_15 (by decide) (fun h21118 => ?_) (fun h21118 => ?_)
    · have h21118 : a2.toInt = 0 := congrArg Int32.toInt h21118
      exact J29 Y21107 Iy21108 Xz21111 (by omega) (by omega)
    · have h21118 : a2.toInt ≠ 0 := ti_ne h21118
      refine g_aload_n C dX12_mark_18 rfl 0 rfl ?_
      obtain ⟨b21119, e21120, h21121⟩ := Iy21108.fld (h21112) 26 15 4 rfl
      refine g_getR C fi_X12_87 rfl e21120 (h21112).1 (h21112).2 dX12_mark_19 ?_
      refine g_iload_n C dX12_mark_22 rfl 1 rfl ?_
      refine g_zald (j := (a1.toInt.toNat)) C h21121.1 h21121.2.1 (ix_in h21121.2.2 (by omega)) dX12_mark_23 ?_
      have u21123 := ti_rng (pI Y21107 b21119 (a1.toInt.toNat))
      refine b_if_ne C 29 dX12_mark_24 (by decide) (fun h21122 => ?_) (fun h21122 => ?_)
      · have h21122 : (pI Y21107 b21119 (a1.toInt.toNat)).toInt ≠ 0 := ti_ne h21122
        exact J29 Y21107 Iy21108 Xz21111 (by omega) (by omega)
      · have h21122 : (pI Y21107 b21119 (a1.toInt.toNat)).toInt = 0 := congrArg Int32.toInt h21122
        refine g_lv (lv' := []) [] rfl ?_
        exact J27 Y21107 Iy21108 Xz21111 (by omega)
theorem dX12_nameless_0 : decode cX12_nameless 0 = .ok (.aload_n 0, 1) := by decide +kernel
theorem dX12_nameless_1 : decode cX12_nameless 1 = .ok (.iconst 0, 1) := by decide +kernel
theorem dX12_nameless_2 : decode cX12_nameless 2 = .ok (.putfield 1, 3) := by decide +kernel
theorem dX12_nameless_5 : decode cX12_nameless 5 = .ok (.iload_n 1, 1) := by decide +kernel
theorem dX12_nameless_6 : decode cX12_nameless 6 = .ok (.invokestatic 278, 3) := by decide +kernel
theorem dX12_nameless_9 : decode cX12_nameless 9 = .ok (.ifCond .eq 41, 3) := by decide +kernel
theorem dX12_nameless_12 : decode cX12_nameless 12 = .ok (.iload_n 2, 1) := by decide +kernel
theorem dX12_nameless_13 : decode cX12_nameless 13 = .ok (.invokestatic 258, 3) := by decide +kernel
theorem dX12_nameless_16 : decode cX12_nameless 16 = .ok (.ifCond .eq 34, 3) := by decide +kernel
theorem dX12_nameless_19 : decode cX12_nameless 19 = .ok (.iload_n 3, 1) := by decide +kernel
theorem dX12_nameless_20 : decode cX12_nameless 20 = .ok (.iconst 0, 1) := by decide +kernel
theorem dX12_nameless_21 : decode cX12_nameless 21 = .ok (.ldc 195, 2) := by decide +kernel
theorem dX12_nameless_23 : decode cX12_nameless 23 = .ok (.invokestatic 178, 3) := by decide +kernel
theorem dX12_nameless_26 : decode cX12_nameless 26 = .ok (.ifCond .eq 24, 3) := by decide +kernel
theorem dX12_nameless_29 : decode cX12_nameless 29 = .ok (.aload_n 0, 1) := by decide +kernel
theorem dX12_nameless_30 : decode cX12_nameless 30 = .ok (.getfield 69, 3) := by decide +kernel
theorem dX12_nameless_33 : decode cX12_nameless 33 = .ok (.iload_n 1, 1) := by decide +kernel
theorem dX12_nameless_34 : decode cX12_nameless 34 = .ok (.iaload, 1) := by decide +kernel
theorem dX12_nameless_35 : decode cX12_nameless 35 = .ok (.bipush 40, 2) := by decide +kernel
theorem dX12_nameless_37 : decode cX12_nameless 37 = .ok (.if_icmp .eq 13, 3) := by decide +kernel
theorem dX12_nameless_40 : decode cX12_nameless 40 = .ok (.aload_n 0, 1) := by decide +kernel
theorem dX12_nameless_41 : decode cX12_nameless 41 = .ok (.iload_n 1, 1) := by decide +kernel
theorem dX12_nameless_42 : decode cX12_nameless 42 = .ok (.invokevirtual 295, 3) := by decide +kernel
theorem dX12_nameless_45 : decode cX12_nameless 45 = .ok (.bipush 6, 2) := by decide +kernel
theorem dX12_nameless_47 : decode cX12_nameless 47 = .ok (.if_icmp .ne 5, 3) := by decide +kernel
theorem dX12_nameless_50 : decode cX12_nameless 50 = .ok (.iconst (-1), 1) := by decide +kernel
theorem dX12_nameless_51 : decode cX12_nameless 51 = .ok (.ireturn, 1) := by decide +kernel
theorem dX12_nameless_52 : decode cX12_nameless 52 = .ok (.aload_n 0, 1) := by decide +kernel
theorem dX12_nameless_53 : decode cX12_nameless 53 = .ok (.iload_n 1, 1) := by decide +kernel
theorem dX12_nameless_54 : decode cX12_nameless 54 = .ok (.iconst (-1), 1) := by decide +kernel
theorem dX12_nameless_55 : decode cX12_nameless 55 = .ok (.iload_n 2, 1) := by decide +kernel
theorem dX12_nameless_56 : decode cX12_nameless 56 = .ok (.iload_n 3, 1) := by decide +kernel
theorem dX12_nameless_57 : decode cX12_nameless 57 = .ok (.iconst 3, 1) := by decide +kernel
theorem dX12_nameless_58 : decode cX12_nameless 58 = .ok (.iconst 0, 1) := by decide +kernel
theorem dX12_nameless_59 : decode cX12_nameless 59 = .ok (.invokevirtual 284, 3) := by decide +kernel
theorem dX12_nameless_62 : decode cX12_nameless 62 = .ok (.ireturn, 1) := by decide +kernel
set_option maxHeartbeats 4000000 in
set_option maxRecDepth 100000 in
theorem s_X12_nameless {P : PP} {a0 : Nat} {a1 : Int32} {a2 : Int32} {a3 : Int32} (I : IM P a0) : CtrI yX12_nameless cX12_nameless 4 (some Jvm.ClassFile.FieldType.int) ({ frames := 3, cells := 0, slots := 0, locals := 192 } : Room) 0 0 P [.ref a0, .int a1, .int a2, .int a3] (fun r P2 => IM P2 a0 ∧ EM [0, 20, 21, 22, 23, 24, 25] a0 P P2 ∧ (-1 ≤ r.toInt ∧ r.toInt ≤ 39)) := by
  refine enI (lv := [(0, .ref a0), (1, .int a1), (2, .int a2), (3, .int a3)]) (by decide) (Nat.le_of_ble_eq_true rfl) rfl (fun E D cy C Ci0 ret => ?_)
  have ha0 := I.2.1
  have J50 : ∀ (P50 : PP), (IM P50 a0) → (EM [0, 20, 21, 22, 23, 24, 25] a0 P P50) → (0 ≤ (pI P50 a0 0).toInt ∧ (pI P50 a0 0).toInt ≤ 0) → G E ({ frames := 3, cells := 0, slots := 0, locals := 192 } : Room) D cy 4 P50 0 0 50 [] [] := by
    intro P50 I50 X50 hq50_0
    have h21164 := X50.at ha0
    refine g_iconst (v := (-1)) C dX12_nameless_50 (by decide) ?_
    exact ret _ _ _ _ _ _ dX12_nameless_51 rfl (by decide) (by decide) ⟨I50, X50, (by decide)⟩
  refine g_aload_n C dX12_nameless_0 rfl 0 rfl ?_
  refine g_iconst (v := 0) C dX12_nameless_1 (by decide) ?_
  refine g_putI C fi_X12_1 rfl (ha0).1 (ha0).2 dX12_nameless_2 ?_
  refine gqW (ks := [0]) (I.setI (rgOk.of rfl (by decide))) (EM.setI I (by decide)) (fun Y21165 Iy21166 Xy21167 w21168 => ?_)
  have w21168 : (pI Y21165 a0 0).toInt = 0 := w21168
  have Xz21169 : EM [0, 20, 21, 22, 23, 24, 25] a0 P Y21165 := Xy21167.mono (by decide)
  have h21170 := Xy21167.at ha0
  refine g_iload_n C dX12_nameless_5 rfl 1 rfl ?_
  refine g_callSI (b := 0) (ci := 0) (rest := []) C ms_X12_278 [.int a1] (s_X12_isQuarter Iy21166.1) rfl rfl (by decide) (Nat.le_of_ble_eq_true rfl) (by decide) dX12_nameless_6 (fun r21171 Y21172 h21173 => ?_)
  obtain ⟨rfl, h21173⟩ := h21173
  obtain ⟨h21173, hi21174⟩ := h21173
  have hi21174 : r21171.toInt = 0 ∨ (((0 : Int) ≤ a1.toInt ∧ a1.toInt ≤ (3 : Int))) := hi21174
  have h21173 : 0 ≤ r21171.toInt ∧ r21171.toInt ≤ 1 := h21173
  refine b_if_eq C 50 dX12_nameless_9 (by decide) (fun h21175 => ?_) (fun h21175 => ?_)
  · have h21175 : r21171.toInt = 0 := congrArg Int32.toInt h21175
    clear hi21174
    refine g_lv (lv' := []) [] rfl ?_
    exact J50 Y21165 Iy21166 Xz21169 (by omega)
  · have h21175 : r21171.toInt ≠ 0 := ti_ne h21175
    replace hi21174 := hi21174.resolve_left (by omega)
    refine g_iload_n C dX12_nameless_12 rfl 2 rfl ?_
    refine g_callSI (b := 0) (ci := 0) (rest := []) C ms_X12_258 [.int a2] (s_X12_isNumber Iy21166.1) rfl rfl (by decide) (Nat.le_of_ble_eq_true rfl) (by decide) dX12_nameless_13 (fun r21176 Y21177 h21178 => ?_)
    obtain ⟨rfl, h21178⟩ := h21178
    obtain ⟨h21178, hi21179⟩ := h21178
    have hi21179 : r21176.toInt = 0 ∨ (((0 : Int) ≤ a2.toInt ∧ a2.toInt ≤ (9999 : Int))) := hi21179
    have h21178 : 0 ≤ r21176.toInt ∧ r21176.toInt ≤ 1 := h21178
    refine b_if_eq C 50 dX12_nameless_16 (by decide) (fun h21180 => ?_) (fun h21180 => ?_)
    · have h21180 : r21176.toInt = 0 := congrArg Int32.toInt h21180
      clear hi21179
      refine g_lv (lv' := []) [] rfl ?_
      exact J50 Y21165 Iy21166 Xz21169 (by omega)
    · have h21180 : r21176.toInt ≠ 0 := ti_ne h21180
      replace hi21179 := hi21179.resolve_left (by omega)
      refine g_iload_n C dX12_nameless_19 rfl 3 rfl ?_
      refine g_iconst (v := 0) C dX12_nameless_20 (by decide) ?_
      refine g_ldc (v := 65535) C kc_X12_195 dX12_nameless_21 ?_
      refine g_callSI (b := 0) (ci := 0) (rest := []) C ms_X12_178 [.int a3, .int 0, .int 65535] (s_X12_within Iy21166.1) rfl rfl (by decide) (Nat.le_of_ble_eq_true rfl) (by decide) dX12_nameless_23 (fun r21181 Y21182 h21183 => ?_)
      obtain ⟨rfl, h21183⟩ := h21183
      obtain ⟨h21183, hi21184⟩ := h21183
      have hi21184 : r21181.toInt = 0 ∨ (0 ≤ a3.toInt ∧ a3.toInt ≤ 65535) := hi21184
      have h21183 : 0 ≤ r21181.toInt ∧ r21181.toInt ≤ 1 := h21183
      refine b_if_eq C 50 dX12_nameless_26 (by decide) (fun h21185 => ?_) (fun h21185 => ?_)
      · have h21185 : r21181.toInt = 0 := congrArg Int32.toInt h21185
        clear hi21184
        refine g_lv (lv' := []) [] rfl ?_
        exact J50 Y21165 Iy21166 Xz21169 (by omega)
      · have h21185 : r21181.toInt ≠ 0 := ti_ne h21185
        replace hi21184 := hi21184.resolve_left (by omega)
        refine g_aload_n C dX12_nameless_29 rfl 0 rfl ?_
        obtain ⟨b21186, e21187, h21188⟩ := Iy21166.fld (h21170) 20 13 20 rfl
        refine g_getR C fi_X12_69 rfl e21187 (h21170).1 (h21170).2 dX12_nameless_30 ?_
        refine g_iload_n C dX12_nameless_33 rfl 1 rfl ?_
        refine g_iald (j := (a1.toInt.toNat)) C h21188.1 h21188.2.1 (ix_in h21188.2.2 (by omega)) dX12_nameless_34 ?_
        have h21189 := Iy21166.arr e21187 rfl (a1.toInt.toNat)
        refine g_bipush (v := 40) C dX12_nameless_35 (by decide) ?_
        refine b_icmp_eq C 50 dX12_nameless_37 (by decide) (fun h21190 => ?_) (fun h21190 => ?_)
        · have h21190 : (pI Y21165 b21186 (a1.toInt.toNat)).toInt = 40 := congrArg Int32.toInt h21190
          refine g_lv (lv' := []) [] rfl ?_
          exact J50 Y21165 Iy21166 Xz21169 (by omega)
        · have h21190 : (pI Y21165 b21186 (a1.toInt.toNat)).toInt ≠ 40 := ti_ne h21190
          refine g_aload_n C dX12_nameless_40 rfl 0 rfl ?_
          refine g_iload_n C dX12_nameless_41 rfl 1 rfl ?_
          refine g_callVI (rest := []) C mv_X12_295 [.int a1] (s_X12_namelessIn Iy21166 (by omega)) (h21170).1 (h21170).2 rfl rfl (by decide) (Nat.le_of_ble_eq_true rfl) (by decide) dX12_nameless_42 (fun r21191 Y21192 h21193 => ?_)
          obtain ⟨rfl, h21193⟩ := h21193
          have h21193 : True := h21193
          refine g_bipush (v := 6) C dX12_nameless_45 (by decide) ?_
          have u21195 := ti_rng r21191
          refine b_icmp_ne C 52 dX12_nameless_47 (by decide) (fun h21194 => ?_) (fun h21194 => ?_)
          · have h21194 : r21191.toInt ≠ 6 := ti_ne h21194
            refine g_aload_n C dX12_nameless_52 rfl 0 rfl ?_
            refine g_iload_n C dX12_nameless_53 rfl 1 rfl ?_
            refine g_iconst (v := (-1)) C dX12_nameless_54 (by decide) ?_
            refine g_iload_n C dX12_nameless_55 rfl 2 rfl ?_
            refine g_iload_n C dX12_nameless_56 rfl 3 rfl ?_
            refine g_iconst (v := 3) C dX12_nameless_57 (by decide) ?_
            refine g_iconst (v := 0) C dX12_nameless_58 (by decide) ?_
            refine g_callVI (rest := []) C mv_X12_284 [.int a1, .int (-1), .int a2, .int a3, .int 3, .int 0] (s_X12_lays Iy21166 (by omega) (by decide) (fun b9 e9 => by rw [e21187] at e9; cases e9; show 0 ≤ (pI Y21165 b21186 (a1.toInt.toNat)).toInt ∧ (pI Y21165 b21186 (a1.toInt.toNat)).toInt ≤ 39; omega)) (h21170).1 (h21170).2 rfl rfl (by decide) (Nat.le_of_ble_eq_true rfl) (by decide) dX12_nameless_59 (fun r21196 Y21197 h21198 => ?_)
            obtain ⟨Iy21199, Xy21200, h21198⟩ := h21198
            have q21201 := Xy21200.keepF 0 (by decide)
            have Xz21202 : EM [0, 20, 21, 22, 23, 24, 25] a0 P Y21197 := EM.tr ha0 Xz21169 (Xy21200.mono (by decide))
            have h21203 := Xy21200.at h21170
            have h21198 : 0 ≤ r21196.toInt ∧ r21196.toInt ≤ 39 := h21198
            exact ret _ _ _ _ _ _ dX12_nameless_62 rfl (by decide) (by decide) ⟨Iy21199, Xz21202, (by omega)⟩
          · have h21194 : r21191.toInt = 6 := congrArg Int32.toInt h21194
            refine g_lv (lv' := []) [] rfl ?_
            exact J50 Y21165 Iy21166 Xz21169 (by omega)
theorem dX12_needs_0 : decode cX12_needs 0 = .ok (.aload_n 0, 1) := by decide +kernel
theorem dX12_needs_1 : decode cX12_needs 1 = .ok (.iconst 0, 1) := by decide +kernel
theorem dX12_needs_2 : decode cX12_needs 2 = .ok (.putfield 1, 3) := by decide +kernel
theorem dX12_needs_5 : decode cX12_needs 5 = .ok (.iload_n 1, 1) := by decide +kernel
theorem dX12_needs_6 : decode cX12_needs 6 = .ok (.invokestatic 278, 3) := by decide +kernel
theorem dX12_needs_9 : decode cX12_needs 9 = .ok (.ifCond .eq 11, 3) := by decide +kernel
theorem dX12_needs_12 : decode cX12_needs 12 = .ok (.aload_n 0, 1) := by decide +kernel
theorem dX12_needs_13 : decode cX12_needs 13 = .ok (.iload_n 2, 1) := by decide +kernel
theorem dX12_needs_14 : decode cX12_needs 14 = .ok (.invokevirtual 192, 3) := by decide +kernel
theorem dX12_needs_17 : decode cX12_needs 17 = .ok (.ifCond .ne 5, 3) := by decide +kernel
theorem dX12_needs_22 : decode cX12_needs 22 = .ok (.aload_n 0, 1) := by decide +kernel
theorem dX12_needs_23 : decode cX12_needs 23 = .ok (.iload_n 1, 1) := by decide +kernel
theorem dX12_needs_24 : decode cX12_needs 24 = .ok (.iload_n 2, 1) := by decide +kernel
theorem dX12_needs_25 : decode cX12_needs 25 = .ok (.invokevirtual 408, 3) := by decide +kernel
theorem dX12_needsOf_0 : decode cX12_needsOf 0 = .ok (.aload_n 0, 1) := by decide +kernel
theorem dX12_needsOf_1 : decode cX12_needsOf 1 = .ok (.iload_n 2, 1) := by decide +kernel
theorem dX12_needsOf_2 : decode cX12_needsOf 2 = .ok (.invokevirtual 312, 3) := by decide +kernel
theorem dX12_needsOf_5 : decode cX12_needsOf 5 = .ok (.iconst 0, 1) := by decide +kernel
theorem dX12_needsOf_6 : decode cX12_needsOf 6 = .ok (.istore_n 3, 1) := by decide +kernel
theorem dX12_needsOf_7 : decode cX12_needsOf 7 = .ok (.iload_n 3, 1) := by decide +kernel
theorem dX12_needsOf_8 : decode cX12_needsOf 8 = .ok (.bipush 60, 2) := by decide +kernel
theorem dX12_needsOf_10 : decode cX12_needsOf 10 = .ok (.if_icmp .gt 55, 3) := by decide +kernel
theorem dX12_needsOf_13 : decode cX12_needsOf 13 = .ok (.aload_n 0, 1) := by decide +kernel
theorem dX12_needsOf_14 : decode cX12_needsOf 14 = .ok (.invokevirtual 346, 3) := by decide +kernel
theorem dX12_needsOf_17 : decode cX12_needsOf 17 = .ok (.aload_n 0, 1) := by decide +kernel
theorem dX12_needsOf_18 : decode cX12_needsOf 18 = .ok (.iload_n 2, 1) := by decide +kernel
theorem dX12_needsOf_19 : decode cX12_needsOf 19 = .ok (.aload_n 0, 1) := by decide +kernel
theorem dX12_needsOf_20 : decode cX12_needsOf 20 = .ok (.invokevirtual 349, 3) := by decide +kernel
theorem dX12_needsOf_23 : decode cX12_needsOf 23 = .ok (.invokevirtual 371, 3) := by decide +kernel
theorem dX12_needsOf_26 : decode cX12_needsOf 26 = .ok (.ifCond .eq 5, 3) := by decide +kernel
theorem dX12_needsOf_31 : decode cX12_needsOf 31 = .ok (.iload_n 3, 1) := by decide +kernel
theorem dX12_needsOf_32 : decode cX12_needsOf 32 = .ok (.bipush 60, 2) := by decide +kernel
theorem dX12_needsOf_34 : decode cX12_needsOf 34 = .ok (.if_icmp .ge 25, 3) := by decide +kernel
theorem dX12_needsOf_37 : decode cX12_needsOf 37 = .ok (.aload_n 0, 1) := by decide +kernel
theorem dX12_needsOf_38 : decode cX12_needsOf 38 = .ok (.iload_n 1, 1) := by decide +kernel
theorem dX12_needsOf_39 : decode cX12_needsOf 39 = .ok (.iload_n 2, 1) := by decide +kernel
theorem dX12_needsOf_40 : decode cX12_needsOf 40 = .ok (.iload_n 3, 1) := by decide +kernel
theorem dX12_needsOf_41 : decode cX12_needsOf 41 = .ok (.invokevirtual 402, 3) := by decide +kernel
theorem dX12_needsOf_44 : decode cX12_needsOf 44 = .ok (.ifCond .eq 15, 3) := by decide +kernel
theorem dX12_needsOf_47 : decode cX12_needsOf 47 = .ok (.aload_n 0, 1) := by decide +kernel
theorem dX12_needsOf_48 : decode cX12_needsOf 48 = .ok (.aload_n 0, 1) := by decide +kernel
theorem dX12_needsOf_49 : decode cX12_needsOf 49 = .ok (.iload_n 2, 1) := by decide +kernel
theorem dX12_needsOf_50 : decode cX12_needsOf 50 = .ok (.iload_n 3, 1) := by decide +kernel
theorem dX12_needsOf_51 : decode cX12_needsOf 51 = .ok (.invokevirtual 261, 3) := by decide +kernel
theorem dX12_page_0 : decode cX12_page 0 = .ok (.aload_n 0, 1) := by decide +kernel
theorem dX12_page_1 : decode cX12_page 1 = .ok (.iconst 0, 1) := by decide +kernel
theorem dX12_page_2 : decode cX12_page 2 = .ok (.putfield 1, 3) := by decide +kernel
theorem dX12_page_5 : decode cX12_page 5 = .ok (.aload_n 0, 1) := by decide +kernel
theorem dX12_page_6 : decode cX12_page 6 = .ok (.iload_n 1, 1) := by decide +kernel
theorem dX12_page_7 : decode cX12_page 7 = .ok (.invokevirtual 192, 3) := by decide +kernel
theorem dX12_page_10 : decode cX12_page 10 = .ok (.ifCond .eq 37, 3) := by decide +kernel
theorem dX12_page_13 : decode cX12_page 13 = .ok (.iload_n 2, 1) := by decide +kernel
theorem dX12_page_14 : decode cX12_page 14 = .ok (.iconst 0, 1) := by decide +kernel
theorem dX12_page_15 : decode cX12_page 15 = .ok (.aload_n 0, 1) := by decide +kernel
theorem dX12_page_16 : decode cX12_page 16 = .ok (.getfield 45, 3) := by decide +kernel
theorem dX12_page_19 : decode cX12_page 19 = .ok (.iload_n 1, 1) := by decide +kernel
theorem dX12_page_20 : decode cX12_page 20 = .ok (.iaload, 1) := by decide +kernel
theorem dX12_page_21 : decode cX12_page 21 = .ok (.iconst 1, 1) := by decide +kernel
theorem dX12_page_22 : decode cX12_page 22 = .ok (.isub, 1) := by decide +kernel
theorem dX12_page_23 : decode cX12_page 23 = .ok (.invokestatic 178, 3) := by decide +kernel
theorem dX12_page_26 : decode cX12_page 26 = .ok (.ifCond .eq 21, 3) := by decide +kernel
theorem dX12_page_29 : decode cX12_page 29 = .ok (.iload_n 3, 1) := by decide +kernel
theorem dX12_page_30 : decode cX12_page 30 = .ok (.iconst 0, 1) := by decide +kernel
theorem dX12_page_31 : decode cX12_page 31 = .ok (.ldc 195, 2) := by decide +kernel
theorem dX12_page_33 : decode cX12_page 33 = .ok (.invokestatic 178, 3) := by decide +kernel
theorem dX12_page_36 : decode cX12_page 36 = .ok (.ifCond .eq 11, 3) := by decide +kernel
theorem dX12_page_39 : decode cX12_page 39 = .ok (.aload_n 0, 1) := by decide +kernel
theorem dX12_page_40 : decode cX12_page 40 = .ok (.iload_n 1, 1) := by decide +kernel
theorem dX12_page_41 : decode cX12_page 41 = .ok (.invokevirtual 196, 3) := by decide +kernel
theorem dX12_page_44 : decode cX12_page 44 = .ok (.ifCond .eq 5, 3) := by decide +kernel
theorem dX12_page_47 : decode cX12_page 47 = .ok (.iconst 0, 1) := by decide +kernel
theorem dX12_page_48 : decode cX12_page 48 = .ok (.ireturn, 1) := by decide +kernel
theorem dX12_page_49 : decode cX12_page 49 = .ok (.aload_n 0, 1) := by decide +kernel
theorem dX12_page_50 : decode cX12_page 50 = .ok (.getfield 48, 3) := by decide +kernel
theorem dX12_page_53 : decode cX12_page 53 = .ok (.bipush 16, 2) := by decide +kernel
theorem dX12_page_55 : decode cX12_page 55 = .ok (.iload_n 1, 1) := by decide +kernel
theorem dX12_page_56 : decode cX12_page 56 = .ok (.imul, 1) := by decide +kernel
theorem dX12_page_57 : decode cX12_page 57 = .ok (.iload_n 2, 1) := by decide +kernel
theorem dX12_page_58 : decode cX12_page 58 = .ok (.iadd, 1) := by decide +kernel
theorem dX12_page_59 : decode cX12_page 59 = .ok (.iload_n 3, 1) := by decide +kernel
theorem dX12_page_60 : decode cX12_page 60 = .ok (.iastore, 1) := by decide +kernel
theorem dX12_page_61 : decode cX12_page 61 = .ok (.iconst 1, 1) := by decide +kernel
theorem dX12_page_62 : decode cX12_page 62 = .ok (.ireturn, 1) := by decide +kernel
set_option maxHeartbeats 4000000 in
set_option maxRecDepth 100000 in
theorem s_X12_page {P : PP} {a0 : Nat} {a1 : Int32} {a2 : Int32} {a3 : Int32} (I : IM P a0) : CtrI yX12_page cX12_page 4 (some Jvm.ClassFile.FieldType.boolean) ({ frames := 3, cells := 0, slots := 0, locals := 192 } : Room) 0 0 P [.ref a0, .int a1, .int a2, .int a3] (fun r P2 => IM P2 a0 ∧ EM [0, 11] a0 P P2 ∧ (0 ≤ r.toInt ∧ r.toInt ≤ 1) ∧ (r.toInt = 0 ∨ (((0 : Int) ≤ a1.toInt ∧ a1.toInt ≤ (1 : Int)) ∧ ((0 : Int) ≤ a2.toInt ∧ a2.toInt ≤ (15 : Int)) ∧ ((0 : Int) ≤ a3.toInt ∧ a3.toInt ≤ (65535 : Int))))) := by
  refine enI (lv := [(0, .ref a0), (1, .int a1), (2, .int a2), (3, .int a3)]) (by decide) (Nat.le_of_ble_eq_true rfl) rfl (fun E D cy C Ci0 ret => ?_)
  have ha0 := I.2.1
  have J47 : ∀ (P47 : PP), (IM P47 a0) → (EM [0, 11] a0 P P47) → (0 ≤ (pI P47 a0 0).toInt ∧ (pI P47 a0 0).toInt ≤ 0) → G E ({ frames := 3, cells := 0, slots := 0, locals := 192 } : Room) D cy 4 P47 0 0 47 [] [] := by
    intro P47 I47 X47 hq47_0
    have h21301 := X47.at ha0
    refine g_iconst (v := 0) C dX12_page_47 (by decide) ?_
    exact ret _ _ _ _ _ _ dX12_page_48 rfl (by decide) (by decide) ⟨I47, X47, (by decide), Or.inl rfl⟩
  refine g_aload_n C dX12_page_0 rfl 0 rfl ?_
  refine g_iconst (v := 0) C dX12_page_1 (by decide) ?_
  refine g_putI C fi_X12_1 rfl (ha0).1 (ha0).2 dX12_page_2 ?_
  refine gqW (ks := [0]) (I.setI (rgOk.of rfl (by decide))) (EM.setI I (by decide)) (fun Y21302 Iy21303 Xy21304 w21305 => ?_)
  have w21305 : (pI Y21302 a0 0).toInt = 0 := w21305
  have Xz21306 : EM [0, 11] a0 P Y21302 := Xy21304.mono (by decide)
  have h21307 := Xy21304.at ha0
  refine g_aload_n C dX12_page_5 rfl 0 rfl ?_
  refine g_iload_n C dX12_page_6 rfl 1 rfl ?_
  refine g_callVI (rest := []) C mv_X12_192 [.int a1] (s_X12_isBook Iy21303) (h21307).1 (h21307).2 rfl rfl (by decide) (Nat.le_of_ble_eq_true rfl) (by decide) dX12_page_7 (fun r21308 Y21309 h21310 => ?_)
  obtain ⟨rfl, h21310⟩ := h21310
  obtain ⟨h21310, hi21311⟩ := h21310
  have hi21311 : r21308.toInt = 0 ∨ (((0 : Int) ≤ a1.toInt ∧ a1.toInt ≤ (1 : Int))) := hi21311
  have h21310 : 0 ≤ r21308.toInt ∧ r21308.toInt ≤ 1 := h21310
  refine b_if_eq C 47 dX12_page_10 (by decide) (fun h21312 => ?_) (fun h21312 => ?_)
  · have h21312 : r21308.toInt = 0 := congrArg Int32.toInt h21312
    clear hi21311
    refine g_lv (lv' := []) [] rfl ?_
    exact J47 Y21302 Iy21303 Xz21306 (by omega)
  · have h21312 : r21308.toInt ≠ 0 := ti_ne h21312
    replace hi21311 := hi21311.resolve_left (by omega)
    refine g_iload_n C dX12_page_13 rfl 2 rfl ?_
    refine g_iconst (v := 0) C dX12_page_14 (by decide) ?_
    refine g_aload_n C dX12_page_15 rfl 0 rfl ?_
    obtain ⟨b21313, e21314, h21315⟩ := Iy21303.fld (h21307) 10 13 2 rfl
    refine g_getR C fi_X12_45 rfl e21314 (h21307).1 (h21307).2 dX12_page_16 ?_
    refine g_iload_n C dX12_page_19 rfl 1 rfl ?_
    refine g_iald (j := (a1.toInt.toNat)) C h21315.1 h21315.2.1 (ix_in h21315.2.2 (by omega)) dX12_page_20 ?_
    have h21316 := Iy21303.arr e21314 rfl (a1.toInt.toNat)
    refine g_iconst (v := 1) C dX12_page_21 (by decide) ?_
    refine s_isub C dX12_page_22 (by show -2147483648 ≤ (pI Y21302 b21313 (a1.toInt.toNat)).toInt - 1 ∧ (pI Y21302 b21313 (a1.toInt.toNat)).toInt - 1 ≤ 2147483647; omega) (fun z21317 h21318 => ?_)
    have h21318 : z21317.toInt = (pI Y21302 b21313 (a1.toInt.toNat)).toInt - 1 := h21318
    refine g_callSI (b := 0) (ci := 0) (rest := []) C ms_X12_178 [.int a2, .int 0, .int z21317] (s_X12_within Iy21303.1) rfl rfl (by decide) (Nat.le_of_ble_eq_true rfl) (by decide) dX12_page_23 (fun r21319 Y21320 h21321 => ?_)
    obtain ⟨rfl, h21321⟩ := h21321
    obtain ⟨h21321, hi21322⟩ := h21321
    have hi21322 : r21319.toInt = 0 ∨ (0 ≤ a2.toInt ∧ a2.toInt ≤ z21317.toInt) := hi21322
    have h21321 : 0 ≤ r21319.toInt ∧ r21319.toInt ≤ 1 := h21321
    refine b_if_eq C 47 dX12_page_26 (by decide) (fun h21323 => ?_) (fun h21323 => ?_)
    · have h21323 : r21319.toInt = 0 := congrArg Int32.toInt h21323
      clear hi21322
      refine g_lv (lv' := []) [] rfl ?_
      exact J47 Y21302 Iy21303 Xz21306 (by omega)
    · have h21323 : r21319.toInt ≠ 0 := ti_ne h21323
      replace hi21322 := hi21322.resolve_left (by omega)
      refine g_iload_n C dX12_page_29 rfl 3 rfl ?_
      refine g_iconst (v := 0) C dX12_page_30 (by decide) ?_
      refine g_ldc (v := 65535) C kc_X12_195 dX12_page_31 ?_
      refine g_callSI (b := 0) (ci := 0) (rest := []) C ms_X12_178 [.int a3, .int 0, .int 65535] (s_X12_within Iy21303.1) rfl rfl (by decide) (Nat.le_of_ble_eq_true rfl) (by decide) dX12_page_33 (fun r21324 Y21325 h21326 => ?_)
      obtain ⟨rfl, h21326⟩ := h21326
      obtain ⟨h21326, hi21327⟩ := h21326
      have hi21327 : r21324.toInt = 0 ∨ (0 ≤ a3.toInt ∧ a3.toInt ≤ 65535) := hi21327
      have h21326 : 0 ≤ r21324.toInt ∧ r21324.toInt ≤ 1 := h21326
      refine b_if_eq C 47 dX12_page_36 (by decide) (fun h21328 => ?_) (fun h21328 => ?_)
      · have h21328 : r21324.toInt = 0 := congrArg Int32.toInt h21328
        clear hi21327
        refine g_lv (lv' := []) [] rfl ?_
        exact J47 Y21302 Iy21303 Xz21306 (by omega)
      · have h21328 : r21324.toInt ≠ 0 := ti_ne h21328
        replace hi21327 := hi21327.resolve_left (by omega)
        refine g_aload_n C dX12_page_39 rfl 0 rfl ?_
        refine g_iload_n C dX12_page_40 rfl 1 rfl ?_
        refine g_callVI (rest := []) C mv_X12_196 [.int a1] (s_X12_isOut Iy21303) (h21307).1 (h21307).2 rfl rfl (by decide) (Nat.le_of_ble_eq_true rfl) (by decide) dX12_page_41 (fun r21329 Y21330 h21331 => ?_)
        obtain ⟨rfl, h21331⟩ := h21331
        have h21331 : 0 ≤ r21329.toInt ∧ r21329.toInt ≤ 1 := h21331
        refine b_if_eq C 49 dX12_page_44 (by decide) (fun h21332 => ?_) (fun h21332 => ?_)
        · have h21332 : r21329.toInt = 0 := congrArg Int32.toInt h21332
          refine g_aload_n C dX12_page_49 rfl 0 rfl ?_
          obtain ⟨b21333, e21334, h21335⟩ := Iy21303.fld (h21307) 11 13 32 rfl
          refine g_getR C fi_X12_48 rfl e21334 (h21307).1 (h21307).2 dX12_page_50 ?_
          refine g_bipush (v := 16) C dX12_page_53 (by decide) ?_
          refine g_iload_n C dX12_page_55 rfl 1 rfl ?_
          refine s_imul C dX12_page_56 (by show -2147483648 ≤ 16 * a1.toInt ∧ 16 * a1.toInt ≤ 2147483647; omega) (fun z21336 h21337 => ?_)
          have h21337 : z21336.toInt = 16 * a1.toInt := h21337
          refine g_iload_n C dX12_page_57 rfl 2 rfl ?_
          refine s_iadd C dX12_page_58 (by show -2147483648 ≤ z21336.toInt + a2.toInt ∧ z21336.toInt + a2.toInt ≤ 2147483647; omega) (fun z21338 h21339 => ?_)
          have h21339 : z21338.toInt = z21336.toInt + a2.toInt := h21339
          refine g_iload_n C dX12_page_59 rfl 3 rfl ?_
          refine g_iast (j := (z21338.toInt.toNat)) C h21335.1 h21335.2.1 (ix_in h21335.2.2 (by omega)) dX12_page_60 ?_
          refine gqW (ks := [11]) (Iy21303.setA e21334 h21335 (by decide) (arOk.none rfl)) (EM.setA Iy21303 e21334 rfl (by decide)) (fun Y21340 Iy21341 Xy21342 w21343 => ?_)
          have w21343 : (pI Y21340 b21333 (z21338.toInt.toNat)).toInt = a3.toInt := w21343
          have q21344 := Xy21342.keepF 0 (by decide)
          have q21345 := Xy21342.keepA e21314 (by decide) rfl (a1.toInt.toNat)
          have Xz21346 : EM [0, 11] a0 P Y21340 := EM.tr ha0 Xz21306 (Xy21342.mono (by decide))
          have e21347 := Xy21342.ref h21307 (by decide) e21314
          have e21348 := Xy21342.ref h21307 (by decide) e21334
          have h21349 := Xy21342.at h21307
          have h21350 := Xy21342.ar h21315
          have h21351 := Xy21342.ar h21335
          refine g_iconst (v := 1) C dX12_page_61 (by decide) ?_
          exact ret _ _ _ _ _ _ dX12_page_62 rfl (by decide) (by decide) ⟨Iy21341, Xz21346, (by decide), Or.inr (by omega)⟩
        · have h21332 : r21329.toInt ≠ 0 := ti_ne h21332
          refine g_lv (lv' := []) [] rfl ?_
          exact J47 Y21302 Iy21303 Xz21306 (by omega)
theorem dX12_paper_0 : decode cX12_paper 0 = .ok (.aload_n 0, 1) := by decide +kernel
theorem dX12_paper_1 : decode cX12_paper 1 = .ok (.aload_n 0, 1) := by decide +kernel
theorem dX12_paper_2 : decode cX12_paper 2 = .ok (.iload_n 1, 1) := by decide +kernel
theorem dX12_paper_3 : decode cX12_paper 3 = .ok (.iload_n 2, 1) := by decide +kernel
theorem dX12_paper_4 : decode cX12_paper 4 = .ok (.invokevirtual 298, 3) := by decide +kernel
theorem dX12_paper_7 : decode cX12_paper 7 = .ok (.ifCond .eq 16, 3) := by decide +kernel
theorem dX12_paper_10 : decode cX12_paper 10 = .ok (.iload_n 3, 1) := by decide +kernel
theorem dX12_paper_11 : decode cX12_paper 11 = .ok (.iconst 0, 1) := by decide +kernel
theorem dX12_paper_12 : decode cX12_paper 12 = .ok (.iconst 5, 1) := by decide +kernel
theorem dX12_paper_13 : decode cX12_paper 13 = .ok (.invokestatic 178, 3) := by decide +kernel
theorem dX12_paper_16 : decode cX12_paper 16 = .ok (.ifCond .eq 7, 3) := by decide +kernel
theorem dX12_paper_19 : decode cX12_paper 19 = .ok (.iconst 0, 1) := by decide +kernel
theorem dX12_paper_20 : decode cX12_paper 20 = .ok (.goto 4, 3) := by decide +kernel
theorem dX12_paper_23 : decode cX12_paper 23 = .ok (.iconst 1, 1) := by decide +kernel
theorem dX12_paper_24 : decode cX12_paper 24 = .ok (.putfield 1, 3) := by decide +kernel
theorem dX12_paper_27 : decode cX12_paper 27 = .ok (.aload_n 0, 1) := by decide +kernel
theorem dX12_paper_28 : decode cX12_paper 28 = .ok (.getfield 1, 3) := by decide +kernel
theorem dX12_paper_31 : decode cX12_paper 31 = .ok (.ifCond .le 5, 3) := by decide +kernel
theorem dX12_paper_36 : decode cX12_paper 36 = .ok (.bipush 40, 2) := by decide +kernel
theorem dX12_paper_38 : decode cX12_paper 38 = .ok (.iload_n 1, 1) := by decide +kernel
theorem dX12_paper_39 : decode cX12_paper 39 = .ok (.imul, 1) := by decide +kernel
theorem dX12_paper_40 : decode cX12_paper 40 = .ok (.iload_n 2, 1) := by decide +kernel
theorem dX12_paper_41 : decode cX12_paper 41 = .ok (.iadd, 1) := by decide +kernel
theorem dX12_paper_42 : decode cX12_paper 42 = .ok (.istore 4, 2) := by decide +kernel
theorem dX12_paper_44 : decode cX12_paper 44 = .ok (.iload_n 3, 1) := by decide +kernel
theorem dX12_paper_45 : decode cX12_paper 45 = .ok (.tableswitch 75 0 4 #[35, 43, 51, 59, 67], 35) := by decide +kernel
theorem dX12_paper_120 : decode cX12_paper 120 = .ok (.aload_n 0, 1) := by decide +kernel
theorem dX12_paper_121 : decode cX12_paper 121 = .ok (.getfield 75, 3) := by decide +kernel
theorem dX12_paper_124 : decode cX12_paper 124 = .ok (.iload 4, 2) := by decide +kernel
theorem dX12_paper_126 : decode cX12_paper 126 = .ok (.iaload, 1) := by decide +kernel
theorem dX12_peels_0 : decode cX12_peels 0 = .ok (.aload_n 0, 1) := by decide +kernel
theorem dX12_peels_1 : decode cX12_peels 1 = .ok (.iconst 0, 1) := by decide +kernel
theorem dX12_peels_2 : decode cX12_peels 2 = .ok (.putfield 1, 3) := by decide +kernel
theorem dX12_peels_5 : decode cX12_peels 5 = .ok (.aload_n 0, 1) := by decide +kernel
theorem dX12_peels_6 : decode cX12_peels 6 = .ok (.iload_n 1, 1) := by decide +kernel
theorem dX12_peels_7 : decode cX12_peels 7 = .ok (.iload_n 2, 1) := by decide +kernel
theorem dX12_peels_8 : decode cX12_peels 8 = .ok (.iload_n 3, 1) := by decide +kernel
theorem dX12_peels_9 : decode cX12_peels 9 = .ok (.invokevirtual 333, 3) := by decide +kernel
theorem dX12_peels_12 : decode cX12_peels 12 = .ok (.ifCond .eq 13, 3) := by decide +kernel
theorem dX12_peels_15 : decode cX12_peels 15 = .ok (.iload 4, 2) := by decide +kernel
theorem dX12_peels_17 : decode cX12_peels 17 = .ok (.iconst 0, 1) := by decide +kernel
theorem dX12_peels_18 : decode cX12_peels 18 = .ok (.iconst 3, 1) := by decide +kernel
theorem dX12_peels_19 : decode cX12_peels 19 = .ok (.invokestatic 178, 3) := by decide +kernel
theorem dX12_peels_22 : decode cX12_peels 22 = .ok (.ifCond .ne 5, 3) := by decide +kernel
theorem dX12_peels_27 : decode cX12_peels 27 = .ok (.aload_n 0, 1) := by decide +kernel
theorem dX12_peels_28 : decode cX12_peels 28 = .ok (.invokevirtual 336, 3) := by decide +kernel
theorem dX12_peels_31 : decode cX12_peels 31 = .ok (.aload_n 0, 1) := by decide +kernel
theorem dX12_peels_32 : decode cX12_peels 32 = .ok (.iload_n 1, 1) := by decide +kernel
theorem dX12_peels_33 : decode cX12_peels 33 = .ok (.iload_n 2, 1) := by decide +kernel
theorem dX12_peels_34 : decode cX12_peels 34 = .ok (.iload_n 3, 1) := by decide +kernel
theorem dX12_peels_35 : decode cX12_peels 35 = .ok (.aload_n 0, 1) := by decide +kernel
theorem dX12_peels_36 : decode cX12_peels 36 = .ok (.getfield 69, 3) := by decide +kernel
theorem dX12_peels_39 : decode cX12_peels 39 = .ok (.iload_n 1, 1) := by decide +kernel
theorem dX12_peels_40 : decode cX12_peels 40 = .ok (.iaload, 1) := by decide +kernel
theorem dX12_peels_41 : decode cX12_peels 41 = .ok (.invokevirtual 339, 3) := by decide +kernel
theorem dX12_quarter_0 : decode cX12_quarter 0 = .ok (.aload_n 0, 1) := by decide +kernel
theorem dX12_quarter_1 : decode cX12_quarter 1 = .ok (.iconst 0, 1) := by decide +kernel
theorem dX12_quarter_2 : decode cX12_quarter 2 = .ok (.putfield 1, 3) := by decide +kernel
theorem dX12_quarter_5 : decode cX12_quarter 5 = .ok (.iload_n 1, 1) := by decide +kernel
theorem dX12_quarter_6 : decode cX12_quarter 6 = .ok (.invokestatic 278, 3) := by decide +kernel
theorem dX12_quarter_9 : decode cX12_quarter 9 = .ok (.ifCond .eq 24, 3) := by decide +kernel
theorem dX12_quarter_12 : decode cX12_quarter 12 = .ok (.iload_n 2, 1) := by decide +kernel
theorem dX12_quarter_13 : decode cX12_quarter 13 = .ok (.iconst 0, 1) := by decide +kernel
theorem dX12_quarter_14 : decode cX12_quarter 14 = .ok (.bipush 100, 2) := by decide +kernel
theorem dX12_quarter_16 : decode cX12_quarter 16 = .ok (.invokestatic 178, 3) := by decide +kernel
theorem dX12_quarter_19 : decode cX12_quarter 19 = .ok (.ifCond .eq 14, 3) := by decide +kernel
theorem dX12_quarter_22 : decode cX12_quarter 22 = .ok (.iload_n 3, 1) := by decide +kernel
theorem dX12_quarter_23 : decode cX12_quarter 23 = .ok (.iconst 0, 1) := by decide +kernel
theorem dX12_quarter_24 : decode cX12_quarter 24 = .ok (.sipush 999, 3) := by decide +kernel
theorem dX12_quarter_27 : decode cX12_quarter 27 = .ok (.invokestatic 178, 3) := by decide +kernel
theorem dX12_quarter_30 : decode cX12_quarter 30 = .ok (.ifCond .ne 5, 3) := by decide +kernel
theorem dX12_quarter_33 : decode cX12_quarter 33 = .ok (.iconst 0, 1) := by decide +kernel
theorem dX12_quarter_34 : decode cX12_quarter 34 = .ok (.ireturn, 1) := by decide +kernel
theorem dX12_quarter_35 : decode cX12_quarter 35 = .ok (.aload_n 0, 1) := by decide +kernel
theorem dX12_quarter_36 : decode cX12_quarter 36 = .ok (.getfield 127, 3) := by decide +kernel
theorem dX12_quarter_39 : decode cX12_quarter 39 = .ok (.iload_n 1, 1) := by decide +kernel
theorem dX12_quarter_40 : decode cX12_quarter 40 = .ok (.iload_n 2, 1) := by decide +kernel
theorem dX12_quarter_41 : decode cX12_quarter 41 = .ok (.iastore, 1) := by decide +kernel
theorem dX12_quarter_42 : decode cX12_quarter 42 = .ok (.aload_n 0, 1) := by decide +kernel
theorem dX12_quarter_43 : decode cX12_quarter 43 = .ok (.getfield 130, 3) := by decide +kernel
theorem dX12_quarter_46 : decode cX12_quarter 46 = .ok (.iload_n 1, 1) := by decide +kernel
theorem dX12_quarter_47 : decode cX12_quarter 47 = .ok (.iload_n 3, 1) := by decide +kernel
theorem dX12_quarter_48 : decode cX12_quarter 48 = .ok (.iastore, 1) := by decide +kernel
theorem dX12_quarter_49 : decode cX12_quarter 49 = .ok (.iconst 1, 1) := by decide +kernel
theorem dX12_quarter_50 : decode cX12_quarter 50 = .ok (.ireturn, 1) := by decide +kernel
set_option maxHeartbeats 4000000 in
set_option maxRecDepth 100000 in
theorem s_X12_quarter {P : PP} {a0 : Nat} {a1 : Int32} {a2 : Int32} {a3 : Int32} (I : IM P a0) : CtrI yX12_quarter cX12_quarter 4 (some Jvm.ClassFile.FieldType.boolean) ({ frames := 3, cells := 0, slots := 0, locals := 192 } : Room) 0 0 P [.ref a0, .int a1, .int a2, .int a3] (fun r P2 => IM P2 a0 ∧ EM [0, 45, 46] a0 P P2 ∧ (0 ≤ r.toInt ∧ r.toInt ≤ 1) ∧ (r.toInt = 0 ∨ (((0 : Int) ≤ a1.toInt ∧ a1.toInt ≤ (3 : Int)) ∧ ((0 : Int) ≤ a2.toInt ∧ a2.toInt ≤ (100 : Int)) ∧ ((0 : Int) ≤ a3.toInt ∧ a3.toInt ≤ (999 : Int))))) := by
  refine enI (lv := [(0, .ref a0), (1, .int a1), (2, .int a2), (3, .int a3)]) (by decide) (Nat.le_of_ble_eq_true rfl) rfl (fun E D cy C Ci0 ret => ?_)
  have ha0 := I.2.1
  have J33 : ∀ (P33 : PP), (IM P33 a0) → (EM [0, 45, 46] a0 P P33) → (0 ≤ (pI P33 a0 0).toInt ∧ (pI P33 a0 0).toInt ≤ 0) → G E ({ frames := 3, cells := 0, slots := 0, locals := 192 } : Room) D cy 4 P33 0 0 33 [] [] := by
    intro P33 I33 X33 hq33_0
    have h21455 := X33.at ha0
    refine g_iconst (v := 0) C dX12_quarter_33 (by decide) ?_
    exact ret _ _ _ _ _ _ dX12_quarter_34 rfl (by decide) (by decide) ⟨I33, X33, (by decide), Or.inl rfl⟩
  refine g_aload_n C dX12_quarter_0 rfl 0 rfl ?_
  refine g_iconst (v := 0) C dX12_quarter_1 (by decide) ?_
  refine g_putI C fi_X12_1 rfl (ha0).1 (ha0).2 dX12_quarter_2 ?_
  refine gqW (ks := [0]) (I.setI (rgOk.of rfl (by decide))) (EM.setI I (by decide)) (fun Y21456 Iy21457 Xy21458 w21459 => ?_)
  have w21459 : (pI Y21456 a0 0).toInt = 0 := w21459
  have Xz21460 : EM [0, 45, 46] a0 P Y21456 := Xy21458.mono (by decide)
  have h21461 := Xy21458.at ha0
  refine g_iload_n C dX12_quarter_5 rfl 1 rfl ?_
  refine g_callSI (b := 0) (ci := 0) (rest := []) C ms_X12_278 [.int a1] (s_X12_isQuarter Iy21457.1) rfl rfl (by decide) (Nat.le_of_ble_eq_true rfl) (by decide) dX12_quarter_6 (fun r21462 Y21463 h21464 => ?_)
  obtain ⟨rfl, h21464⟩ := h21464
  obtain ⟨h21464, hi21465⟩ := h21464
  have hi21465 : r21462.toInt = 0 ∨ (((0 : Int) ≤ a1.toInt ∧ a1.toInt ≤ (3 : Int))) := hi21465
  have h21464 : 0 ≤ r21462.toInt ∧ r21462.toInt ≤ 1 := h21464
  refine b_if_eq C 33 dX12_quarter_9 (by decide) (fun h21466 => ?_) (fun h21466 => ?_)
  · have h21466 : r21462.toInt = 0 := congrArg Int32.toInt h21466
    clear hi21465
    refine g_lv (lv' := []) [] rfl ?_
    exact J33 Y21456 Iy21457 Xz21460 (by omega)
  · have h21466 : r21462.toInt ≠ 0 := ti_ne h21466
    replace hi21465 := hi21465.resolve_left (by omega)
    refine g_iload_n C dX12_quarter_12 rfl 2 rfl ?_
    refine g_iconst (v := 0) C dX12_quarter_13 (by decide) ?_
    refine g_bipush (v := 100) C dX12_quarter_14 (by decide) ?_
    refine g_callSI (b := 0) (ci := 0) (rest := []) C ms_X12_178 [.int a2, .int 0, .int 100] (s_X12_within Iy21457.1) rfl rfl (by decide) (Nat.le_of_ble_eq_true rfl) (by decide) dX12_quarter_16 (fun r21467 Y21468 h21469 => ?_)
    obtain ⟨rfl, h21469⟩ := h21469
    obtain ⟨h21469, hi21470⟩ := h21469
    have hi21470 : r21467.toInt = 0 ∨ (0 ≤ a2.toInt ∧ a2.toInt ≤ 100) := hi21470
    have h21469 : 0 ≤ r21467.toInt ∧ r21467.toInt ≤ 1 := h21469
    refine b_if_eq C 33 dX12_quarter_19 (by decide) (fun h21471 => ?_) (fun h21471 => ?_)
    · have h21471 : r21467.toInt = 0 := congrArg Int32.toInt h21471
      clear hi21470
      refine g_lv (lv' := []) [] rfl ?_
      exact J33 Y21456 Iy21457 Xz21460 (by omega)
    · have h21471 : r21467.toInt ≠ 0 := ti_ne h21471
      replace hi21470 := hi21470.resolve_left (by omega)
      refine g_iload_n C dX12_quarter_22 rfl 3 rfl ?_
      refine g_iconst (v := 0) C dX12_quarter_23 (by decide) ?_
      refine g_sipush (v := 999) C dX12_quarter_24 (by decide) ?_
      refine g_callSI (b := 0) (ci := 0) (rest := []) C ms_X12_178 [.int a3, .int 0, .int 999] (s_X12_within Iy21457.1) rfl rfl (by decide) (Nat.le_of_ble_eq_true rfl) (by decide) dX12_quarter_27 (fun r21472 Y21473 h21474 => ?_)
      obtain ⟨rfl, h21474⟩ := h21474
      obtain ⟨h21474, hi21475⟩ := h21474
      have hi21475 : r21472.toInt = 0 ∨ (0 ≤ a3.toInt ∧ a3.toInt ≤ 999) := hi21475
      have h21474 : 0 ≤ r21472.toInt ∧ r21472.toInt ≤ 1 := h21474
      refine b_if_ne C 35 dX12_quarter_30 (by decide) (fun h21476 => ?_) (fun h21476 => ?_)
      · have h21476 : r21472.toInt ≠ 0 := ti_ne h21476
        replace hi21475 := hi21475.resolve_left (by omega)
        refine g_aload_n C dX12_quarter_35 rfl 0 rfl ?_
        obtain ⟨b21477, e21478, h21479⟩ := Iy21457.fld (h21461) 45 13 4 rfl
        refine g_getR C fi_X12_127 rfl e21478 (h21461).1 (h21461).2 dX12_quarter_36 ?_
        refine g_iload_n C dX12_quarter_39 rfl 1 rfl ?_
        refine g_iload_n C dX12_quarter_40 rfl 2 rfl ?_
        refine g_iast (j := (a1.toInt.toNat)) C h21479.1 h21479.2.1 (ix_in h21479.2.2 (by omega)) dX12_quarter_41 ?_
        refine gqW (ks := [45]) (Iy21457.setA e21478 h21479 (by decide) (arOk.none rfl)) (EM.setA Iy21457 e21478 rfl (by decide)) (fun Y21480 Iy21481 Xy21482 w21483 => ?_)
        have w21483 : (pI Y21480 b21477 (a1.toInt.toNat)).toInt = a2.toInt := w21483
        have q21484 := Xy21482.keepF 0 (by decide)
        have Xz21485 : EM [0, 45, 46] a0 P Y21480 := EM.tr ha0 Xz21460 (Xy21482.mono (by decide))
        have e21486 := Xy21482.ref h21461 (by decide) e21478
        have h21487 := Xy21482.at h21461
        have h21488 := Xy21482.ar h21479
        refine g_aload_n C dX12_quarter_42 rfl 0 rfl ?_
        obtain ⟨b21489, e21490, h21491⟩ := Iy21481.fld (h21487) 46 13 4 rfl
        refine g_getR C fi_X12_130 rfl e21490 (h21487).1 (h21487).2 dX12_quarter_43 ?_
        refine g_iload_n C dX12_quarter_46 rfl 1 rfl ?_
        refine g_iload_n C dX12_quarter_47 rfl 3 rfl ?_
        refine g_iast (j := (a1.toInt.toNat)) C h21491.1 h21491.2.1 (ix_in h21491.2.2 (by omega)) dX12_quarter_48 ?_
        refine gqW (ks := [46]) (Iy21481.setA e21490 h21491 (by decide) (arOk.none rfl)) (EM.setA Iy21481 e21490 rfl (by decide)) (fun Y21492 Iy21493 Xy21494 w21495 => ?_)
        have w21495 : (pI Y21492 b21489 (a1.toInt.toNat)).toInt = a3.toInt := w21495
        have q21496 := Xy21494.keepF 0 (by decide)
        have q21497 := Xy21494.keepA e21486 (by decide) rfl (a1.toInt.toNat)
        have Xz21498 : EM [0, 45, 46] a0 P Y21492 := EM.tr ha0 Xz21485 (Xy21494.mono (by decide))
        have e21499 := Xy21494.ref h21487 (by decide) e21486
        have e21500 := Xy21494.ref h21487 (by decide) e21490
        have h21501 := Xy21494.at h21487
        have h21502 := Xy21494.ar h21488
        have h21503 := Xy21494.ar h21491
        refine g_iconst (v := 1) C dX12_quarter_49 (by decide) ?_
        exact ret _ _ _ _ _ _ dX12_quarter_50 rfl (by decide) (by decide) ⟨Iy21493, Xz21498, (by decide), Or.inr (by omega)⟩
      · have h21476 : r21472.toInt = 0 := congrArg Int32.toInt h21476
        clear hi21475
        refine g_lv (lv' := []) [] rfl ?_
        exact J33 Y21456 Iy21457 Xz21460 (by omega)
theorem dX12_rank_0 : decode cX12_rank 0 = .ok (.iload_n 0, 1) := by decide +kernel
theorem dX12_rank_1 : decode cX12_rank 1 = .ok (.invokestatic 136, 3) := by decide +kernel
theorem dX12_rank_4 : decode cX12_rank 4 = .ok (.ifCond .eq 10, 3) := by decide +kernel
theorem dX12_rank_7 : decode cX12_rank 7 = .ok (.iload_n 0, 1) := by decide +kernel
theorem dX12_rank_8 : decode cX12_rank 8 = .ok (.bipush 96, 2) := by decide +kernel
theorem dX12_rank_10 : decode cX12_rank 10 = .ok (.isub, 1) := by decide +kernel
theorem dX12_rank_11 : decode cX12_rank 11 = .ok (.goto 7, 3) := by decide +kernel
theorem dX12_rank_14 : decode cX12_rank 14 = .ok (.iload_n 0, 1) := by decide +kernel
theorem dX12_rank_15 : decode cX12_rank 15 = .ok (.bipush 21, 2) := by decide +kernel
theorem dX12_rank_17 : decode cX12_rank 17 = .ok (.isub, 1) := by decide +kernel
theorem dX12_rank_18 : decode cX12_rank 18 = .ok (.ireturn, 1) := by decide +kernel
set_option maxHeartbeats 4000000 in
set_option maxRecDepth 100000 in
theorem s_X12_rank {P : PP} {a0 : Int32} (I : IV P) : CtrI yX12_rank cX12_rank 1 (some Jvm.ClassFile.FieldType.int) ({ frames := 2, cells := 0, slots := 0, locals := 128 } : Room) 0 0 P [.int a0] (fun r P2 => P = P2 ∧ (True)) := by
  refine enI (lv := [(0, .int a0)]) (by decide) (Nat.le_of_ble_eq_true rfl) rfl (fun E D cy C Ci0 ret => ?_)
  refine g_iload_n C dX12_rank_0 rfl 0 rfl ?_
  refine g_callSI (b := 0) (ci := 0) (rest := []) C ms_X12_136 [.int a0] (s_X12_isLetter I) rfl rfl (by decide) (Nat.le_of_ble_eq_true rfl) (by decide) dX12_rank_1 (fun r21513 Y21514 h21515 => ?_)
  obtain ⟨rfl, h21515⟩ := h21515
  obtain ⟨h21515, hi21516⟩ := h21515
  have hi21516 : r21513.toInt = 0 ∨ (((97 : Int) ≤ a0.toInt ∧ a0.toInt ≤ (122 : Int))) := hi21516
  have h21515 : 0 ≤ r21513.toInt ∧ r21513.toInt ≤ 1 := h21515
  refine b_if_eq C 14 dX12_rank_4 (by decide) (fun h21517 => ?_) (fun h21517 => ?_)
  · have h21517 : r21513.toInt = 0 := congrArg Int32.toInt h21517
    clear hi21516
    refine g_iload_n C dX12_rank_14 rfl 0 rfl ?_
    refine g_bipush (v := 21) C dX12_rank_15 (by decide) ?_
    refine a_isub C dX12_rank_17 (fun z21518 => ?_)
    exact ret _ _ _ _ _ _ dX12_rank_18 rfl (by decide) (by decide) ⟨rfl, trivial⟩
  · have h21517 : r21513.toInt ≠ 0 := ti_ne h21517
    replace hi21516 := hi21516.resolve_left (by omega)
    refine g_iload_n C dX12_rank_7 rfl 0 rfl ?_
    refine g_bipush (v := 96) C dX12_rank_8 (by decide) ?_
    refine s_isub C dX12_rank_10 (by show -2147483648 ≤ a0.toInt - 96 ∧ a0.toInt - 96 ≤ 2147483647; omega) (fun z21520 h21521 => ?_)
    have h21521 : z21520.toInt = a0.toInt - 96 := h21521
    refine g_goto C 18 dX12_rank_11 (by decide) ?_
    exact ret _ _ _ _ _ _ dX12_rank_18 rfl (by decide) (by decide) ⟨rfl, trivial⟩
theorem dX12_read_0 : decode cX12_read 0 = .ok (.aload_n 0, 1) := by decide +kernel
theorem dX12_read_1 : decode cX12_read 1 = .ok (.iconst 0, 1) := by decide +kernel
theorem dX12_read_2 : decode cX12_read 2 = .ok (.putfield 1, 3) := by decide +kernel
theorem dX12_read_5 : decode cX12_read 5 = .ok (.iload_n 1, 1) := by decide +kernel
theorem dX12_read_6 : decode cX12_read 6 = .ok (.invokestatic 278, 3) := by decide +kernel
theorem dX12_read_9 : decode cX12_read 9 = .ok (.ifCond .eq 30, 3) := by decide +kernel
theorem dX12_read_12 : decode cX12_read 12 = .ok (.aload_n 0, 1) := by decide +kernel
theorem dX12_read_13 : decode cX12_read 13 = .ok (.iload_n 2, 1) := by decide +kernel
theorem dX12_read_14 : decode cX12_read 14 = .ok (.invokevirtual 192, 3) := by decide +kernel
theorem dX12_read_17 : decode cX12_read 17 = .ok (.ifCond .eq 22, 3) := by decide +kernel
theorem dX12_read_20 : decode cX12_read 20 = .ok (.aload_n 0, 1) := by decide +kernel
theorem dX12_read_21 : decode cX12_read 21 = .ok (.iload_n 2, 1) := by decide +kernel
theorem dX12_read_22 : decode cX12_read 22 = .ok (.iload_n 3, 1) := by decide +kernel
theorem dX12_read_23 : decode cX12_read 23 = .ok (.invokevirtual 352, 3) := by decide +kernel
theorem dX12_read_26 : decode cX12_read 26 = .ok (.ifCond .eq 13, 3) := by decide +kernel
theorem dX12_read_29 : decode cX12_read 29 = .ok (.iload 4, 2) := by decide +kernel
theorem dX12_read_31 : decode cX12_read 31 = .ok (.iconst 0, 1) := by decide +kernel
theorem dX12_read_32 : decode cX12_read 32 = .ok (.iconst 1, 1) := by decide +kernel
theorem dX12_read_33 : decode cX12_read 33 = .ok (.invokestatic 178, 3) := by decide +kernel
theorem dX12_read_36 : decode cX12_read 36 = .ok (.ifCond .ne 5, 3) := by decide +kernel
theorem dX12_read_41 : decode cX12_read 41 = .ok (.aload_n 0, 1) := by decide +kernel
theorem dX12_read_42 : decode cX12_read 42 = .ok (.invokevirtual 336, 3) := by decide +kernel
theorem dX12_read_45 : decode cX12_read 45 = .ok (.aload_n 0, 1) := by decide +kernel
theorem dX12_read_46 : decode cX12_read 46 = .ok (.iload_n 1, 1) := by decide +kernel
theorem dX12_read_47 : decode cX12_read 47 = .ok (.iload_n 2, 1) := by decide +kernel
theorem dX12_read_48 : decode cX12_read 48 = .ok (.iload_n 3, 1) := by decide +kernel
theorem dX12_read_49 : decode cX12_read 49 = .ok (.iload 4, 2) := by decide +kernel
theorem dX12_read_51 : decode cX12_read 51 = .ok (.aload_n 0, 1) := by decide +kernel
theorem dX12_read_52 : decode cX12_read 52 = .ok (.getfield 69, 3) := by decide +kernel
theorem dX12_read_55 : decode cX12_read 55 = .ok (.iload_n 1, 1) := by decide +kernel
theorem dX12_read_56 : decode cX12_read 56 = .ok (.iaload, 1) := by decide +kernel
theorem dX12_read_57 : decode cX12_read 57 = .ok (.invokevirtual 355, 3) := by decide +kernel
theorem dX12_readBy_0 : decode cX12_readBy 0 = .ok (.iconst 0, 1) := by decide +kernel
theorem dX12_readBy_1 : decode cX12_readBy 1 = .ok (.istore 6, 2) := by decide +kernel
theorem dX12_readBy_3 : decode cX12_readBy 3 = .ok (.iconst 0, 1) := by decide +kernel
theorem dX12_readBy_4 : decode cX12_readBy 4 = .ok (.istore 7, 2) := by decide +kernel
theorem dX12_readBy_6 : decode cX12_readBy 6 = .ok (.iload 7, 2) := by decide +kernel
theorem dX12_readBy_8 : decode cX12_readBy 8 = .ok (.iconst 2, 1) := by decide +kernel
theorem dX12_readBy_9 : decode cX12_readBy 9 = .ok (.if_icmp .ge 105, 3) := by decide +kernel
theorem dX12_readBy_12 : decode cX12_readBy 12 = .ok (.aload_n 0, 1) := by decide +kernel
theorem dX12_readBy_13 : decode cX12_readBy 13 = .ok (.iload_n 1, 1) := by decide +kernel
theorem dX12_readBy_14 : decode cX12_readBy 14 = .ok (.iload_n 2, 1) := by decide +kernel
theorem dX12_readBy_15 : decode cX12_readBy 15 = .ok (.iload 7, 2) := by decide +kernel
theorem dX12_readBy_17 : decode cX12_readBy 17 = .ok (.iload 5, 2) := by decide +kernel
theorem dX12_readBy_19 : decode cX12_readBy 19 = .ok (.invokevirtual 339, 3) := by decide +kernel
theorem dX12_readLine_0 : decode cX12_readLine 0 = .ok (.aload_n 0, 1) := by decide +kernel
theorem dX12_readLine_1 : decode cX12_readLine 1 = .ok (.iconst 1, 1) := by decide +kernel
theorem dX12_readLine_2 : decode cX12_readLine 2 = .ok (.invokevirtual 172, 3) := by decide +kernel
theorem dX12_readLine_5 : decode cX12_readLine 5 = .ok (.ifCond .eq 12, 3) := by decide +kernel
theorem dX12_readLine_8 : decode cX12_readLine 8 = .ok (.aload_n 0, 1) := by decide +kernel
theorem dX12_readLine_9 : decode cX12_readLine 9 = .ok (.getfield 54, 3) := by decide +kernel
theorem dX12_readLine_12 : decode cX12_readLine 12 = .ok (.iconst 2, 1) := by decide +kernel
theorem dX12_readLine_13 : decode cX12_readLine 13 = .ok (.iaload, 1) := by decide +kernel
theorem dX12_readLine_14 : decode cX12_readLine 14 = .ok (.ifCond .gt 20, 3) := by decide +kernel
theorem dX12_readLine_17 : decode cX12_readLine 17 = .ok (.aload_n 0, 1) := by decide +kernel
theorem dX12_readLine_18 : decode cX12_readLine 18 = .ok (.iconst 3, 1) := by decide +kernel
theorem dX12_readLine_19 : decode cX12_readLine 19 = .ok (.invokevirtual 172, 3) := by decide +kernel
theorem dX12_readLine_22 : decode cX12_readLine 22 = .ok (.ifCond .eq 16, 3) := by decide +kernel
theorem dX12_readLine_25 : decode cX12_readLine 25 = .ok (.aload_n 0, 1) := by decide +kernel
theorem dX12_readLine_26 : decode cX12_readLine 26 = .ok (.getfield 66, 3) := by decide +kernel
theorem dX12_readLine_29 : decode cX12_readLine 29 = .ok (.iconst 2, 1) := by decide +kernel
theorem dX12_readLine_30 : decode cX12_readLine 30 = .ok (.iaload, 1) := by decide +kernel
theorem dX12_readLine_31 : decode cX12_readLine 31 = .ok (.ifCond .le 7, 3) := by decide +kernel
theorem dX12_readLine_34 : decode cX12_readLine 34 = .ok (.iconst 1, 1) := by decide +kernel
theorem dX12_readLine_35 : decode cX12_readLine 35 = .ok (.goto 4, 3) := by decide +kernel
theorem dX12_readLine_38 : decode cX12_readLine 38 = .ok (.iconst 0, 1) := by decide +kernel
theorem dX12_readLine_39 : decode cX12_readLine 39 = .ok (.istore_n 1, 1) := by decide +kernel
theorem dX12_readLine_40 : decode cX12_readLine 40 = .ok (.aload_n 0, 1) := by decide +kernel
theorem dX12_readLine_41 : decode cX12_readLine 41 = .ok (.iconst 0, 1) := by decide +kernel
theorem dX12_readLine_42 : decode cX12_readLine 42 = .ok (.invokevirtual 172, 3) := by decide +kernel
theorem dX12_readLine_45 : decode cX12_readLine 45 = .ok (.ifCond .ne 35, 3) := by decide +kernel
theorem dX12_readLine_48 : decode cX12_readLine 48 = .ok (.aload_n 0, 1) := by decide +kernel
theorem dX12_readLine_49 : decode cX12_readLine 49 = .ok (.iconst 1, 1) := by decide +kernel
theorem dX12_readLine_50 : decode cX12_readLine 50 = .ok (.invokevirtual 172, 3) := by decide +kernel
theorem dX12_readLine_53 : decode cX12_readLine 53 = .ok (.ifCond .ne 27, 3) := by decide +kernel
theorem dX12_readLine_56 : decode cX12_readLine 56 = .ok (.aload_n 0, 1) := by decide +kernel
theorem dX12_readLine_57 : decode cX12_readLine 57 = .ok (.iconst 2, 1) := by decide +kernel
theorem dX12_readLine_58 : decode cX12_readLine 58 = .ok (.invokevirtual 172, 3) := by decide +kernel
theorem dX12_readLine_61 : decode cX12_readLine 61 = .ok (.ifCond .ne 19, 3) := by decide +kernel
theorem dX12_readLine_64 : decode cX12_readLine 64 = .ok (.aload_n 0, 1) := by decide +kernel
theorem dX12_readLine_65 : decode cX12_readLine 65 = .ok (.iconst 3, 1) := by decide +kernel
theorem dX12_readLine_66 : decode cX12_readLine 66 = .ok (.invokevirtual 172, 3) := by decide +kernel
theorem dX12_readLine_69 : decode cX12_readLine 69 = .ok (.ifCond .ne 11, 3) := by decide +kernel
theorem dX12_readLine_72 : decode cX12_readLine 72 = .ok (.aload_n 0, 1) := by decide +kernel
theorem dX12_readLine_73 : decode cX12_readLine 73 = .ok (.iconst 1, 1) := by decide +kernel
theorem dX12_readLine_74 : decode cX12_readLine 74 = .ok (.invokevirtual 168, 3) := by decide +kernel
theorem dX12_wrong_0 : decode cX12_wrong 0 = .ok (.aload_n 0, 1) := by decide +kernel
theorem dX12_wrong_1 : decode cX12_wrong 1 = .ok (.getfield 162, 3) := by decide +kernel
theorem dX12_wrong_4 : decode cX12_wrong 4 = .ok (.ifCond .ne 21, 3) := by decide +kernel
theorem dX12_wrong_7 : decode cX12_wrong 7 = .ok (.aload_n 0, 1) := by decide +kernel
theorem dX12_wrong_8 : decode cX12_wrong 8 = .ok (.iload_n 1, 1) := by decide +kernel
theorem dX12_wrong_9 : decode cX12_wrong 9 = .ok (.bipush 16, 2) := by decide +kernel
theorem dX12_wrong_11 : decode cX12_wrong 11 = .ok (.aload_n 0, 1) := by decide +kernel
theorem dX12_wrong_12 : decode cX12_wrong 12 = .ok (.getfield 27, 3) := by decide +kernel
theorem dX12_wrong_15 : decode cX12_wrong 15 = .ok (.aload_n 0, 1) := by decide +kernel
theorem dX12_wrong_16 : decode cX12_wrong 16 = .ok (.getfield 159, 3) := by decide +kernel
theorem dX12_wrong_19 : decode cX12_wrong 19 = .ok (.iaload, 1) := by decide +kernel
theorem dX12_wrong_20 : decode cX12_wrong 20 = .ok (.imul, 1) := by decide +kernel
theorem dX12_wrong_21 : decode cX12_wrong 21 = .ok (.iadd, 1) := by decide +kernel
theorem dX12_wrong_22 : decode cX12_wrong 22 = .ok (.putfield 162, 3) := by decide +kernel
theorem dX12_wrong_25 : decode cX12_wrong 25 = .ok (.return_, 1) := by decide +kernel
set_option maxHeartbeats 4000000 in
set_option maxRecDepth 100000 in
theorem s_X12_wrong {P : PP} {a0 : Nat} {a1 : Int32} (I : IM P a0) (ha1 : 1 ≤ a1.toInt ∧ a1.toInt ≤ 5) : CtrV yX12_wrong cX12_wrong 2 none ({ frames := 1, cells := 0, slots := 0, locals := 64 } : Room) 0 0 P [.ref a0, .int a1] (fun P2 => IM P2 a0 ∧ EM [8] a0 P P2) := by
  refine enV (lv := [(0, .ref a0), (1, .int a1)]) (by decide) (Nat.le_of_ble_eq_true rfl) rfl (fun E D cy C Ci0 ret => ?_)
  have ha0 := I.2.1
  refine g_aload_n C dX12_wrong_0 rfl 0 rfl ?_
  refine g_getI C fi_X12_162 (by decide) (ha0).1 (ha0).2 dX12_wrong_1 ?_
  have h21613 := I.rg (ha0) 8 rfl
  refine b_if_ne C 25 dX12_wrong_4 (by decide) (fun h21614 => ?_) (fun h21614 => ?_)
  · have h21614 : (pI P a0 8).toInt ≠ 0 := ti_ne h21614
    exact ret _ _ _ _ _ dX12_wrong_25 (by decide) (by decide) ⟨I, EM.rf⟩
  · have h21614 : (pI P a0 8).toInt = 0 := congrArg Int32.toInt h21614
    refine g_aload_n C dX12_wrong_7 rfl 0 rfl ?_
    refine g_iload_n C dX12_wrong_8 rfl 1 rfl ?_
    refine g_bipush (v := 16) C dX12_wrong_9 (by decide) ?_
    refine g_aload_n C dX12_wrong_11 rfl 0 rfl ?_
    obtain ⟨b21615, e21616, h21617⟩ := I.fld (ha0) 5 13 1002 rfl
    refine g_getR C fi_X12_27 rfl e21616 (ha0).1 (ha0).2 dX12_wrong_12 ?_
    refine g_aload_n C dX12_wrong_15 rfl 0 rfl ?_
    refine g_getI C fi_X12_159 (by decide) (ha0).1 (ha0).2 dX12_wrong_16 ?_
    have h21618 := I.rg (ha0) 7 rfl
    refine g_iald (j := ((pI P a0 7).toInt.toNat)) C h21617.1 h21617.2.1 (ix_in h21617.2.2 (by omega)) dX12_wrong_19 ?_
    have h21619 := I.arr e21616 rfl ((pI P a0 7).toInt.toNat)
    refine s_imul C dX12_wrong_20 (by show -2147483648 ≤ 16 * (pI P b21615 ((pI P a0 7).toInt.toNat)).toInt ∧ 16 * (pI P b21615 ((pI P a0 7).toInt.toNat)).toInt ≤ 2147483647; omega) (fun z21620 h21621 => ?_)
    have h21621 : z21620.toInt = 16 * (pI P b21615 ((pI P a0 7).toInt.toNat)).toInt := h21621
    refine s_iadd C dX12_wrong_21 (by show -2147483648 ≤ a1.toInt + z21620.toInt ∧ a1.toInt + z21620.toInt ≤ 2147483647; omega) (fun z21622 h21623 => ?_)
    have h21623 : z21622.toInt = a1.toInt + z21620.toInt := h21623
    refine g_putI C fi_X12_162 rfl (ha0).1 (ha0).2 dX12_wrong_22 ?_
    refine gqW (ks := [8]) (I.setI (rgOk.of rfl (by omega))) (EM.setI I (by decide)) (fun Y21624 Iy21625 Xy21626 w21627 => ?_)
    have w21627 : (pI Y21624 a0 8).toInt = z21622.toInt := w21627
    have q21628 := Xy21626.keepF 7 (by decide)
    have Xz21629 : EM [8] a0 P Y21624 := Xy21626.mono (by decide)
    have h21630 := Xy21626.at ha0
    exact ret _ _ _ _ _ dX12_wrong_25 (by decide) (by decide) ⟨Iy21625, Xz21629⟩
theorem dX12_readLine_77 : decode cX12_readLine 77 = .ok (.goto 38, 3) := by decide +kernel
theorem dX12_readLine_80 : decode cX12_readLine 80 = .ok (.iload_n 1, 1) := by decide +kernel
theorem dX12_readLine_81 : decode cX12_readLine 81 = .ok (.ifCond .eq 11, 3) := by decide +kernel
theorem dX12_readLine_84 : decode cX12_readLine 84 = .ok (.aload_n 0, 1) := by decide +kernel
theorem dX12_readLine_85 : decode cX12_readLine 85 = .ok (.iconst 3, 1) := by decide +kernel
theorem dX12_readLine_86 : decode cX12_readLine 86 = .ok (.invokevirtual 168, 3) := by decide +kernel
theorem dX12_readLine_89 : decode cX12_readLine 89 = .ok (.goto 26, 3) := by decide +kernel
theorem dX12_readLine_92 : decode cX12_readLine 92 = .ok (.aload_n 0, 1) := by decide +kernel
theorem dX12_readLine_93 : decode cX12_readLine 93 = .ok (.iconst 2, 1) := by decide +kernel
theorem dX12_readLine_94 : decode cX12_readLine 94 = .ok (.invokevirtual 172, 3) := by decide +kernel
theorem dX12_readLine_97 : decode cX12_readLine 97 = .ok (.ifCond .eq 18, 3) := by decide +kernel
theorem dX12_readLine_100 : decode cX12_readLine 100 = .ok (.aload_n 0, 1) := by decide +kernel
theorem dX12_readLine_101 : decode cX12_readLine 101 = .ok (.getfield 60, 3) := by decide +kernel
theorem dX12_readLine_104 : decode cX12_readLine 104 = .ok (.iconst 2, 1) := by decide +kernel
theorem dX12_readLine_105 : decode cX12_readLine 105 = .ok (.iaload, 1) := by decide +kernel
theorem dX12_readLine_106 : decode cX12_readLine 106 = .ok (.iconst 4, 1) := by decide +kernel
theorem dX12_readLine_107 : decode cX12_readLine 107 = .ok (.if_icmp .ne 8, 3) := by decide +kernel
theorem dX12_readLine_110 : decode cX12_readLine 110 = .ok (.aload_n 0, 1) := by decide +kernel
theorem dX12_readLine_111 : decode cX12_readLine 111 = .ok (.iconst 5, 1) := by decide +kernel
theorem dX12_readLine_112 : decode cX12_readLine 112 = .ok (.invokevirtual 168, 3) := by decide +kernel
theorem dX12_readLine_115 : decode cX12_readLine 115 = .ok (.aload_n 0, 1) := by decide +kernel
theorem dX12_readLine_116 : decode cX12_readLine 116 = .ok (.getfield 162, 3) := by decide +kernel
theorem dX12_readLine_119 : decode cX12_readLine 119 = .ok (.ifCond .le 4, 3) := by decide +kernel
theorem dX12_readLine_123 : decode cX12_readLine 123 = .ok (.aload_n 0, 1) := by decide +kernel
theorem dX12_readLine_124 : decode cX12_readLine 124 = .ok (.iconst 0, 1) := by decide +kernel
theorem dX12_readLine_125 : decode cX12_readLine 125 = .ok (.invokevirtual 175, 3) := by decide +kernel
theorem dX12_readOdds_0 : decode cX12_readOdds 0 = .ok (.aload_n 0, 1) := by decide +kernel
theorem dX12_readOdds_1 : decode cX12_readOdds 1 = .ok (.getfield 24, 3) := by decide +kernel
theorem dX12_readOdds_4 : decode cX12_readOdds 4 = .ok (.aload_n 0, 1) := by decide +kernel
theorem dX12_readOdds_5 : decode cX12_readOdds 5 = .ok (.getfield 159, 3) := by decide +kernel
theorem dX12_readOdds_8 : decode cX12_readOdds 8 = .ok (.iaload, 1) := by decide +kernel
theorem dX12_readOdds_9 : decode cX12_readOdds 9 = .ok (.iconst 2, 1) := by decide +kernel
theorem dX12_readOdds_10 : decode cX12_readOdds 10 = .ok (.if_icmp .ne 59, 3) := by decide +kernel
theorem dX12_readOdds_13 : decode cX12_readOdds 13 = .ok (.aload_n 0, 1) := by decide +kernel
theorem dX12_readOdds_14 : decode cX12_readOdds 14 = .ok (.getfield 30, 3) := by decide +kernel
theorem dX12_readOdds_17 : decode cX12_readOdds 17 = .ok (.aload_n 0, 1) := by decide +kernel
theorem dX12_readOdds_18 : decode cX12_readOdds 18 = .ok (.getfield 159, 3) := by decide +kernel
theorem dX12_readOdds_21 : decode cX12_readOdds 21 = .ok (.laload, 1) := by decide +kernel
theorem dX12_readOdds_22 : decode cX12_readOdds 22 = .ok (.lconst 1, 1) := by decide +kernel
theorem dX12_readOdds_23 : decode cX12_readOdds 23 = .ok (.lcmp, 1) := by decide +kernel
theorem dX12_readOdds_24 : decode cX12_readOdds 24 = .ok (.ifCond .lt 45, 3) := by decide +kernel
theorem dX12_readOdds_27 : decode cX12_readOdds 27 = .ok (.aload_n 0, 1) := by decide +kernel
theorem dX12_readOdds_28 : decode cX12_readOdds 28 = .ok (.getfield 30, 3) := by decide +kernel
theorem dX12_readOdds_31 : decode cX12_readOdds 31 = .ok (.aload_n 0, 1) := by decide +kernel
theorem dX12_readOdds_32 : decode cX12_readOdds 32 = .ok (.getfield 159, 3) := by decide +kernel
theorem dX12_readOdds_35 : decode cX12_readOdds 35 = .ok (.laload, 1) := by decide +kernel
theorem dX12_readOdds_36 : decode cX12_readOdds 36 = .ok (.ldc2_w 221, 3) := by decide +kernel
theorem dX12_readOdds_39 : decode cX12_readOdds 39 = .ok (.lcmp, 1) := by decide +kernel
theorem dX12_readOdds_40 : decode cX12_readOdds 40 = .ok (.ifCond .gt 29, 3) := by decide +kernel
theorem dX12_readOdds_43 : decode cX12_readOdds 43 = .ok (.aload_n 0, 1) := by decide +kernel
theorem dX12_readOdds_44 : decode cX12_readOdds 44 = .ok (.getfield 51, 3) := by decide +kernel
theorem dX12_readOdds_47 : decode cX12_readOdds 47 = .ok (.bipush 42, 2) := by decide +kernel
theorem dX12_readOdds_49 : decode cX12_readOdds 49 = .ok (.aload_n 0, 1) := by decide +kernel
theorem dX12_readOdds_50 : decode cX12_readOdds 50 = .ok (.getfield 30, 3) := by decide +kernel
theorem dX12_readOdds_53 : decode cX12_readOdds 53 = .ok (.aload_n 0, 1) := by decide +kernel
theorem dX12_readOdds_54 : decode cX12_readOdds 54 = .ok (.getfield 159, 3) := by decide +kernel
theorem dX12_readOdds_57 : decode cX12_readOdds 57 = .ok (.laload, 1) := by decide +kernel
theorem dX12_readOdds_58 : decode cX12_readOdds 58 = .ok (.l2i, 1) := by decide +kernel
theorem dX12_readOdds_59 : decode cX12_readOdds 59 = .ok (.iadd, 1) := by decide +kernel
theorem dX12_readOdds_60 : decode cX12_readOdds 60 = .ok (.iaload, 1) := by decide +kernel
theorem dX12_readSum_0 : decode cX12_readSum 0 = .ok (.iconst 0, 1) := by decide +kernel
theorem dX12_readSum_1 : decode cX12_readSum 1 = .ok (.istore_n 1, 1) := by decide +kernel
theorem dX12_readSum_2 : decode cX12_readSum 2 = .ok (.iconst 0, 1) := by decide +kernel
theorem dX12_readSum_3 : decode cX12_readSum 3 = .ok (.istore_n 2, 1) := by decide +kernel
theorem dX12_readSum_4 : decode cX12_readSum 4 = .ok (.aload_n 0, 1) := by decide +kernel
theorem dX12_readSum_5 : decode cX12_readSum 5 = .ok (.getfield 162, 3) := by decide +kernel
theorem dX12_readSum_8 : decode cX12_readSum 8 = .ok (.ifCond .ne 97, 3) := by decide +kernel
theorem dX12_readSum_11 : decode cX12_readSum 11 = .ok (.iload_n 2, 1) := by decide +kernel
theorem dX12_readSum_12 : decode cX12_readSum 12 = .ok (.iconst 2, 1) := by decide +kernel
theorem dX12_readSum_13 : decode cX12_readSum 13 = .ok (.if_icmp .lt 16, 3) := by decide +kernel
theorem dX12_readSum_105 : decode cX12_readSum 105 = .ok (.aload_n 0, 1) := by decide +kernel
theorem dX12_readSum_106 : decode cX12_readSum 106 = .ok (.getfield 63, 3) := by decide +kernel
theorem dX12_readSum_109 : decode cX12_readSum 109 = .ok (.bipush 8, 2) := by decide +kernel
theorem dX12_readSum_111 : decode cX12_readSum 111 = .ok (.aload_n 0, 1) := by decide +kernel
theorem dX12_readSum_112 : decode cX12_readSum 112 = .ok (.getfield 60, 3) := by decide +kernel
theorem dX12_readSum_115 : decode cX12_readSum 115 = .ok (.iconst 2, 1) := by decide +kernel
theorem dX12_readSum_116 : decode cX12_readSum 116 = .ok (.iaload, 1) := by decide +kernel
theorem dX12_readSum_117 : decode cX12_readSum 117 = .ok (.iadd, 1) := by decide +kernel
theorem dX12_readSum_118 : decode cX12_readSum 118 = .ok (.iload_n 1, 1) := by decide +kernel
theorem dX12_readSum_119 : decode cX12_readSum 119 = .ok (.iastore, 1) := by decide +kernel
theorem dX12_right_0 : decode cX12_right 0 = .ok (.aload_n 0, 1) := by decide +kernel
theorem dX12_right_1 : decode cX12_right 1 = .ok (.iconst 0, 1) := by decide +kernel
theorem dX12_right_2 : decode cX12_right 2 = .ok (.putfield 1, 3) := by decide +kernel
theorem dX12_right_5 : decode cX12_right 5 = .ok (.aload_n 0, 1) := by decide +kernel
theorem dX12_right_6 : decode cX12_right 6 = .ok (.iload_n 1, 1) := by decide +kernel
theorem dX12_right_7 : decode cX12_right 7 = .ok (.iload_n 2, 1) := by decide +kernel
theorem dX12_right_8 : decode cX12_right 8 = .ok (.iload_n 3, 1) := by decide +kernel
theorem dX12_right_9 : decode cX12_right 9 = .ok (.invokevirtual 333, 3) := by decide +kernel
theorem dX12_right_12 : decode cX12_right 12 = .ok (.ifCond .eq 23, 3) := by decide +kernel
theorem dX12_right_15 : decode cX12_right 15 = .ok (.aload_n 0, 1) := by decide +kernel
theorem dX12_right_16 : decode cX12_right 16 = .ok (.iload_n 2, 1) := by decide +kernel
theorem dX12_right_17 : decode cX12_right 17 = .ok (.iload 4, 2) := by decide +kernel
theorem dX12_right_19 : decode cX12_right 19 = .ok (.invokevirtual 352, 3) := by decide +kernel
theorem dX12_right_22 : decode cX12_right 22 = .ok (.ifCond .eq 13, 3) := by decide +kernel
theorem dX12_right_25 : decode cX12_right 25 = .ok (.aload_n 0, 1) := by decide +kernel
theorem dX12_right_26 : decode cX12_right 26 = .ok (.iload_n 1, 1) := by decide +kernel
theorem dX12_right_27 : decode cX12_right 27 = .ok (.iload_n 2, 1) := by decide +kernel
theorem dX12_right_28 : decode cX12_right 28 = .ok (.iload_n 3, 1) := by decide +kernel
theorem dX12_right_29 : decode cX12_right 29 = .ok (.invokevirtual 364, 3) := by decide +kernel
theorem dX12_scatter_0 : decode cX12_scatter 0 = .ok (.aload_n 0, 1) := by decide +kernel
theorem dX12_scatter_1 : decode cX12_scatter 1 = .ok (.iconst 0, 1) := by decide +kernel
theorem dX12_scatter_2 : decode cX12_scatter 2 = .ok (.putfield 1, 3) := by decide +kernel
theorem dX12_scatter_5 : decode cX12_scatter 5 = .ok (.aload_n 0, 1) := by decide +kernel
theorem dX12_scatter_6 : decode cX12_scatter 6 = .ok (.iload_n 1, 1) := by decide +kernel
theorem dX12_scatter_7 : decode cX12_scatter 7 = .ok (.invokevirtual 192, 3) := by decide +kernel
theorem dX12_scatter_10 : decode cX12_scatter 10 = .ok (.ifCond .eq 30, 3) := by decide +kernel
theorem dX12_scatter_13 : decode cX12_scatter 13 = .ok (.iload_n 2, 1) := by decide +kernel
theorem dX12_scatter_14 : decode cX12_scatter 14 = .ok (.invokestatic 258, 3) := by decide +kernel
theorem dX12_scatter_17 : decode cX12_scatter 17 = .ok (.ifCond .eq 23, 3) := by decide +kernel
theorem dX12_scatter_20 : decode cX12_scatter 20 = .ok (.iload_n 3, 1) := by decide +kernel
theorem dX12_scatter_21 : decode cX12_scatter 21 = .ok (.invokestatic 258, 3) := by decide +kernel
theorem dX12_scatter_24 : decode cX12_scatter 24 = .ok (.ifCond .eq 16, 3) := by decide +kernel
theorem dX12_scatter_27 : decode cX12_scatter 27 = .ok (.iload_n 3, 1) := by decide +kernel
theorem dX12_scatter_28 : decode cX12_scatter 28 = .ok (.iload_n 2, 1) := by decide +kernel
theorem dX12_scatter_29 : decode cX12_scatter 29 = .ok (.if_icmp .lt 11, 3) := by decide +kernel
theorem dX12_scatter_32 : decode cX12_scatter 32 = .ok (.iload_n 3, 1) := by decide +kernel
theorem dX12_scatter_33 : decode cX12_scatter 33 = .ok (.iload_n 2, 1) := by decide +kernel
theorem dX12_scatter_34 : decode cX12_scatter 34 = .ok (.isub, 1) := by decide +kernel
theorem dX12_scatter_35 : decode cX12_scatter 35 = .ok (.bipush 99, 2) := by decide +kernel
theorem dX12_scatter_37 : decode cX12_scatter 37 = .ok (.if_icmp .le 5, 3) := by decide +kernel
theorem dX12_scatter_40 : decode cX12_scatter 40 = .ok (.iconst (-1), 1) := by decide +kernel
theorem dX12_scatter_41 : decode cX12_scatter 41 = .ok (.ireturn, 1) := by decide +kernel
theorem dX12_scatter_42 : decode cX12_scatter 42 = .ok (.iconst 0, 1) := by decide +kernel
theorem dX12_scatter_43 : decode cX12_scatter 43 = .ok (.istore 4, 2) := by decide +kernel
theorem dX12_scatter_45 : decode cX12_scatter 45 = .ok (.iload_n 2, 1) := by decide +kernel
theorem dX12_scatter_46 : decode cX12_scatter 46 = .ok (.istore 5, 2) := by decide +kernel
theorem dX12_scatter_48 : decode cX12_scatter 48 = .ok (.iload 5, 2) := by decide +kernel
theorem dX12_scatter_50 : decode cX12_scatter 50 = .ok (.iload_n 3, 1) := by decide +kernel
theorem dX12_scatter_51 : decode cX12_scatter 51 = .ok (.if_icmp .gt 119, 3) := by decide +kernel
theorem dX12_scatter_54 : decode cX12_scatter 54 = .ok (.aload_n 0, 1) := by decide +kernel
theorem dX12_scatter_55 : decode cX12_scatter 55 = .ok (.iload_n 1, 1) := by decide +kernel
theorem dX12_scatter_56 : decode cX12_scatter 56 = .ok (.aload_n 0, 1) := by decide +kernel
theorem dX12_scatter_57 : decode cX12_scatter 57 = .ok (.iload_n 1, 1) := by decide +kernel
theorem dX12_scatter_58 : decode cX12_scatter 58 = .ok (.iload 5, 2) := by decide +kernel
theorem dX12_scatter_60 : decode cX12_scatter 60 = .ok (.invokevirtual 261, 3) := by decide +kernel
theorem dX12_scatter_170 : decode cX12_scatter 170 = .ok (.iload 4, 2) := by decide +kernel
theorem dX12_scatter_172 : decode cX12_scatter 172 = .ok (.ireturn, 1) := by decide +kernel
theorem dX12_slip_0 : decode cX12_slip 0 = .ok (.aload_n 0, 1) := by decide +kernel
theorem dX12_slip_1 : decode cX12_slip 1 = .ok (.iconst 0, 1) := by decide +kernel
theorem dX12_slip_2 : decode cX12_slip 2 = .ok (.putfield 1, 3) := by decide +kernel
theorem dX12_slip_5 : decode cX12_slip 5 = .ok (.iload_n 1, 1) := by decide +kernel
theorem dX12_slip_6 : decode cX12_slip 6 = .ok (.invokestatic 278, 3) := by decide +kernel
theorem dX12_slip_9 : decode cX12_slip 9 = .ok (.ifCond .eq 40, 3) := by decide +kernel
theorem dX12_slip_12 : decode cX12_slip 12 = .ok (.aload_n 0, 1) := by decide +kernel
theorem dX12_slip_13 : decode cX12_slip 13 = .ok (.iload_n 2, 1) := by decide +kernel
theorem dX12_slip_14 : decode cX12_slip 14 = .ok (.invokevirtual 192, 3) := by decide +kernel
theorem dX12_slip_17 : decode cX12_slip 17 = .ok (.ifCond .eq 32, 3) := by decide +kernel
theorem dX12_slip_20 : decode cX12_slip 20 = .ok (.iload_n 3, 1) := by decide +kernel
theorem dX12_slip_21 : decode cX12_slip 21 = .ok (.invokestatic 258, 3) := by decide +kernel
theorem dX12_slip_24 : decode cX12_slip 24 = .ok (.ifCond .eq 25, 3) := by decide +kernel
theorem dX12_slip_27 : decode cX12_slip 27 = .ok (.iload 4, 2) := by decide +kernel
theorem dX12_slip_29 : decode cX12_slip 29 = .ok (.iconst 1, 1) := by decide +kernel
theorem dX12_slip_30 : decode cX12_slip 30 = .ok (.ldc 195, 2) := by decide +kernel
theorem dX12_slip_32 : decode cX12_slip 32 = .ok (.invokestatic 178, 3) := by decide +kernel
theorem dX12_slip_35 : decode cX12_slip 35 = .ok (.ifCond .eq 14, 3) := by decide +kernel
theorem dX12_slip_38 : decode cX12_slip 38 = .ok (.aload_n 0, 1) := by decide +kernel
theorem dX12_slip_39 : decode cX12_slip 39 = .ok (.getfield 69, 3) := by decide +kernel
theorem dX12_slip_42 : decode cX12_slip 42 = .ok (.iload_n 1, 1) := by decide +kernel
theorem dX12_slip_43 : decode cX12_slip 43 = .ok (.iaload, 1) := by decide +kernel
theorem dX12_slip_44 : decode cX12_slip 44 = .ok (.bipush 40, 2) := by decide +kernel
theorem dX12_slip_46 : decode cX12_slip 46 = .ok (.if_icmp .ne 5, 3) := by decide +kernel
theorem dX12_slip_51 : decode cX12_slip 51 = .ok (.aload_n 0, 1) := by decide +kernel
theorem dX12_slip_52 : decode cX12_slip 52 = .ok (.iload_n 2, 1) := by decide +kernel
theorem dX12_slip_53 : decode cX12_slip 53 = .ok (.aload_n 0, 1) := by decide +kernel
theorem dX12_slip_54 : decode cX12_slip 54 = .ok (.iload_n 2, 1) := by decide +kernel
theorem dX12_slip_55 : decode cX12_slip 55 = .ok (.iload_n 3, 1) := by decide +kernel
theorem dX12_slip_56 : decode cX12_slip 56 = .ok (.invokevirtual 261, 3) := by decide +kernel
theorem dX12_slipped_0 : decode cX12_slipped 0 = .ok (.aload_n 0, 1) := by decide +kernel
theorem dX12_slipped_1 : decode cX12_slipped 1 = .ok (.iconst 0, 1) := by decide +kernel
theorem dX12_slipped_2 : decode cX12_slipped 2 = .ok (.putfield 1, 3) := by decide +kernel
theorem dX12_slipped_5 : decode cX12_slipped 5 = .ok (.aload_n 0, 1) := by decide +kernel
theorem dX12_slipped_6 : decode cX12_slipped 6 = .ok (.iload_n 1, 1) := by decide +kernel
theorem dX12_slipped_7 : decode cX12_slipped 7 = .ok (.iload_n 2, 1) := by decide +kernel
theorem dX12_slipped_8 : decode cX12_slipped 8 = .ok (.iload_n 3, 1) := by decide +kernel
theorem dX12_slipped_9 : decode cX12_slipped 9 = .ok (.invokevirtual 333, 3) := by decide +kernel
theorem dX12_slipped_12 : decode cX12_slipped 12 = .ok (.ifCond .eq 23, 3) := by decide +kernel
theorem dX12_slipped_15 : decode cX12_slipped 15 = .ok (.iload 4, 2) := by decide +kernel
theorem dX12_slipped_17 : decode cX12_slipped 17 = .ok (.iconst 0, 1) := by decide +kernel
theorem dX12_slipped_18 : decode cX12_slipped 18 = .ok (.iconst 2, 1) := by decide +kernel
theorem dX12_slipped_19 : decode cX12_slipped 19 = .ok (.invokestatic 178, 3) := by decide +kernel
theorem dX12_slipped_22 : decode cX12_slipped 22 = .ok (.ifCond .eq 13, 3) := by decide +kernel
theorem dX12_slipped_25 : decode cX12_slipped 25 = .ok (.aload_n 0, 1) := by decide +kernel
theorem dX12_slipped_26 : decode cX12_slipped 26 = .ok (.iload_n 1, 1) := by decide +kernel
theorem dX12_slipped_27 : decode cX12_slipped 27 = .ok (.iload_n 2, 1) := by decide +kernel
theorem dX12_slipped_28 : decode cX12_slipped 28 = .ok (.iload_n 3, 1) := by decide +kernel
theorem dX12_slipped_29 : decode cX12_slipped 29 = .ok (.invokevirtual 364, 3) := by decide +kernel
theorem dX12_solves_0 : decode cX12_solves 0 = .ok (.aload_n 0, 1) := by decide +kernel
theorem dX12_solves_1 : decode cX12_solves 1 = .ok (.iconst 0, 1) := by decide +kernel
theorem dX12_solves_2 : decode cX12_solves 2 = .ok (.putfield 1, 3) := by decide +kernel
theorem dX12_solves_5 : decode cX12_solves 5 = .ok (.aload_n 0, 1) := by decide +kernel
theorem dX12_solves_6 : decode cX12_solves 6 = .ok (.iload_n 1, 1) := by decide +kernel
theorem dX12_solves_7 : decode cX12_solves 7 = .ok (.iload_n 2, 1) := by decide +kernel
theorem dX12_solves_8 : decode cX12_solves 8 = .ok (.iload_n 3, 1) := by decide +kernel
theorem dX12_solves_9 : decode cX12_solves 9 = .ok (.invokevirtual 333, 3) := by decide +kernel
theorem dX12_solves_12 : decode cX12_solves 12 = .ok (.ifCond .eq 13, 3) := by decide +kernel
theorem dX12_solves_15 : decode cX12_solves 15 = .ok (.iload 4, 2) := by decide +kernel
theorem dX12_solves_17 : decode cX12_solves 17 = .ok (.iconst 0, 1) := by decide +kernel
theorem dX12_solves_18 : decode cX12_solves 18 = .ok (.iconst 3, 1) := by decide +kernel
theorem dX12_solves_19 : decode cX12_solves 19 = .ok (.invokestatic 178, 3) := by decide +kernel
theorem dX12_solves_22 : decode cX12_solves 22 = .ok (.ifCond .ne 5, 3) := by decide +kernel
theorem dX12_solves_27 : decode cX12_solves 27 = .ok (.aload_n 0, 1) := by decide +kernel
theorem dX12_solves_28 : decode cX12_solves 28 = .ok (.invokevirtual 336, 3) := by decide +kernel
theorem dX12_solves_31 : decode cX12_solves 31 = .ok (.aload_n 0, 1) := by decide +kernel
theorem dX12_solves_32 : decode cX12_solves 32 = .ok (.iload_n 1, 1) := by decide +kernel
theorem dX12_solves_33 : decode cX12_solves 33 = .ok (.iload_n 2, 1) := by decide +kernel
theorem dX12_solves_34 : decode cX12_solves 34 = .ok (.iload_n 3, 1) := by decide +kernel
theorem dX12_solves_35 : decode cX12_solves 35 = .ok (.aload_n 0, 1) := by decide +kernel
theorem dX12_solves_36 : decode cX12_solves 36 = .ok (.getfield 69, 3) := by decide +kernel
theorem dX12_solves_39 : decode cX12_solves 39 = .ok (.iload_n 1, 1) := by decide +kernel
theorem dX12_solves_40 : decode cX12_solves 40 = .ok (.iaload, 1) := by decide +kernel
theorem dX12_solves_41 : decode cX12_solves 41 = .ok (.invokevirtual 339, 3) := by decide +kernel
theorem dX12_soon_0 : decode cX12_soon 0 = .ok (.aload_n 0, 1) := by decide +kernel
theorem dX12_soon_1 : decode cX12_soon 1 = .ok (.iconst 0, 1) := by decide +kernel
theorem dX12_soon_2 : decode cX12_soon 2 = .ok (.putfield 1, 3) := by decide +kernel
theorem dX12_soon_5 : decode cX12_soon 5 = .ok (.iload_n 1, 1) := by decide +kernel
theorem dX12_soon_6 : decode cX12_soon 6 = .ok (.invokestatic 278, 3) := by decide +kernel
theorem dX12_soon_9 : decode cX12_soon 9 = .ok (.ifCond .eq 30, 3) := by decide +kernel
theorem dX12_soon_12 : decode cX12_soon 12 = .ok (.aload_n 0, 1) := by decide +kernel
theorem dX12_soon_13 : decode cX12_soon 13 = .ok (.iload_n 2, 1) := by decide +kernel
theorem dX12_soon_14 : decode cX12_soon 14 = .ok (.invokevirtual 192, 3) := by decide +kernel
theorem dX12_soon_17 : decode cX12_soon 17 = .ok (.ifCond .eq 22, 3) := by decide +kernel
theorem dX12_soon_20 : decode cX12_soon 20 = .ok (.aload_n 0, 1) := by decide +kernel
theorem dX12_soon_21 : decode cX12_soon 21 = .ok (.iload_n 2, 1) := by decide +kernel
theorem dX12_soon_22 : decode cX12_soon 22 = .ok (.iload_n 3, 1) := by decide +kernel
theorem dX12_soon_23 : decode cX12_soon 23 = .ok (.invokevirtual 352, 3) := by decide +kernel
theorem dX12_soon_26 : decode cX12_soon 26 = .ok (.ifCond .eq 13, 3) := by decide +kernel
theorem dX12_soon_29 : decode cX12_soon 29 = .ok (.iload 4, 2) := by decide +kernel
theorem dX12_soon_31 : decode cX12_soon 31 = .ok (.iconst 0, 1) := by decide +kernel
theorem dX12_soon_32 : decode cX12_soon 32 = .ok (.iconst 1, 1) := by decide +kernel
theorem dX12_soon_33 : decode cX12_soon 33 = .ok (.invokestatic 178, 3) := by decide +kernel
theorem dX12_soon_36 : decode cX12_soon 36 = .ok (.ifCond .ne 5, 3) := by decide +kernel
theorem dX12_soon_39 : decode cX12_soon 39 = .ok (.iconst (-1), 1) := by decide +kernel
theorem dX12_soon_40 : decode cX12_soon 40 = .ok (.ireturn, 1) := by decide +kernel
theorem dX12_soon_41 : decode cX12_soon 41 = .ok (.aload_n 0, 1) := by decide +kernel
theorem dX12_soon_42 : decode cX12_soon 42 = .ok (.invokevirtual 336, 3) := by decide +kernel
theorem dX12_soon_45 : decode cX12_soon 45 = .ok (.iconst 0, 1) := by decide +kernel
theorem dX12_soon_46 : decode cX12_soon 46 = .ok (.istore 5, 2) := by decide +kernel
theorem dX12_soon_48 : decode cX12_soon 48 = .ok (.iload 5, 2) := by decide +kernel
theorem dX12_soon_50 : decode cX12_soon 50 = .ok (.aload_n 0, 1) := by decide +kernel
theorem dX12_soon_51 : decode cX12_soon 51 = .ok (.getfield 69, 3) := by decide +kernel
theorem dX12_soon_54 : decode cX12_soon 54 = .ok (.iload_n 1, 1) := by decide +kernel
theorem dX12_soon_55 : decode cX12_soon 55 = .ok (.iaload, 1) := by decide +kernel
theorem dX12_soon_56 : decode cX12_soon 56 = .ok (.if_icmp .gt 26, 3) := by decide +kernel
theorem dX12_soon_59 : decode cX12_soon 59 = .ok (.aload_n 0, 1) := by decide +kernel
theorem dX12_soon_60 : decode cX12_soon 60 = .ok (.iload_n 1, 1) := by decide +kernel
theorem dX12_soon_61 : decode cX12_soon 61 = .ok (.iload_n 2, 1) := by decide +kernel
theorem dX12_soon_62 : decode cX12_soon 62 = .ok (.iload_n 3, 1) := by decide +kernel
theorem dX12_soon_63 : decode cX12_soon 63 = .ok (.iload 4, 2) := by decide +kernel
theorem dX12_soon_65 : decode cX12_soon 65 = .ok (.iload 5, 2) := by decide +kernel
theorem dX12_soon_67 : decode cX12_soon 67 = .ok (.invokevirtual 355, 3) := by decide +kernel
theorem dX12_sumOf_0 : decode cX12_sumOf 0 = .ok (.iconst 0, 1) := by decide +kernel
theorem dX12_sumOf_1 : decode cX12_sumOf 1 = .ok (.istore_n 3, 1) := by decide +kernel
theorem dX12_sumOf_2 : decode cX12_sumOf 2 = .ok (.iconst 0, 1) := by decide +kernel
theorem dX12_sumOf_3 : decode cX12_sumOf 3 = .ok (.istore 4, 2) := by decide +kernel
theorem dX12_sumOf_5 : decode cX12_sumOf 5 = .ok (.iload 4, 2) := by decide +kernel
theorem dX12_sumOf_7 : decode cX12_sumOf 7 = .ok (.aload_n 0, 1) := by decide +kernel
theorem dX12_sumOf_8 : decode cX12_sumOf 8 = .ok (.getfield 45, 3) := by decide +kernel
theorem dX12_sumOf_11 : decode cX12_sumOf 11 = .ok (.iload_n 1, 1) := by decide +kernel
theorem dX12_sumOf_12 : decode cX12_sumOf 12 = .ok (.iaload, 1) := by decide +kernel
theorem dX12_sumOf_13 : decode cX12_sumOf 13 = .ok (.if_icmp .ge 38, 3) := by decide +kernel
theorem dX12_sumOf_16 : decode cX12_sumOf 16 = .ok (.iload_n 3, 1) := by decide +kernel
theorem dX12_sumOf_17 : decode cX12_sumOf 17 = .ok (.iload_n 2, 1) := by decide +kernel
theorem dX12_sumOf_18 : decode cX12_sumOf 18 = .ok (.iload 4, 2) := by decide +kernel
theorem dX12_sumOf_20 : decode cX12_sumOf 20 = .ok (.ishr, 1) := by decide +kernel
theorem dX12_sumOf_21 : decode cX12_sumOf 21 = .ok (.iconst 1, 1) := by decide +kernel
theorem dX12_sumOf_22 : decode cX12_sumOf 22 = .ok (.iand, 1) := by decide +kernel
theorem dX12_sumOf_23 : decode cX12_sumOf 23 = .ok (.iconst 1, 1) := by decide +kernel
theorem dX12_sumOf_24 : decode cX12_sumOf 24 = .ok (.if_icmp .ne 18, 3) := by decide +kernel
theorem dX12_sumOf_27 : decode cX12_sumOf 27 = .ok (.aload_n 0, 1) := by decide +kernel
theorem dX12_sumOf_28 : decode cX12_sumOf 28 = .ok (.getfield 48, 3) := by decide +kernel
theorem dX12_sumOf_31 : decode cX12_sumOf 31 = .ok (.bipush 16, 2) := by decide +kernel
theorem dX12_sumOf_33 : decode cX12_sumOf 33 = .ok (.iload_n 1, 1) := by decide +kernel
theorem dX12_sumOf_34 : decode cX12_sumOf 34 = .ok (.imul, 1) := by decide +kernel
theorem dX12_sumOf_35 : decode cX12_sumOf 35 = .ok (.iload 4, 2) := by decide +kernel
theorem dX12_sumOf_37 : decode cX12_sumOf 37 = .ok (.iadd, 1) := by decide +kernel
theorem dX12_sumOf_38 : decode cX12_sumOf 38 = .ok (.iaload, 1) := by decide +kernel
theorem dX12_sumOf_39 : decode cX12_sumOf 39 = .ok (.goto 4, 3) := by decide +kernel
theorem dX12_sumOf_42 : decode cX12_sumOf 42 = .ok (.iconst 0, 1) := by decide +kernel
theorem dX12_sumOf_43 : decode cX12_sumOf 43 = .ok (.ixor, 1) := by decide +kernel
theorem dX12_sumOf_44 : decode cX12_sumOf 44 = .ok (.istore_n 3, 1) := by decide +kernel
theorem dX12_sumOf_45 : decode cX12_sumOf 45 = .ok (.iinc 4 1, 3) := by decide +kernel
theorem dX12_sumOf_48 : decode cX12_sumOf 48 = .ok (.goto (-43), 3) := by decide +kernel
theorem dX12_sumOf_51 : decode cX12_sumOf 51 = .ok (.iconst 0, 1) := by decide +kernel
theorem dX12_sumOf_52 : decode cX12_sumOf 52 = .ok (.istore 4, 2) := by decide +kernel
theorem dX12_sumOf_54 : decode cX12_sumOf 54 = .ok (.iload 4, 2) := by decide +kernel
theorem dX12_sumOf_56 : decode cX12_sumOf 56 = .ok (.aload_n 0, 1) := by decide +kernel
theorem dX12_sumOf_57 : decode cX12_sumOf 57 = .ok (.getfield 60, 3) := by decide +kernel
theorem dX12_sumOf_60 : decode cX12_sumOf 60 = .ok (.iload_n 1, 1) := by decide +kernel
theorem dX12_sumOf_61 : decode cX12_sumOf 61 = .ok (.iaload, 1) := by decide +kernel
theorem dX12_sumOf_62 : decode cX12_sumOf 62 = .ok (.if_icmp .ge 85, 3) := by decide +kernel
theorem dX12_sumOf_65 : decode cX12_sumOf 65 = .ok (.iconst 0, 1) := by decide +kernel
theorem dX12_sumOf_66 : decode cX12_sumOf 66 = .ok (.istore 5, 2) := by decide +kernel
theorem dX12_sumOf_68 : decode cX12_sumOf 68 = .ok (.iload 5, 2) := by decide +kernel
theorem dX12_sumOf_70 : decode cX12_sumOf 70 = .ok (.aload_n 0, 1) := by decide +kernel
theorem dX12_sumOf_71 : decode cX12_sumOf 71 = .ok (.getfield 45, 3) := by decide +kernel
theorem dX12_sumOf_74 : decode cX12_sumOf 74 = .ok (.iload_n 1, 1) := by decide +kernel
theorem dX12_sumOf_75 : decode cX12_sumOf 75 = .ok (.iaload, 1) := by decide +kernel
theorem dX12_sumOf_76 : decode cX12_sumOf 76 = .ok (.if_icmp .ge 65, 3) := by decide +kernel
theorem dX12_sumOf_79 : decode cX12_sumOf 79 = .ok (.iload_n 2, 1) := by decide +kernel
theorem dX12_sumOf_80 : decode cX12_sumOf 80 = .ok (.aload_n 0, 1) := by decide +kernel
theorem dX12_sumOf_81 : decode cX12_sumOf 81 = .ok (.getfield 45, 3) := by decide +kernel
theorem dX12_sumOf_84 : decode cX12_sumOf 84 = .ok (.iload_n 1, 1) := by decide +kernel
theorem dX12_sumOf_85 : decode cX12_sumOf 85 = .ok (.iaload, 1) := by decide +kernel
theorem dX12_sumOf_86 : decode cX12_sumOf 86 = .ok (.iload 4, 2) := by decide +kernel
theorem dX12_sumOf_88 : decode cX12_sumOf 88 = .ok (.iadd, 1) := by decide +kernel
theorem dX12_sumOf_89 : decode cX12_sumOf 89 = .ok (.ishr, 1) := by decide +kernel
theorem dX12_sumOf_90 : decode cX12_sumOf 90 = .ok (.iconst 1, 1) := by decide +kernel
theorem dX12_sumOf_91 : decode cX12_sumOf 91 = .ok (.iand, 1) := by decide +kernel
theorem dX12_sumOf_92 : decode cX12_sumOf 92 = .ok (.iconst 1, 1) := by decide +kernel
theorem dX12_sumOf_93 : decode cX12_sumOf 93 = .ok (.if_icmp .ne 48, 3) := by decide +kernel
theorem dX12_sumOf_96 : decode cX12_sumOf 96 = .ok (.iload_n 3, 1) := by decide +kernel
theorem dX12_sumOf_97 : decode cX12_sumOf 97 = .ok (.aload_n 0, 1) := by decide +kernel
theorem dX12_sumOf_98 : decode cX12_sumOf 98 = .ok (.getfield 63, 3) := by decide +kernel
theorem dX12_sumOf_101 : decode cX12_sumOf 101 = .ok (.iconst 4, 1) := by decide +kernel
theorem dX12_sumOf_102 : decode cX12_sumOf 102 = .ok (.iload_n 1, 1) := by decide +kernel
theorem dX12_sumOf_103 : decode cX12_sumOf 103 = .ok (.imul, 1) := by decide +kernel
theorem dX12_sumOf_104 : decode cX12_sumOf 104 = .ok (.iload 4, 2) := by decide +kernel
theorem dX12_sumOf_106 : decode cX12_sumOf 106 = .ok (.iadd, 1) := by decide +kernel
theorem dX12_sumOf_107 : decode cX12_sumOf 107 = .ok (.iaload, 1) := by decide +kernel
theorem dX12_sumOf_108 : decode cX12_sumOf 108 = .ok (.iload 5, 2) := by decide +kernel
theorem dX12_sumOf_110 : decode cX12_sumOf 110 = .ok (.ishr, 1) := by decide +kernel
theorem dX12_sumOf_111 : decode cX12_sumOf 111 = .ok (.iconst 1, 1) := by decide +kernel
theorem dX12_sumOf_112 : decode cX12_sumOf 112 = .ok (.iand, 1) := by decide +kernel
theorem dX12_sumOf_113 : decode cX12_sumOf 113 = .ok (.iconst 1, 1) := by decide +kernel
theorem dX12_sumOf_114 : decode cX12_sumOf 114 = .ok (.if_icmp .ne 18, 3) := by decide +kernel
theorem dX12_sumOf_117 : decode cX12_sumOf 117 = .ok (.aload_n 0, 1) := by decide +kernel
theorem dX12_sumOf_118 : decode cX12_sumOf 118 = .ok (.getfield 48, 3) := by decide +kernel
theorem dX12_sumOf_121 : decode cX12_sumOf 121 = .ok (.bipush 16, 2) := by decide +kernel
theorem dX12_sumOf_123 : decode cX12_sumOf 123 = .ok (.iload_n 1, 1) := by decide +kernel
theorem dX12_sumOf_124 : decode cX12_sumOf 124 = .ok (.imul, 1) := by decide +kernel
theorem dX12_sumOf_125 : decode cX12_sumOf 125 = .ok (.iload 5, 2) := by decide +kernel
theorem dX12_sumOf_127 : decode cX12_sumOf 127 = .ok (.iadd, 1) := by decide +kernel
theorem dX12_sumOf_128 : decode cX12_sumOf 128 = .ok (.iaload, 1) := by decide +kernel
theorem dX12_sumOf_129 : decode cX12_sumOf 129 = .ok (.goto 4, 3) := by decide +kernel
theorem dX12_sumOf_132 : decode cX12_sumOf 132 = .ok (.iconst 0, 1) := by decide +kernel
theorem dX12_sumOf_133 : decode cX12_sumOf 133 = .ok (.ixor, 1) := by decide +kernel
theorem dX12_sumOf_134 : decode cX12_sumOf 134 = .ok (.istore_n 3, 1) := by decide +kernel
theorem dX12_sumOf_135 : decode cX12_sumOf 135 = .ok (.iinc 5 1, 3) := by decide +kernel
theorem dX12_sumOf_138 : decode cX12_sumOf 138 = .ok (.goto (-70), 3) := by decide +kernel
theorem dX12_sumOf_141 : decode cX12_sumOf 141 = .ok (.iinc 4 1, 3) := by decide +kernel
theorem dX12_sumOf_144 : decode cX12_sumOf 144 = .ok (.goto (-90), 3) := by decide +kernel
theorem dX12_sumOf_147 : decode cX12_sumOf 147 = .ok (.iload_n 3, 1) := by decide +kernel
theorem dX12_sumOf_148 : decode cX12_sumOf 148 = .ok (.ireturn, 1) := by decide +kernel
set_option maxHeartbeats 4000000 in
set_option maxRecDepth 100000 in
theorem s_X12_sumOf {P : PP} {a0 : Nat} {a1 : Int32} {a2 : Int32} (I : IM P a0) (ha1 : 0 ≤ a1.toInt ∧ a1.toInt ≤ 1) : CtrI yX12_sumOf cX12_sumOf 6 (some Jvm.ClassFile.FieldType.int) ({ frames := 1, cells := 0, slots := 0, locals := 64 } : Room) 0 0 P [.ref a0, .int a1, .int a2] (fun r P2 => P = P2 ∧ (True)) := by
  refine enI (lv := [(0, .ref a0), (1, .int a1), (2, .int a2)]) (by decide) (Nat.le_of_ble_eq_true rfl) rfl (fun E D cy C Ci0 ret => ?_)
  have ha0 := I.2.1
  have J54 : ∀ (n54 : Nat) (v54_3 : Int32) (v54_4 : Int32), (4 - v54_4.toInt).toNat < n54 → (0 ≤ v54_4.toInt ∧ v54_4.toInt ≤ 4) → G E ({ frames := 1, cells := 0, slots := 0, locals := 64 } : Room) D cy 6 P 0 0 54 [(0, .ref a0), (1, .int a1), (2, .int a2), (3, .int v54_3), (4, .int v54_4)] [] := by
    intro n54
    induction n54 with
    | zero => intro v54_3 v54_4 hm54 hv54_4; omega
    | succ n54 ih54 =>
      intro v54_3 v54_4 hm54 hv54_4
      have J141 : ∀ (v141_3 : Int32), (0 ≤ v54_4.toInt ∧ v54_4.toInt ≤ 3) → (∀ b, pR P a0 15 = some b → 1 ≤ (pI P b (a1.toInt.toNat)).toInt ∧ (pI P b (a1.toInt.toNat)).toInt ≤ 4) → G E ({ frames := 1, cells := 0, slots := 0, locals := 64 } : Room) D cy 6 P 0 0 141 [(0, .ref a0), (1, .int a1), (2, .int a2), (3, .int v141_3), (4, .int v54_4)] [] := by
        intro v141_3 hv141_4 hq141_0
        obtain ⟨b22824, e22825, h22826⟩ := I.fld (ha0) 15 13 3 rfl
        have hq141_0 := hq141_0 b22824 e22825
        refine s_iinc (lv0 := [(0, .ref a0), (1, .int a1), (2, .int a2), (3, .int v141_3)]) (m := 1) C dX12_sumOf_141 4 rfl (by decide) rfl (by decide) (by omega) (fun z22827 h22828 => ?_)
        have h22828 : z22827.toInt = v54_4.toInt + 1 := h22828
        refine g_goto C 54 dX12_sumOf_144 (by decide) ?_
        refine g_lv (lv' := [(0, .ref a0), (1, .int a1), (2, .int a2), (3, .int v141_3), (4, .int z22827)]) [1, 2, 3, 4, 0] rfl ?_
        exact ih54 v141_3 z22827 (by omega) (by omega)
      have J68 : ∀ (n68 : Nat) (v68_3 : Int32) (v68_5 : Int32), (16 - v68_5.toInt).toNat < n68 → (0 ≤ v54_4.toInt ∧ v54_4.toInt ≤ 3) → (0 ≤ v68_5.toInt ∧ v68_5.toInt ≤ 16) → (∀ b, pR P a0 15 = some b → 1 ≤ (pI P b (a1.toInt.toNat)).toInt ∧ (pI P b (a1.toInt.toNat)).toInt ≤ 4) → G E ({ frames := 1, cells := 0, slots := 0, locals := 64 } : Room) D cy 6 P 0 0 68 [(0, .ref a0), (1, .int a1), (2, .int a2), (3, .int v68_3), (4, .int v54_4), (5, .int v68_5)] [] := by
        intro n68
        induction n68 with
        | zero => intro v68_3 v68_5 hm68 hv68_4 hv68_5 hq68_0; omega
        | succ n68 ih68 =>
          intro v68_3 v68_5 hm68 hv68_4 hv68_5 hq68_0
          obtain ⟨b22829, e22830, h22831⟩ := I.fld (ha0) 15 13 3 rfl
          have hq68_0 := hq68_0 b22829 e22830
          have J133 : ∀ (v133_s0 : Int32), (0 ≤ v54_4.toInt ∧ v54_4.toInt ≤ 3) → (0 ≤ v68_5.toInt ∧ v68_5.toInt ≤ 15) → (∀ b, pR P a0 10 = some b → 1 ≤ (pI P b (a1.toInt.toNat)).toInt ∧ (pI P b (a1.toInt.toNat)).toInt ≤ 16) → (∀ b, pR P a0 15 = some b → 1 ≤ (pI P b (a1.toInt.toNat)).toInt ∧ (pI P b (a1.toInt.toNat)).toInt ≤ 4) → G E ({ frames := 1, cells := 0, slots := 0, locals := 64 } : Room) D cy 6 P 0 0 133 [(0, .ref a0), (1, .int a1), (2, .int a2), (4, .int v54_4), (5, .int v68_5)] [.int v133_s0, .int v68_3] := by
            intro v133_s0 hv133_4 hv133_5 hq133_0 hq133_1
            obtain ⟨b22832, e22833, h22834⟩ := I.fld (ha0) 10 13 2 rfl
            have hq133_0 := hq133_0 b22832 e22833
            obtain ⟨b22835, e22836, h22837⟩ := I.fld (ha0) 15 13 3 rfl
            have hq133_1 := hq133_1 b22835 e22836
            refine a_ixor C dX12_sumOf_133 (fun z22838 => ?_)
            refine g_istore_n (lv' := [(3, .int z22838), (0, .ref a0), (1, .int a1), (2, .int a2), (4, .int v54_4), (5, .int v68_5)]) C dX12_sumOf_134 rfl (by decide) rfl ?_
            refine s_iinc (lv0 := [(3, .int z22838), (0, .ref a0), (1, .int a1), (2, .int a2), (4, .int v54_4)]) (m := 1) C dX12_sumOf_135 5 rfl (by decide) rfl (by decide) (by omega) (fun z22840 h22841 => ?_)
            have h22841 : z22840.toInt = v68_5.toInt + 1 := h22841
            refine g_goto C 68 dX12_sumOf_138 (by decide) ?_
            refine g_lv (lv' := [(0, .ref a0), (1, .int a1), (2, .int a2), (3, .int z22838), (4, .int v54_4), (5, .int z22840)]) [2, 3, 4, 1, 5, 0] rfl ?_
            exact ih68 z22838 z22840 (by omega) (by omega) (by omega) (fun b9 e9 => by rw [e22836] at e9; cases e9; omega)
          refine g_iload C dX12_sumOf_68 5 rfl ?_
          refine g_aload_n C dX12_sumOf_70 rfl 0 rfl ?_
          obtain ⟨b22842, e22843, h22844⟩ := I.fld (ha0) 10 13 2 rfl
          refine g_getR C fi_X12_45 rfl e22843 (ha0).1 (ha0).2 dX12_sumOf_71 ?_
          refine g_iload_n C dX12_sumOf_74 rfl 1 rfl ?_
          refine g_iald (j := (a1.toInt.toNat)) C h22844.1 h22844.2.1 (ix_in h22844.2.2 (by omega)) dX12_sumOf_75 ?_
          have h22845 := I.arr e22843 rfl (a1.toInt.toNat)
          refine b_icmp_ge C 141 dX12_sumOf_76 (by decide) (fun h22846 => ?_) (fun h22846 => ?_)
          · have h22846 : (pI P b22842 (a1.toInt.toNat)).toInt ≤ v68_5.toInt := h22846
            refine g_lv (lv' := [(0, .ref a0), (1, .int a1), (2, .int a2), (3, .int v68_3), (4, .int v54_4)]) [0, 1, 2, 3, 4] rfl ?_
            exact J141 v68_3 (by omega) (fun b9 e9 => by rw [e22830] at e9; cases e9; omega)
          · have h22846 : v68_5.toInt < (pI P b22842 (a1.toInt.toNat)).toInt := h22846
            refine g_iload_n C dX12_sumOf_79 rfl 2 rfl ?_
            refine g_aload_n C dX12_sumOf_80 rfl 0 rfl ?_
            refine g_getR C fi_X12_45 rfl e22843 (ha0).1 (ha0).2 dX12_sumOf_81 ?_
            refine g_iload_n C dX12_sumOf_84 rfl 1 rfl ?_
            refine g_iald (j := (a1.toInt.toNat)) C h22844.1 h22844.2.1 (ix_in h22844.2.2 (by omega)) dX12_sumOf_85 ?_
            refine g_iload C dX12_sumOf_86 4 rfl ?_
            refine s_iadd C dX12_sumOf_88 (by show -2147483648 ≤ (pI P b22842 (a1.toInt.toNat)).toInt + v54_4.toInt ∧ (pI P b22842 (a1.toInt.toNat)).toInt + v54_4.toInt ≤ 2147483647; omega) (fun z22847 h22848 => ?_)
            have h22848 : z22847.toInt = (pI P b22842 (a1.toInt.toNat)).toInt + v54_4.toInt := h22848
            refine a_ishr C dX12_sumOf_89 (fun z22849 => ?_)
            refine g_iconst (v := 1) C dX12_sumOf_90 (by decide) ?_
            refine s_iand C dX12_sumOf_91 (by show 0 ≤ 1; omega) (fun z22851 h22852 => ?_)
            have h22852 : 0 ≤ z22851.toInt ∧ z22851.toInt ≤ 1 := h22852
            refine g_iconst (v := 1) C dX12_sumOf_92 (by decide) ?_
            refine b_icmp_ne C 141 dX12_sumOf_93 (by decide) (fun h22853 => ?_) (fun h22853 => ?_)
            · have h22853 : z22851.toInt ≠ 1 := ti_ne h22853
              refine g_lv (lv' := [(0, .ref a0), (1, .int a1), (2, .int a2), (3, .int v68_3), (4, .int v54_4)]) [0, 1, 2, 3, 4] rfl ?_
              exact J141 v68_3 (by omega) (fun b9 e9 => by rw [e22830] at e9; cases e9; omega)
            · have h22853 : z22851.toInt = 1 := congrArg Int32.toInt h22853
              refine g_iload_n C dX12_sumOf_96 rfl 3 rfl ?_
              refine g_aload_n C dX12_sumOf_97 rfl 0 rfl ?_
              obtain ⟨b22854, e22855, h22856⟩ := I.fld (ha0) 16 13 12 rfl
              refine g_getR C fi_X12_63 rfl e22855 (ha0).1 (ha0).2 dX12_sumOf_98 ?_
              refine g_iconst (v := 4) C dX12_sumOf_101 (by decide) ?_
              refine g_iload_n C dX12_sumOf_102 rfl 1 rfl ?_
              refine s_imul C dX12_sumOf_103 (by show -2147483648 ≤ 4 * a1.toInt ∧ 4 * a1.toInt ≤ 2147483647; omega) (fun z22857 h22858 => ?_)
              have h22858 : z22857.toInt = 4 * a1.toInt := h22858
              refine g_iload C dX12_sumOf_104 4 rfl ?_
              refine s_iadd C dX12_sumOf_106 (by show -2147483648 ≤ z22857.toInt + v54_4.toInt ∧ z22857.toInt + v54_4.toInt ≤ 2147483647; omega) (fun z22859 h22860 => ?_)
              have h22860 : z22859.toInt = z22857.toInt + v54_4.toInt := h22860
              refine g_iald (j := (z22859.toInt.toNat)) C h22856.1 h22856.2.1 (ix_in h22856.2.2 (by omega)) dX12_sumOf_107 ?_
              refine g_iload C dX12_sumOf_108 5 rfl ?_
              refine a_ishr C dX12_sumOf_110 (fun z22861 => ?_)
              refine g_iconst (v := 1) C dX12_sumOf_111 (by decide) ?_
              refine s_iand C dX12_sumOf_112 (by show 0 ≤ 1; omega) (fun z22863 h22864 => ?_)
              have h22864 : 0 ≤ z22863.toInt ∧ z22863.toInt ≤ 1 := h22864
              refine g_iconst (v := 1) C dX12_sumOf_113 (by decide) ?_
              refine b_icmp_ne C 132 dX12_sumOf_114 (by decide) (fun h22865 => ?_) (fun h22865 => ?_)
              · have h22865 : z22863.toInt ≠ 1 := ti_ne h22865
                refine g_iconst (v := 0) C dX12_sumOf_132 (by decide) ?_
                refine g_lv (lv' := [(0, .ref a0), (1, .int a1), (2, .int a2), (4, .int v54_4), (5, .int v68_5)]) [0, 1, 2, 4, 5] rfl ?_
                exact J133 0 (by omega) (by omega) (fun b9 e9 => by rw [e22843] at e9; cases e9; omega) (fun b9 e9 => by rw [e22830] at e9; cases e9; omega)
              · have h22865 : z22863.toInt = 1 := congrArg Int32.toInt h22865
                refine g_aload_n C dX12_sumOf_117 rfl 0 rfl ?_
                obtain ⟨b22866, e22867, h22868⟩ := I.fld (ha0) 11 13 32 rfl
                refine g_getR C fi_X12_48 rfl e22867 (ha0).1 (ha0).2 dX12_sumOf_118 ?_
                refine g_bipush (v := 16) C dX12_sumOf_121 (by decide) ?_
                refine g_iload_n C dX12_sumOf_123 rfl 1 rfl ?_
                refine s_imul C dX12_sumOf_124 (by show -2147483648 ≤ 16 * a1.toInt ∧ 16 * a1.toInt ≤ 2147483647; omega) (fun z22869 h22870 => ?_)
                have h22870 : z22869.toInt = 16 * a1.toInt := h22870
                refine g_iload C dX12_sumOf_125 5 rfl ?_
                refine s_iadd C dX12_sumOf_127 (by show -2147483648 ≤ z22869.toInt + v68_5.toInt ∧ z22869.toInt + v68_5.toInt ≤ 2147483647; omega) (fun z22871 h22872 => ?_)
                have h22872 : z22871.toInt = z22869.toInt + v68_5.toInt := h22872
                refine g_iald (j := (z22871.toInt.toNat)) C h22868.1 h22868.2.1 (ix_in h22868.2.2 (by omega)) dX12_sumOf_128 ?_
                refine g_goto C 133 dX12_sumOf_129 (by decide) ?_
                refine g_lv (lv' := [(0, .ref a0), (1, .int a1), (2, .int a2), (4, .int v54_4), (5, .int v68_5)]) [0, 1, 2, 4, 5] rfl ?_
                exact J133 (pI P b22866 (z22871.toInt.toNat)) (by omega) (by omega) (fun b9 e9 => by rw [e22843] at e9; cases e9; omega) (fun b9 e9 => by rw [e22830] at e9; cases e9; omega)
      refine g_iload C dX12_sumOf_54 4 rfl ?_
      refine g_aload_n C dX12_sumOf_56 rfl 0 rfl ?_
      obtain ⟨b22873, e22874, h22875⟩ := I.fld (ha0) 15 13 3 rfl
      refine g_getR C fi_X12_60 rfl e22874 (ha0).1 (ha0).2 dX12_sumOf_57 ?_
      refine g_iload_n C dX12_sumOf_60 rfl 1 rfl ?_
      refine g_iald (j := (a1.toInt.toNat)) C h22875.1 h22875.2.1 (ix_in h22875.2.2 (by omega)) dX12_sumOf_61 ?_
      have h22876 := I.arr e22874 rfl (a1.toInt.toNat)
      refine b_icmp_ge C 147 dX12_sumOf_62 (by decide) (fun h22877 => ?_) (fun h22877 => ?_)
      · have h22877 : (pI P b22873 (a1.toInt.toNat)).toInt ≤ v54_4.toInt := h22877
        refine g_iload_n C dX12_sumOf_147 rfl 3 rfl ?_
        exact ret _ _ _ _ _ _ dX12_sumOf_148 rfl (by decide) (by decide) ⟨rfl, trivial⟩
      · have h22877 : v54_4.toInt < (pI P b22873 (a1.toInt.toNat)).toInt := h22877
        refine g_iconst (v := 0) C dX12_sumOf_65 (by decide) ?_
        refine g_istore (lv' := [(5, .int 0), (0, .ref a0), (1, .int a1), (2, .int a2), (3, .int v54_3), (4, .int v54_4)]) C dX12_sumOf_66 (by decide) rfl ?_
        refine g_lv (lv' := [(0, .ref a0), (1, .int a1), (2, .int a2), (3, .int v54_3), (4, .int v54_4), (5, .int 0)]) [1, 2, 3, 4, 5, 0] rfl ?_
        exact J68 _ v54_3 0 (Nat.lt_succ_self _) (by omega) (by decide) (fun b9 e9 => by rw [e22874] at e9; cases e9; omega)
  have J5 : ∀ (n5 : Nat) (v5_3 : Int32) (v5_4 : Int32), (16 - v5_4.toInt).toNat < n5 → (0 ≤ v5_4.toInt ∧ v5_4.toInt ≤ 16) → G E ({ frames := 1, cells := 0, slots := 0, locals := 64 } : Room) D cy 6 P 0 0 5 [(0, .ref a0), (1, .int a1), (2, .int a2), (3, .int v5_3), (4, .int v5_4)] [] := by
    intro n5
    induction n5 with
    | zero => intro v5_3 v5_4 hm5 hv5_4; omega
    | succ n5 ih5 =>
      intro v5_3 v5_4 hm5 hv5_4
      have J43 : ∀ (v43_s0 : Int32), (0 ≤ v5_4.toInt ∧ v5_4.toInt ≤ 15) → (∀ b, pR P a0 10 = some b → 1 ≤ (pI P b (a1.toInt.toNat)).toInt ∧ (pI P b (a1.toInt.toNat)).toInt ≤ 16) → G E ({ frames := 1, cells := 0, slots := 0, locals := 64 } : Room) D cy 6 P 0 0 43 [(0, .ref a0), (1, .int a1), (2, .int a2), (4, .int v5_4)] [.int v43_s0, .int v5_3] := by
        intro v43_s0 hv43_4 hq43_0
        obtain ⟨b22878, e22879, h22880⟩ := I.fld (ha0) 10 13 2 rfl
        have hq43_0 := hq43_0 b22878 e22879
        refine a_ixor C dX12_sumOf_43 (fun z22881 => ?_)
        refine g_istore_n (lv' := [(3, .int z22881), (0, .ref a0), (1, .int a1), (2, .int a2), (4, .int v5_4)]) C dX12_sumOf_44 rfl (by decide) rfl ?_
        refine s_iinc (lv0 := [(3, .int z22881), (0, .ref a0), (1, .int a1), (2, .int a2)]) (m := 1) C dX12_sumOf_45 4 rfl (by decide) rfl (by decide) (by omega) (fun z22883 h22884 => ?_)
        have h22884 : z22883.toInt = v5_4.toInt + 1 := h22884
        refine g_goto C 5 dX12_sumOf_48 (by decide) ?_
        refine g_lv (lv' := [(0, .ref a0), (1, .int a1), (2, .int a2), (3, .int z22881), (4, .int z22883)]) [2, 3, 4, 1, 0] rfl ?_
        exact ih5 z22881 z22883 (by omega) (by omega)
      refine g_iload C dX12_sumOf_5 4 rfl ?_
      refine g_aload_n C dX12_sumOf_7 rfl 0 rfl ?_
      obtain ⟨b22885, e22886, h22887⟩ := I.fld (ha0) 10 13 2 rfl
      refine g_getR C fi_X12_45 rfl e22886 (ha0).1 (ha0).2 dX12_sumOf_8 ?_
      refine g_iload_n C dX12_sumOf_11 rfl 1 rfl ?_
      refine g_iald (j := (a1.toInt.toNat)) C h22887.1 h22887.2.1 (ix_in h22887.2.2 (by omega)) dX12_sumOf_12 ?_
      have h22888 := I.arr e22886 rfl (a1.toInt.toNat)
      refine b_icmp_ge C 51 dX12_sumOf_13 (by decide) (fun h22889 => ?_) (fun h22889 => ?_)
      · have h22889 : (pI P b22885 (a1.toInt.toNat)).toInt ≤ v5_4.toInt := h22889
        refine g_iconst (v := 0) C dX12_sumOf_51 (by decide) ?_
        refine g_istore (lv' := [(4, .int 0), (0, .ref a0), (1, .int a1), (2, .int a2), (3, .int v5_3)]) C dX12_sumOf_52 (by decide) rfl ?_
        refine g_lv (lv' := [(0, .ref a0), (1, .int a1), (2, .int a2), (3, .int v5_3), (4, .int 0)]) [1, 2, 3, 4, 0] rfl ?_
        exact J54 _ v5_3 0 (Nat.lt_succ_self _) (by decide)
      · have h22889 : v5_4.toInt < (pI P b22885 (a1.toInt.toNat)).toInt := h22889
        refine g_iload_n C dX12_sumOf_16 rfl 3 rfl ?_
        refine g_iload_n C dX12_sumOf_17 rfl 2 rfl ?_
        refine g_iload C dX12_sumOf_18 4 rfl ?_
        refine a_ishr C dX12_sumOf_20 (fun z22890 => ?_)
        refine g_iconst (v := 1) C dX12_sumOf_21 (by decide) ?_
        refine s_iand C dX12_sumOf_22 (by show 0 ≤ 1; omega) (fun z22892 h22893 => ?_)
        have h22893 : 0 ≤ z22892.toInt ∧ z22892.toInt ≤ 1 := h22893
        refine g_iconst (v := 1) C dX12_sumOf_23 (by decide) ?_
        refine b_icmp_ne C 42 dX12_sumOf_24 (by decide) (fun h22894 => ?_) (fun h22894 => ?_)
        · have h22894 : z22892.toInt ≠ 1 := ti_ne h22894
          refine g_iconst (v := 0) C dX12_sumOf_42 (by decide) ?_
          refine g_lv (lv' := [(0, .ref a0), (1, .int a1), (2, .int a2), (4, .int v5_4)]) [0, 1, 2, 4] rfl ?_
          exact J43 0 (by omega) (fun b9 e9 => by rw [e22886] at e9; cases e9; omega)
        · have h22894 : z22892.toInt = 1 := congrArg Int32.toInt h22894
          refine g_aload_n C dX12_sumOf_27 rfl 0 rfl ?_
          obtain ⟨b22895, e22896, h22897⟩ := I.fld (ha0) 11 13 32 rfl
          refine g_getR C fi_X12_48 rfl e22896 (ha0).1 (ha0).2 dX12_sumOf_28 ?_
          refine g_bipush (v := 16) C dX12_sumOf_31 (by decide) ?_
          refine g_iload_n C dX12_sumOf_33 rfl 1 rfl ?_
          refine s_imul C dX12_sumOf_34 (by show -2147483648 ≤ 16 * a1.toInt ∧ 16 * a1.toInt ≤ 2147483647; omega) (fun z22898 h22899 => ?_)
          have h22899 : z22898.toInt = 16 * a1.toInt := h22899
          refine g_iload C dX12_sumOf_35 4 rfl ?_
          refine s_iadd C dX12_sumOf_37 (by show -2147483648 ≤ z22898.toInt + v5_4.toInt ∧ z22898.toInt + v5_4.toInt ≤ 2147483647; omega) (fun z22900 h22901 => ?_)
          have h22901 : z22900.toInt = z22898.toInt + v5_4.toInt := h22901
          refine g_iald (j := (z22900.toInt.toNat)) C h22897.1 h22897.2.1 (ix_in h22897.2.2 (by omega)) dX12_sumOf_38 ?_
          refine g_goto C 43 dX12_sumOf_39 (by decide) ?_
          refine g_lv (lv' := [(0, .ref a0), (1, .int a1), (2, .int a2), (4, .int v5_4)]) [0, 1, 2, 4] rfl ?_
          exact J43 (pI P b22895 (z22900.toInt.toNat)) (by omega) (fun b9 e9 => by rw [e22886] at e9; cases e9; omega)
  refine g_iconst (v := 0) C dX12_sumOf_0 (by decide) ?_
  refine g_istore_n (lv' := [(3, .int 0), (0, .ref a0), (1, .int a1), (2, .int a2)]) C dX12_sumOf_1 rfl (by decide) rfl ?_
  refine g_iconst (v := 0) C dX12_sumOf_2 (by decide) ?_
  refine g_istore (lv' := [(4, .int 0), (3, .int 0), (0, .ref a0), (1, .int a1), (2, .int a2)]) C dX12_sumOf_3 (by decide) rfl ?_
  refine g_lv (lv' := [(0, .ref a0), (1, .int a1), (2, .int a2), (3, .int 0), (4, .int 0)]) [2, 3, 4, 1, 0] rfl ?_
  exact J5 _ 0 0 (Nat.lt_succ_self _) (by decide)
theorem dX12_swap_0 : decode cX12_swap 0 = .ok (.aload_n 0, 1) := by decide +kernel
theorem dX12_swap_1 : decode cX12_swap 1 = .ok (.iconst 0, 1) := by decide +kernel
theorem dX12_swap_2 : decode cX12_swap 2 = .ok (.putfield 1, 3) := by decide +kernel
theorem dX12_swap_5 : decode cX12_swap 5 = .ok (.iload_n 1, 1) := by decide +kernel
theorem dX12_swap_6 : decode cX12_swap 6 = .ok (.invokestatic 278, 3) := by decide +kernel
theorem dX12_swap_9 : decode cX12_swap 9 = .ok (.ifCond .eq 25, 3) := by decide +kernel
theorem dX12_swap_12 : decode cX12_swap 12 = .ok (.iload_n 2, 1) := by decide +kernel
theorem dX12_swap_13 : decode cX12_swap 13 = .ok (.invokestatic 278, 3) := by decide +kernel
theorem dX12_swap_16 : decode cX12_swap 16 = .ok (.ifCond .eq 18, 3) := by decide +kernel
theorem dX12_swap_19 : decode cX12_swap 19 = .ok (.iload_n 1, 1) := by decide +kernel
theorem dX12_swap_20 : decode cX12_swap 20 = .ok (.iload_n 2, 1) := by decide +kernel
theorem dX12_swap_21 : decode cX12_swap 21 = .ok (.if_icmp .eq 13, 3) := by decide +kernel
theorem dX12_swap_24 : decode cX12_swap 24 = .ok (.iload_n 3, 1) := by decide +kernel
theorem dX12_swap_25 : decode cX12_swap 25 = .ok (.iconst 0, 1) := by decide +kernel
theorem dX12_swap_26 : decode cX12_swap 26 = .ok (.bipush 40, 2) := by decide +kernel
theorem dX12_swap_28 : decode cX12_swap 28 = .ok (.invokestatic 178, 3) := by decide +kernel
theorem dX12_swap_31 : decode cX12_swap 31 = .ok (.ifCond .ne 5, 3) := by decide +kernel
theorem dX12_swap_34 : decode cX12_swap 34 = .ok (.iconst (-1), 1) := by decide +kernel
theorem dX12_swap_35 : decode cX12_swap 35 = .ok (.ireturn, 1) := by decide +kernel
theorem dX12_swap_36 : decode cX12_swap 36 = .ok (.iconst 0, 1) := by decide +kernel
theorem dX12_swap_37 : decode cX12_swap 37 = .ok (.istore 4, 2) := by decide +kernel
theorem dX12_swap_39 : decode cX12_swap 39 = .ok (.iconst 0, 1) := by decide +kernel
theorem dX12_swap_40 : decode cX12_swap 40 = .ok (.istore 5, 2) := by decide +kernel
theorem dX12_swap_42 : decode cX12_swap 42 = .ok (.iload 5, 2) := by decide +kernel
theorem dX12_swap_44 : decode cX12_swap 44 = .ok (.aload_n 0, 1) := by decide +kernel
theorem dX12_swap_45 : decode cX12_swap 45 = .ok (.getfield 69, 3) := by decide +kernel
theorem dX12_swap_48 : decode cX12_swap 48 = .ok (.iload_n 1, 1) := by decide +kernel
theorem dX12_swap_49 : decode cX12_swap 49 = .ok (.iaload, 1) := by decide +kernel
theorem dX12_swap_50 : decode cX12_swap 50 = .ok (.if_icmp .ge 107, 3) := by decide +kernel
theorem dX12_swap_53 : decode cX12_swap 53 = .ok (.iload 4, 2) := by decide +kernel
theorem dX12_swap_55 : decode cX12_swap 55 = .ok (.iload_n 3, 1) := by decide +kernel
theorem dX12_swap_56 : decode cX12_swap 56 = .ok (.if_icmp .ge 101, 3) := by decide +kernel
theorem dX12_swap_59 : decode cX12_swap 59 = .ok (.bipush 40, 2) := by decide +kernel
theorem dX12_swap_61 : decode cX12_swap 61 = .ok (.iload_n 1, 1) := by decide +kernel
theorem dX12_swap_62 : decode cX12_swap 62 = .ok (.imul, 1) := by decide +kernel
theorem dX12_swap_63 : decode cX12_swap 63 = .ok (.iload 5, 2) := by decide +kernel
theorem dX12_swap_65 : decode cX12_swap 65 = .ok (.iadd, 1) := by decide +kernel
theorem dX12_swap_66 : decode cX12_swap 66 = .ok (.istore 6, 2) := by decide +kernel
theorem dX12_swap_68 : decode cX12_swap 68 = .ok (.aload_n 0, 1) := by decide +kernel
theorem dX12_swap_69 : decode cX12_swap 69 = .ok (.getfield 69, 3) := by decide +kernel
theorem dX12_swap_72 : decode cX12_swap 72 = .ok (.iload_n 2, 1) := by decide +kernel
theorem dX12_swap_73 : decode cX12_swap 73 = .ok (.iaload, 1) := by decide +kernel
theorem dX12_swap_74 : decode cX12_swap 74 = .ok (.bipush 40, 2) := by decide +kernel
theorem dX12_swap_76 : decode cX12_swap 76 = .ok (.if_icmp .ge 27, 3) := by decide +kernel
theorem dX12_swap_79 : decode cX12_swap 79 = .ok (.aload_n 0, 1) := by decide +kernel
theorem dX12_swap_80 : decode cX12_swap 80 = .ok (.getfield 75, 3) := by decide +kernel
theorem dX12_swap_83 : decode cX12_swap 83 = .ok (.iload 6, 2) := by decide +kernel
theorem dX12_swap_85 : decode cX12_swap 85 = .ok (.iaload, 1) := by decide +kernel
theorem dX12_swap_86 : decode cX12_swap 86 = .ok (.ifCond .ge 13, 3) := by decide +kernel
theorem dX12_swap_89 : decode cX12_swap 89 = .ok (.aload_n 0, 1) := by decide +kernel
theorem dX12_swap_90 : decode cX12_swap 90 = .ok (.iload_n 2, 1) := by decide +kernel
theorem dX12_swap_91 : decode cX12_swap 91 = .ok (.invokevirtual 295, 3) := by decide +kernel
theorem dX12_swap_94 : decode cX12_swap 94 = .ok (.bipush 6, 2) := by decide +kernel
theorem dX12_swap_96 : decode cX12_swap 96 = .ok (.if_icmp .ge 7, 3) := by decide +kernel
theorem dX12_swap_99 : decode cX12_swap 99 = .ok (.iconst 1, 1) := by decide +kernel
theorem dX12_swap_100 : decode cX12_swap 100 = .ok (.goto 4, 3) := by decide +kernel
theorem dX12_swap_103 : decode cX12_swap 103 = .ok (.iconst 0, 1) := by decide +kernel
theorem dX12_swap_104 : decode cX12_swap 104 = .ok (.istore 7, 2) := by decide +kernel
theorem dX12_swap_106 : decode cX12_swap 106 = .ok (.iload 7, 2) := by decide +kernel
theorem dX12_swap_108 : decode cX12_swap 108 = .ok (.ifCond .eq 43, 3) := by decide +kernel
theorem dX12_swap_111 : decode cX12_swap 111 = .ok (.aload_n 0, 1) := by decide +kernel
theorem dX12_swap_112 : decode cX12_swap 112 = .ok (.iload_n 2, 1) := by decide +kernel
theorem dX12_swap_113 : decode cX12_swap 113 = .ok (.iload 6, 2) := by decide +kernel
theorem dX12_swap_115 : decode cX12_swap 115 = .ok (.invokevirtual 405, 3) := by decide +kernel
theorem dX12_swap_118 : decode cX12_swap 118 = .ok (.ifCond .ne 33, 3) := by decide +kernel
theorem dX12_swap_121 : decode cX12_swap 121 = .ok (.aload_n 0, 1) := by decide +kernel
theorem dX12_swap_122 : decode cX12_swap 122 = .ok (.iload 6, 2) := by decide +kernel
theorem dX12_swap_124 : decode cX12_swap 124 = .ok (.bipush 40, 2) := by decide +kernel
theorem dX12_swap_126 : decode cX12_swap 126 = .ok (.iload_n 2, 1) := by decide +kernel
theorem dX12_swap_127 : decode cX12_swap 127 = .ok (.imul, 1) := by decide +kernel
theorem dX12_swap_128 : decode cX12_swap 128 = .ok (.aload_n 0, 1) := by decide +kernel
theorem dX12_swap_129 : decode cX12_swap 129 = .ok (.getfield 69, 3) := by decide +kernel
theorem dX12_swap_132 : decode cX12_swap 132 = .ok (.iload_n 2, 1) := by decide +kernel
theorem dX12_swap_133 : decode cX12_swap 133 = .ok (.iaload, 1) := by decide +kernel
theorem dX12_swap_134 : decode cX12_swap 134 = .ok (.iadd, 1) := by decide +kernel
theorem dX12_swap_135 : decode cX12_swap 135 = .ok (.invokevirtual 274, 3) := by decide +kernel
theorem dX12_swap_138 : decode cX12_swap 138 = .ok (.aload_n 0, 1) := by decide +kernel
theorem dX12_swap_139 : decode cX12_swap 139 = .ok (.getfield 69, 3) := by decide +kernel
theorem dX12_swap_142 : decode cX12_swap 142 = .ok (.iload_n 2, 1) := by decide +kernel
theorem dX12_swap_143 : decode cX12_swap 143 = .ok (.dup2, 1) := by decide +kernel
theorem dX12_swap_144 : decode cX12_swap 144 = .ok (.iaload, 1) := by decide +kernel
theorem dX12_swap_145 : decode cX12_swap 145 = .ok (.iconst 1, 1) := by decide +kernel
theorem dX12_swap_146 : decode cX12_swap 146 = .ok (.iadd, 1) := by decide +kernel
theorem dX12_swap_147 : decode cX12_swap 147 = .ok (.iastore, 1) := by decide +kernel
theorem dX12_swap_157 : decode cX12_swap 157 = .ok (.iload 4, 2) := by decide +kernel
theorem dX12_swap_159 : decode cX12_swap 159 = .ok (.ireturn, 1) := by decide +kernel
theorem dX12_takeNumber_0 : decode cX12_takeNumber 0 = .ok (.aload_n 0, 1) := by decide +kernel
theorem dX12_takeNumber_1 : decode cX12_takeNumber 1 = .ok (.getfield 162, 3) := by decide +kernel
theorem dX12_takeNumber_4 : decode cX12_takeNumber 4 = .ok (.ifCond .ne 24, 3) := by decide +kernel
theorem dX12_takeNumber_7 : decode cX12_takeNumber 7 = .ok (.aload_n 0, 1) := by decide +kernel
theorem dX12_takeNumber_8 : decode cX12_takeNumber 8 = .ok (.getfield 24, 3) := by decide +kernel
theorem dX12_takeNumber_11 : decode cX12_takeNumber 11 = .ok (.aload_n 0, 1) := by decide +kernel
theorem dX12_takeNumber_12 : decode cX12_takeNumber 12 = .ok (.getfield 159, 3) := by decide +kernel
theorem dX12_takeNumber_15 : decode cX12_takeNumber 15 = .ok (.iaload, 1) := by decide +kernel
theorem dX12_takeNumber_16 : decode cX12_takeNumber 16 = .ok (.iconst 2, 1) := by decide +kernel
theorem dX12_takeNumber_17 : decode cX12_takeNumber 17 = .ok (.if_icmp .eq 11, 3) := by decide +kernel
theorem dX12_takeNumber_20 : decode cX12_takeNumber 20 = .ok (.aload_n 0, 1) := by decide +kernel
theorem dX12_takeNumber_21 : decode cX12_takeNumber 21 = .ok (.iconst 1, 1) := by decide +kernel
theorem dX12_takeNumber_22 : decode cX12_takeNumber 22 = .ok (.invokevirtual 168, 3) := by decide +kernel
theorem dX12_takeNumber_25 : decode cX12_takeNumber 25 = .ok (.goto 45, 3) := by decide +kernel
theorem dX12_takeNumber_28 : decode cX12_takeNumber 28 = .ok (.aload_n 0, 1) := by decide +kernel
theorem dX12_takeNumber_29 : decode cX12_takeNumber 29 = .ok (.getfield 162, 3) := by decide +kernel
theorem dX12_takeNumber_32 : decode cX12_takeNumber 32 = .ok (.ifCond .ne 38, 3) := by decide +kernel
theorem dX12_takeNumber_35 : decode cX12_takeNumber 35 = .ok (.aload_n 0, 1) := by decide +kernel
theorem dX12_takeNumber_36 : decode cX12_takeNumber 36 = .ok (.getfield 30, 3) := by decide +kernel
theorem dX12_takeNumber_39 : decode cX12_takeNumber 39 = .ok (.aload_n 0, 1) := by decide +kernel
theorem dX12_takeNumber_40 : decode cX12_takeNumber 40 = .ok (.getfield 159, 3) := by decide +kernel
theorem dX12_takeNumber_43 : decode cX12_takeNumber 43 = .ok (.laload, 1) := by decide +kernel
theorem dX12_takeNumber_44 : decode cX12_takeNumber 44 = .ok (.iload_n 1, 1) := by decide +kernel
theorem dX12_takeNumber_45 : decode cX12_takeNumber 45 = .ok (.i2l, 1) := by decide +kernel
theorem dX12_takeNumber_46 : decode cX12_takeNumber 46 = .ok (.lcmp, 1) := by decide +kernel
theorem dX12_takeNumber_47 : decode cX12_takeNumber 47 = .ok (.ifCond .lt 18, 3) := by decide +kernel
theorem dX12_takeNumber_50 : decode cX12_takeNumber 50 = .ok (.aload_n 0, 1) := by decide +kernel
theorem dX12_takeNumber_51 : decode cX12_takeNumber 51 = .ok (.getfield 30, 3) := by decide +kernel
theorem dX12_takeNumber_54 : decode cX12_takeNumber 54 = .ok (.aload_n 0, 1) := by decide +kernel
theorem dX12_takeNumber_55 : decode cX12_takeNumber 55 = .ok (.getfield 159, 3) := by decide +kernel
theorem dX12_takeNumber_58 : decode cX12_takeNumber 58 = .ok (.laload, 1) := by decide +kernel
theorem dX12_takeNumber_59 : decode cX12_takeNumber 59 = .ok (.iload_n 2, 1) := by decide +kernel
theorem dX12_takeNumber_60 : decode cX12_takeNumber 60 = .ok (.i2l, 1) := by decide +kernel
theorem dX12_takeNumber_61 : decode cX12_takeNumber 61 = .ok (.lcmp, 1) := by decide +kernel
theorem dX12_takeNumber_62 : decode cX12_takeNumber 62 = .ok (.ifCond .le 8, 3) := by decide +kernel
theorem dX12_takeNumber_70 : decode cX12_takeNumber 70 = .ok (.aload_n 0, 1) := by decide +kernel
theorem dX12_takeNumber_71 : decode cX12_takeNumber 71 = .ok (.getfield 162, 3) := by decide +kernel
theorem dX12_takeNumber_74 : decode cX12_takeNumber 74 = .ok (.ifCond .le 5, 3) := by decide +kernel
theorem dX12_takeNumber_79 : decode cX12_takeNumber 79 = .ok (.aload_n 0, 1) := by decide +kernel
theorem dX12_takeNumber_80 : decode cX12_takeNumber 80 = .ok (.dup, 1) := by decide +kernel
theorem dX12_takeNumber_81 : decode cX12_takeNumber 81 = .ok (.getfield 159, 3) := by decide +kernel
theorem dX12_takeNumber_84 : decode cX12_takeNumber 84 = .ok (.iconst 1, 1) := by decide +kernel
theorem dX12_takeNumber_85 : decode cX12_takeNumber 85 = .ok (.iadd, 1) := by decide +kernel
theorem dX12_takeNumber_86 : decode cX12_takeNumber 86 = .ok (.putfield 159, 3) := by decide +kernel
theorem dX12_takeSign_0 : decode cX12_takeSign 0 = .ok (.aload_n 0, 1) := by decide +kernel
theorem dX12_takeSign_1 : decode cX12_takeSign 1 = .ok (.iload_n 1, 1) := by decide +kernel
theorem dX12_takeSign_2 : decode cX12_takeSign 2 = .ok (.invokevirtual 165, 3) := by decide +kernel
theorem dX12_takeSign_5 : decode cX12_takeSign 5 = .ok (.ifCond .eq 16, 3) := by decide +kernel
theorem dX12_takeSign_8 : decode cX12_takeSign 8 = .ok (.aload_n 0, 1) := by decide +kernel
theorem dX12_takeSign_9 : decode cX12_takeSign 9 = .ok (.dup, 1) := by decide +kernel
theorem dX12_takeSign_10 : decode cX12_takeSign 10 = .ok (.getfield 159, 3) := by decide +kernel
theorem dX12_takeSign_13 : decode cX12_takeSign 13 = .ok (.iconst 1, 1) := by decide +kernel
theorem dX12_takeSign_14 : decode cX12_takeSign 14 = .ok (.iadd, 1) := by decide +kernel
theorem dX12_takeSign_15 : decode cX12_takeSign 15 = .ok (.putfield 159, 3) := by decide +kernel
theorem dX12_takeSign_21 : decode cX12_takeSign 21 = .ok (.aload_n 0, 1) := by decide +kernel
theorem dX12_takeSign_22 : decode cX12_takeSign 22 = .ok (.iconst 1, 1) := by decide +kernel
theorem dX12_takeSign_23 : decode cX12_takeSign 23 = .ok (.invokevirtual 168, 3) := by decide +kernel
theorem dX12_takeSign_26 : decode cX12_takeSign 26 = .ok (.return_, 1) := by decide +kernel
theorem dX12_tocome_0 : decode cX12_tocome 0 = .ok (.aload_n 0, 1) := by decide +kernel
theorem dX12_tocome_1 : decode cX12_tocome 1 = .ok (.iconst 0, 1) := by decide +kernel
theorem dX12_tocome_2 : decode cX12_tocome 2 = .ok (.putfield 1, 3) := by decide +kernel
theorem dX12_tocome_5 : decode cX12_tocome 5 = .ok (.iload_n 1, 1) := by decide +kernel
theorem dX12_tocome_6 : decode cX12_tocome 6 = .ok (.invokestatic 278, 3) := by decide +kernel
theorem dX12_tocome_9 : decode cX12_tocome 9 = .ok (.ifCond .eq 20, 3) := by decide +kernel
theorem dX12_tocome_12 : decode cX12_tocome 12 = .ok (.aload_n 0, 1) := by decide +kernel
theorem dX12_tocome_13 : decode cX12_tocome 13 = .ok (.iload_n 2, 1) := by decide +kernel
theorem dX12_tocome_14 : decode cX12_tocome 14 = .ok (.invokevirtual 192, 3) := by decide +kernel
theorem dX12_tocome_17 : decode cX12_tocome 17 = .ok (.ifCond .eq 12, 3) := by decide +kernel
theorem dX12_tocome_20 : decode cX12_tocome 20 = .ok (.iload_n 3, 1) := by decide +kernel
theorem dX12_tocome_21 : decode cX12_tocome 21 = .ok (.iconst 0, 1) := by decide +kernel
theorem dX12_tocome_22 : decode cX12_tocome 22 = .ok (.iconst 1, 1) := by decide +kernel
theorem dX12_tocome_23 : decode cX12_tocome 23 = .ok (.invokestatic 178, 3) := by decide +kernel
theorem dX12_tocome_26 : decode cX12_tocome 26 = .ok (.ifCond .ne 5, 3) := by decide +kernel
theorem dX12_tocome_29 : decode cX12_tocome 29 = .ok (.iconst (-1), 1) := by decide +kernel
theorem dX12_tocome_30 : decode cX12_tocome 30 = .ok (.ireturn, 1) := by decide +kernel
theorem dX12_tocome_31 : decode cX12_tocome 31 = .ok (.aload_n 0, 1) := by decide +kernel
theorem dX12_tocome_32 : decode cX12_tocome 32 = .ok (.invokevirtual 336, 3) := by decide +kernel
theorem dX12_tocome_35 : decode cX12_tocome 35 = .ok (.iconst (-1), 1) := by decide +kernel
theorem dX12_tocome_36 : decode cX12_tocome 36 = .ok (.istore 4, 2) := by decide +kernel
theorem dX12_tocome_38 : decode cX12_tocome 38 = .ok (.iconst 0, 1) := by decide +kernel
theorem dX12_tocome_39 : decode cX12_tocome 39 = .ok (.istore 5, 2) := by decide +kernel
theorem dX12_tocome_41 : decode cX12_tocome 41 = .ok (.iload 5, 2) := by decide +kernel
theorem dX12_tocome_43 : decode cX12_tocome 43 = .ok (.sipush 2048, 3) := by decide +kernel
theorem dX12_tocome_46 : decode cX12_tocome 46 = .ok (.if_icmp .ge 47, 3) := by decide +kernel
theorem dX12_tocome_49 : decode cX12_tocome 49 = .ok (.iload 4, 2) := by decide +kernel
theorem dX12_tocome_51 : decode cX12_tocome 51 = .ok (.ifCond .lt 16, 3) := by decide +kernel
theorem dX12_tocome_67 : decode cX12_tocome 67 = .ok (.aload_n 0, 1) := by decide +kernel
theorem dX12_tocome_68 : decode cX12_tocome 68 = .ok (.iload_n 1, 1) := by decide +kernel
theorem dX12_tocome_69 : decode cX12_tocome 69 = .ok (.iload_n 2, 1) := by decide +kernel
theorem dX12_tocome_70 : decode cX12_tocome 70 = .ok (.iload 5, 2) := by decide +kernel
theorem dX12_tocome_72 : decode cX12_tocome 72 = .ok (.invokevirtual 374, 3) := by decide +kernel
theorem dX12_told_0 : decode cX12_told 0 = .ok (.aload_n 0, 1) := by decide +kernel
theorem dX12_told_1 : decode cX12_told 1 = .ok (.iconst 0, 1) := by decide +kernel
theorem dX12_told_2 : decode cX12_told 2 = .ok (.putfield 1, 3) := by decide +kernel
theorem dX12_told_5 : decode cX12_told 5 = .ok (.aload_n 0, 1) := by decide +kernel
theorem dX12_told_6 : decode cX12_told 6 = .ok (.iload_n 1, 1) := by decide +kernel
theorem dX12_told_7 : decode cX12_told 7 = .ok (.invokevirtual 192, 3) := by decide +kernel
theorem dX12_told_10 : decode cX12_told 10 = .ok (.ifCond .eq 27, 3) := by decide +kernel
theorem dX12_told_13 : decode cX12_told 13 = .ok (.iload_n 2, 1) := by decide +kernel
theorem dX12_told_14 : decode cX12_told 14 = .ok (.iconst 0, 1) := by decide +kernel
theorem dX12_told_15 : decode cX12_told 15 = .ok (.aload_n 0, 1) := by decide +kernel
theorem dX12_told_16 : decode cX12_told 16 = .ok (.iload_n 1, 1) := by decide +kernel
theorem dX12_told_17 : decode cX12_told 17 = .ok (.invokevirtual 238, 3) := by decide +kernel
theorem dX12_told_20 : decode cX12_told 20 = .ok (.iconst 1, 1) := by decide +kernel
theorem dX12_told_21 : decode cX12_told 21 = .ok (.isub, 1) := by decide +kernel
theorem dX12_told_22 : decode cX12_told 22 = .ok (.invokestatic 178, 3) := by decide +kernel
theorem dX12_told_25 : decode cX12_told 25 = .ok (.ifCond .eq 12, 3) := by decide +kernel
theorem dX12_told_28 : decode cX12_told 28 = .ok (.aload_n 0, 1) := by decide +kernel
theorem dX12_told_29 : decode cX12_told 29 = .ok (.iload_n 1, 1) := by decide +kernel
theorem dX12_told_30 : decode cX12_told 30 = .ok (.iload_n 2, 1) := by decide +kernel
theorem dX12_told_31 : decode cX12_told 31 = .ok (.invokevirtual 271, 3) := by decide +kernel
theorem dX12_valueOf_0 : decode cX12_valueOf 0 = .ok (.iload_n 2, 1) := by decide +kernel
theorem dX12_valueOf_1 : decode cX12_valueOf 1 = .ok (.aload_n 0, 1) := by decide +kernel
theorem dX12_valueOf_2 : decode cX12_valueOf 2 = .ok (.getfield 45, 3) := by decide +kernel
theorem dX12_valueOf_5 : decode cX12_valueOf 5 = .ok (.iload_n 1, 1) := by decide +kernel
theorem dX12_valueOf_6 : decode cX12_valueOf 6 = .ok (.iaload, 1) := by decide +kernel
theorem dX12_town_0 : decode cX12_town 0 = .ok (.aload_n 0, 1) := by decide +kernel
theorem dX12_town_1 : decode cX12_town 1 = .ok (.iconst 0, 1) := by decide +kernel
theorem dX12_town_2 : decode cX12_town 2 = .ok (.putfield 1, 3) := by decide +kernel
theorem dX12_town_5 : decode cX12_town 5 = .ok (.aload_n 0, 1) := by decide +kernel
theorem dX12_town_6 : decode cX12_town 6 = .ok (.iload_n 1, 1) := by decide +kernel
theorem dX12_town_7 : decode cX12_town 7 = .ok (.invokevirtual 192, 3) := by decide +kernel
theorem dX12_town_10 : decode cX12_town 10 = .ok (.ifCond .eq 13, 3) := by decide +kernel
theorem dX12_town_13 : decode cX12_town 13 = .ok (.iload_n 2, 1) := by decide +kernel
theorem dX12_town_14 : decode cX12_town 14 = .ok (.iconst 0, 1) := by decide +kernel
theorem dX12_town_15 : decode cX12_town 15 = .ok (.bipush 100, 2) := by decide +kernel
theorem dX12_town_17 : decode cX12_town 17 = .ok (.invokestatic 178, 3) := by decide +kernel
theorem dX12_town_20 : decode cX12_town 20 = .ok (.ifCond .ne 5, 3) := by decide +kernel
theorem dX12_town_23 : decode cX12_town 23 = .ok (.iconst (-1), 1) := by decide +kernel
theorem dX12_town_24 : decode cX12_town 24 = .ok (.ireturn, 1) := by decide +kernel
theorem dX12_town_25 : decode cX12_town 25 = .ok (.iconst 0, 1) := by decide +kernel
theorem dX12_town_26 : decode cX12_town 26 = .ok (.istore_n 3, 1) := by decide +kernel
theorem dX12_town_27 : decode cX12_town 27 = .ok (.iload_n 3, 1) := by decide +kernel
theorem dX12_town_28 : decode cX12_town 28 = .ok (.iconst 4, 1) := by decide +kernel
theorem dX12_town_29 : decode cX12_town 29 = .ok (.if_icmp .ge 21, 3) := by decide +kernel
theorem dX12_town_32 : decode cX12_town 32 = .ok (.aload_n 0, 1) := by decide +kernel
theorem dX12_town_33 : decode cX12_town 33 = .ok (.getfield 133, 3) := by decide +kernel
theorem dX12_town_36 : decode cX12_town 36 = .ok (.iload_n 3, 1) := by decide +kernel
theorem dX12_town_37 : decode cX12_town 37 = .ok (.aload_n 0, 1) := by decide +kernel
theorem dX12_town_38 : decode cX12_town 38 = .ok (.iload_n 3, 1) := by decide +kernel
theorem dX12_town_39 : decode cX12_town 39 = .ok (.iload_n 1, 1) := by decide +kernel
theorem dX12_town_40 : decode cX12_town 40 = .ok (.invokevirtual 408, 3) := by decide +kernel
theorem dX12_unknownOf_0 : decode cX12_unknownOf 0 = .ok (.bipush 40, 2) := by decide +kernel
theorem dX12_unknownOf_2 : decode cX12_unknownOf 2 = .ok (.iload_n 1, 1) := by decide +kernel
theorem dX12_unknownOf_3 : decode cX12_unknownOf 3 = .ok (.imul, 1) := by decide +kernel
theorem dX12_unknownOf_4 : decode cX12_unknownOf 4 = .ok (.iload_n 2, 1) := by decide +kernel
theorem dX12_unknownOf_5 : decode cX12_unknownOf 5 = .ok (.iadd, 1) := by decide +kernel
theorem dX12_unknownOf_6 : decode cX12_unknownOf 6 = .ok (.istore_n 3, 1) := by decide +kernel
theorem dX12_unknownOf_7 : decode cX12_unknownOf 7 = .ok (.aload_n 0, 1) := by decide +kernel
theorem dX12_unknownOf_8 : decode cX12_unknownOf 8 = .ok (.getfield 75, 3) := by decide +kernel
theorem dX12_unknownOf_11 : decode cX12_unknownOf 11 = .ok (.iload_n 3, 1) := by decide +kernel
theorem dX12_unknownOf_12 : decode cX12_unknownOf 12 = .ok (.iaload, 1) := by decide +kernel
theorem dX12_weightOf_0 : decode cX12_weightOf 0 = .ok (.iload_n 2, 1) := by decide +kernel
theorem dX12_weightOf_1 : decode cX12_weightOf 1 = .ok (.aload_n 0, 1) := by decide +kernel
theorem dX12_weightOf_2 : decode cX12_weightOf 2 = .ok (.getfield 54, 3) := by decide +kernel
theorem dX12_weightOf_5 : decode cX12_weightOf 5 = .ok (.iload_n 1, 1) := by decide +kernel
theorem dX12_weightOf_6 : decode cX12_weightOf 6 = .ok (.iaload, 1) := by decide +kernel
theorem dX12_weightOf_7 : decode cX12_weightOf 7 = .ok (.if_icmp .ge 12, 3) := by decide +kernel
theorem dX12_weightOf_10 : decode cX12_weightOf 10 = .ok (.aload_n 0, 1) := by decide +kernel
theorem dX12_weightOf_11 : decode cX12_weightOf 11 = .ok (.getfield 57, 3) := by decide +kernel
theorem dX12_weightOf_14 : decode cX12_weightOf 14 = .ok (.iload_n 1, 1) := by decide +kernel
theorem dX12_weightOf_15 : decode cX12_weightOf 15 = .ok (.iaload, 1) := by decide +kernel
theorem dX12_weightOf_16 : decode cX12_weightOf 16 = .ok (.goto 4, 3) := by decide +kernel
theorem dX12_weightOf_19 : decode cX12_weightOf 19 = .ok (.iconst 1, 1) := by decide +kernel
theorem dX12_weightOf_20 : decode cX12_weightOf 20 = .ok (.ireturn, 1) := by decide +kernel
set_option maxHeartbeats 4000000 in
set_option maxRecDepth 100000 in
theorem s_X12_weightOf {P : PP} {a0 : Nat} {a1 : Int32} {a2 : Int32} (I : IM P a0) (ha1 : 0 ≤ a1.toInt ∧ a1.toInt ≤ 1) : CtrI yX12_weightOf cX12_weightOf 3 (some Jvm.ClassFile.FieldType.int) ({ frames := 1, cells := 0, slots := 0, locals := 64 } : Room) 0 0 P [.ref a0, .int a1, .int a2] (fun r P2 => P = P2 ∧ (0 ≤ r.toInt ∧ r.toInt ≤ 9)) := by
  refine enI (lv := [(0, .ref a0), (1, .int a1), (2, .int a2)]) (by decide) (Nat.le_of_ble_eq_true rfl) rfl (fun E D cy C Ci0 ret => ?_)
  have ha0 := I.2.1
  refine g_iload_n C dX12_weightOf_0 rfl 2 rfl ?_
  refine g_aload_n C dX12_weightOf_1 rfl 0 rfl ?_
  obtain ⟨b23136, e23137, h23138⟩ := I.fld (ha0) 13 13 3 rfl
  refine g_getR C fi_X12_54 rfl e23137 (ha0).1 (ha0).2 dX12_weightOf_2 ?_
  refine g_iload_n C dX12_weightOf_5 rfl 1 rfl ?_
  refine g_iald (j := (a1.toInt.toNat)) C h23138.1 h23138.2.1 (ix_in h23138.2.2 (by omega)) dX12_weightOf_6 ?_
  have u23140 := ti_rng a2
  have u23141 := ti_rng (pI P b23136 (a1.toInt.toNat))
  refine b_icmp_ge C 19 dX12_weightOf_7 (by decide) (fun h23139 => ?_) (fun h23139 => ?_)
  · have h23139 : (pI P b23136 (a1.toInt.toNat)).toInt ≤ a2.toInt := h23139
    refine g_iconst (v := 1) C dX12_weightOf_19 (by decide) ?_
    exact ret _ _ _ _ _ _ dX12_weightOf_20 rfl (by decide) (by decide) ⟨rfl, (by decide)⟩
  · have h23139 : a2.toInt < (pI P b23136 (a1.toInt.toNat)).toInt := h23139
    refine g_aload_n C dX12_weightOf_10 rfl 0 rfl ?_
    obtain ⟨b23142, e23143, h23144⟩ := I.fld (ha0) 14 13 3 rfl
    refine g_getR C fi_X12_57 rfl e23143 (ha0).1 (ha0).2 dX12_weightOf_11 ?_
    refine g_iload_n C dX12_weightOf_14 rfl 1 rfl ?_
    refine g_iald (j := (a1.toInt.toNat)) C h23144.1 h23144.2.1 (ix_in h23144.2.2 (by omega)) dX12_weightOf_15 ?_
    have h23145 := I.arr e23143 rfl (a1.toInt.toNat)
    refine g_goto C 20 dX12_weightOf_16 (by decide) ?_
    exact ret _ _ _ _ _ _ dX12_weightOf_20 rfl (by decide) (by decide) ⟨rfl, (by omega)⟩
