theorem dX12_comes_74 : decode cX12_comes 74 = .ok (.iload 4, 2) := by decide +kernel
theorem dX12_comes_76 : decode cX12_comes 76 = .ok (.aload_n 0, 1) := by decide +kernel
theorem dX12_comes_77 : decode cX12_comes 77 = .ok (.iload_n 2, 1) := by decide +kernel
theorem dX12_comes_78 : decode cX12_comes 78 = .ok (.iload_n 3, 1) := by decide +kernel
theorem dX12_comes_79 : decode cX12_comes 79 = .ok (.iload 5, 2) := by decide +kernel
theorem dX12_comes_81 : decode cX12_comes 81 = .ok (.invokevirtual 267, 3) := by decide +kernel
theorem dX12_sealOf_0 : decode cX12_sealOf 0 = .ok (.aload_n 0, 1) := by decide +kernel
theorem dX12_sealOf_1 : decode cX12_sealOf 1 = .ok (.getfield 66, 3) := by decide +kernel
theorem dX12_sealOf_4 : decode cX12_sealOf 4 = .ok (.iload_n 1, 1) := by decide +kernel
theorem dX12_sealOf_5 : decode cX12_sealOf 5 = .ok (.iaload, 1) := by decide +kernel
theorem dX12_sealOf_6 : decode cX12_sealOf 6 = .ok (.ifCond .ne 7, 3) := by decide +kernel
theorem dX12_sealOf_9 : decode cX12_sealOf 9 = .ok (.iconst 0, 1) := by decide +kernel
theorem dX12_sealOf_10 : decode cX12_sealOf 10 = .ok (.goto 22, 3) := by decide +kernel
theorem dX12_sealOf_13 : decode cX12_sealOf 13 = .ok (.iload_n 2, 1) := by decide +kernel
theorem dX12_sealOf_14 : decode cX12_sealOf 14 = .ok (.iconst 1, 1) := by decide +kernel
theorem dX12_sealOf_15 : decode cX12_sealOf 15 = .ok (.iadd, 1) := by decide +kernel
theorem dX12_sealOf_16 : decode cX12_sealOf 16 = .ok (.aload_n 0, 1) := by decide +kernel
theorem dX12_sealOf_17 : decode cX12_sealOf 17 = .ok (.getfield 66, 3) := by decide +kernel
theorem dX12_sealOf_20 : decode cX12_sealOf 20 = .ok (.iload_n 1, 1) := by decide +kernel
theorem dX12_sealOf_21 : decode cX12_sealOf 21 = .ok (.iaload, 1) := by decide +kernel
theorem dX12_sealOf_22 : decode cX12_sealOf 22 = .ok (.imul, 1) := by decide +kernel
theorem dX12_sealOf_23 : decode cX12_sealOf 23 = .ok (.bipush 31, 2) := by decide +kernel
theorem dX12_sealOf_25 : decode cX12_sealOf 25 = .ok (.iload_n 3, 1) := by decide +kernel
theorem dX12_sealOf_26 : decode cX12_sealOf 26 = .ok (.imul, 1) := by decide +kernel
theorem dX12_sealOf_27 : decode cX12_sealOf 27 = .ok (.iadd, 1) := by decide +kernel
theorem dX12_sealOf_28 : decode cX12_sealOf 28 = .ok (.sipush 997, 3) := by decide +kernel
theorem dX12_sealOf_31 : decode cX12_sealOf 31 = .ok (.irem, 1) := by decide +kernel
theorem dX12_sealOf_32 : decode cX12_sealOf 32 = .ok (.ireturn, 1) := by decide +kernel
set_option maxHeartbeats 4000000 in
set_option maxRecDepth 100000 in
theorem s_X12_sealOf {P : PP} {a0 : Nat} {a1 : Int32} {a2 : Int32} {a3 : Int32} (I : IM P a0) (ha1 : 0 ≤ a1.toInt ∧ a1.toInt ≤ 1) (hW : MW P a0) : CtrI yX12_sealOf cX12_sealOf 4 (some Jvm.ClassFile.FieldType.int) ({ frames := 1, cells := 0, slots := 0, locals := 64 } : Room) 0 0 P [.ref a0, .int a1, .int a2, .int a3] (fun r P2 => P = P2 ∧ (-996 ≤ r.toInt ∧ r.toInt ≤ 996)) := by
  refine enI (lv := [(0, .ref a0), (1, .int a1), (2, .int a2), (3, .int a3)]) (by decide) (Nat.le_of_ble_eq_true rfl) rfl (fun E D cy C Ci0 ret => ?_)
  have ha0 := I.2.1
  refine g_aload_n C dX12_sealOf_0 rfl 0 rfl ?_
  obtain ⟨b33526, e33527, h33528⟩ := I.fld (ha0) 17 13 3 rfl
  refine g_getR C fi_X12_66 rfl e33527 (ha0).1 (ha0).2 dX12_sealOf_1 ?_
  refine g_iload_n C dX12_sealOf_4 rfl 1 rfl ?_
  refine g_iald (j := (a1.toInt.toNat)) C h33528.1 h33528.2.1 (ix_in h33528.2.2 (by omega)) dX12_sealOf_5 ?_
  have u33530 := ti_rng (pI P b33526 (a1.toInt.toNat))
  refine b_if_ne C 13 dX12_sealOf_6 (by decide) (fun h33529 => ?_) (fun h33529 => ?_)
  · have h33529 : (pI P b33526 (a1.toInt.toNat)).toInt ≠ 0 := ti_ne h33529
    refine g_iload_n C dX12_sealOf_13 rfl 2 rfl ?_
    refine g_iconst (v := 1) C dX12_sealOf_14 (by decide) ?_
    refine a_iadd C dX12_sealOf_15 (fun z33531 => ?_)
    refine g_aload_n C dX12_sealOf_16 rfl 0 rfl ?_
    refine g_getR C fi_X12_66 rfl e33527 (ha0).1 (ha0).2 dX12_sealOf_17 ?_
    refine g_iload_n C dX12_sealOf_20 rfl 1 rfl ?_
    refine g_iald (j := (a1.toInt.toNat)) C h33528.1 h33528.2.1 (ix_in h33528.2.2 (by omega)) dX12_sealOf_21 ?_
    refine a_imul C dX12_sealOf_22 (fun z33533 => ?_)
    refine g_bipush (v := 31) C dX12_sealOf_23 (by decide) ?_
    refine g_iload_n C dX12_sealOf_25 rfl 3 rfl ?_
    refine a_imul C dX12_sealOf_26 (fun z33535 => ?_)
    refine a_iadd C dX12_sealOf_27 (fun z33537 => ?_)
    refine g_sipush (v := 997) C dX12_sealOf_28 (by decide) ?_
    refine s_irem C dX12_sealOf_31 (by show 0 < 997; omega) (fun z33539 h33540 => ?_)
    have h33540 : -997 < z33539.toInt ∧ z33539.toInt < 997 := h33540
    exact ret _ _ _ _ _ _ dX12_sealOf_32 rfl (by decide) (by decide) ⟨rfl, (by omega)⟩
  · have h33529 : (pI P b33526 (a1.toInt.toNat)).toInt = 0 := congrArg Int32.toInt h33529
    refine g_iconst (v := 0) C dX12_sealOf_9 (by decide) ?_
    refine g_goto C 32 dX12_sealOf_10 (by decide) ?_
    exact ret _ _ _ _ _ _ dX12_sealOf_32 rfl (by decide) (by decide) ⟨rfl, (by decide)⟩
theorem dX12_comes_84 : decode cX12_comes 84 = .ok (.invokevirtual 284, 3) := by decide +kernel
theorem dX12_lays_0 : decode cX12_lays 0 = .ok (.bipush 40, 2) := by decide +kernel
theorem dX12_lays_2 : decode cX12_lays 2 = .ok (.iload_n 1, 1) := by decide +kernel
theorem dX12_lays_3 : decode cX12_lays 3 = .ok (.imul, 1) := by decide +kernel
theorem dX12_lays_4 : decode cX12_lays 4 = .ok (.aload_n 0, 1) := by decide +kernel
theorem dX12_lays_5 : decode cX12_lays 5 = .ok (.getfield 69, 3) := by decide +kernel
theorem dX12_lays_8 : decode cX12_lays 8 = .ok (.iload_n 1, 1) := by decide +kernel
theorem dX12_lays_9 : decode cX12_lays 9 = .ok (.iaload, 1) := by decide +kernel
theorem dX12_lays_10 : decode cX12_lays 10 = .ok (.iadd, 1) := by decide +kernel
theorem dX12_lays_11 : decode cX12_lays 11 = .ok (.istore 7, 2) := by decide +kernel
theorem dX12_lays_13 : decode cX12_lays 13 = .ok (.aload_n 0, 1) := by decide +kernel
theorem dX12_lays_14 : decode cX12_lays 14 = .ok (.getfield 72, 3) := by decide +kernel
theorem dX12_lays_17 : decode cX12_lays 17 = .ok (.iload 7, 2) := by decide +kernel
theorem dX12_lays_19 : decode cX12_lays 19 = .ok (.iload_n 3, 1) := by decide +kernel
theorem dX12_lays_20 : decode cX12_lays 20 = .ok (.iastore, 1) := by decide +kernel
theorem dX12_lays_21 : decode cX12_lays 21 = .ok (.aload_n 0, 1) := by decide +kernel
theorem dX12_lays_22 : decode cX12_lays 22 = .ok (.getfield 75, 3) := by decide +kernel
theorem dX12_lays_25 : decode cX12_lays 25 = .ok (.iload 7, 2) := by decide +kernel
theorem dX12_lays_27 : decode cX12_lays 27 = .ok (.iload_n 2, 1) := by decide +kernel
theorem dX12_lays_28 : decode cX12_lays 28 = .ok (.iastore, 1) := by decide +kernel
theorem dX12_lays_29 : decode cX12_lays 29 = .ok (.aload_n 0, 1) := by decide +kernel
theorem dX12_lays_30 : decode cX12_lays 30 = .ok (.getfield 78, 3) := by decide +kernel
theorem dX12_lays_33 : decode cX12_lays 33 = .ok (.iload 7, 2) := by decide +kernel
theorem dX12_lays_35 : decode cX12_lays 35 = .ok (.iload 4, 2) := by decide +kernel
theorem dX12_lays_37 : decode cX12_lays 37 = .ok (.iastore, 1) := by decide +kernel
theorem dX12_lays_38 : decode cX12_lays 38 = .ok (.aload_n 0, 1) := by decide +kernel
theorem dX12_lays_39 : decode cX12_lays 39 = .ok (.getfield 81, 3) := by decide +kernel
theorem dX12_lays_42 : decode cX12_lays 42 = .ok (.iload 7, 2) := by decide +kernel
theorem dX12_lays_44 : decode cX12_lays 44 = .ok (.iload 5, 2) := by decide +kernel
theorem dX12_lays_46 : decode cX12_lays 46 = .ok (.iastore, 1) := by decide +kernel
theorem dX12_lays_47 : decode cX12_lays 47 = .ok (.aload_n 0, 1) := by decide +kernel
theorem dX12_lays_48 : decode cX12_lays 48 = .ok (.getfield 84, 3) := by decide +kernel
theorem dX12_lays_51 : decode cX12_lays 51 = .ok (.iload 7, 2) := by decide +kernel
theorem dX12_lays_53 : decode cX12_lays 53 = .ok (.iload 6, 2) := by decide +kernel
theorem dX12_lays_55 : decode cX12_lays 55 = .ok (.iastore, 1) := by decide +kernel
theorem dX12_lays_56 : decode cX12_lays 56 = .ok (.aload_n 0, 1) := by decide +kernel
theorem dX12_lays_57 : decode cX12_lays 57 = .ok (.getfield 69, 3) := by decide +kernel
theorem dX12_lays_60 : decode cX12_lays 60 = .ok (.iload_n 1, 1) := by decide +kernel
theorem dX12_lays_61 : decode cX12_lays 61 = .ok (.dup2, 1) := by decide +kernel
theorem dX12_lays_62 : decode cX12_lays 62 = .ok (.iaload, 1) := by decide +kernel
theorem dX12_lays_63 : decode cX12_lays 63 = .ok (.iconst 1, 1) := by decide +kernel
theorem dX12_lays_64 : decode cX12_lays 64 = .ok (.iadd, 1) := by decide +kernel
theorem dX12_lays_65 : decode cX12_lays 65 = .ok (.iastore, 1) := by decide +kernel
theorem dX12_lays_66 : decode cX12_lays 66 = .ok (.aload_n 0, 1) := by decide +kernel
theorem dX12_lays_67 : decode cX12_lays 67 = .ok (.getfield 69, 3) := by decide +kernel
theorem dX12_lays_70 : decode cX12_lays 70 = .ok (.iload_n 1, 1) := by decide +kernel
theorem dX12_lays_71 : decode cX12_lays 71 = .ok (.iaload, 1) := by decide +kernel
theorem dX12_lays_72 : decode cX12_lays 72 = .ok (.iconst 1, 1) := by decide +kernel
theorem dX12_lays_73 : decode cX12_lays 73 = .ok (.isub, 1) := by decide +kernel
theorem dX12_lays_74 : decode cX12_lays 74 = .ok (.ireturn, 1) := by decide +kernel
set_option maxHeartbeats 4000000 in
set_option maxRecDepth 100000 in
theorem s_X12_lays {P : PP} {a0 : Nat} {a1 : Int32} {a2 : Int32} {a3 : Int32} {a4 : Int32} {a5 : Int32} {a6 : Int32} (I : IM P a0) (ha1 : 0 ≤ a1.toInt ∧ a1.toInt ≤ 3) (ha2 : -1 ≤ a2.toInt ∧ a2.toInt ≤ 1) (hf0 : ∀ b, pR P a0 20 = some b → 0 ≤ (pI P b (a1.toInt.toNat)).toInt ∧ (pI P b (a1.toInt.toNat)).toInt ≤ 39) (hW : MW P a0) (hl : ∀ c, pR P a0 10 = some c → 0 ≤ a2.toInt → 0 < (pI P c (a2.toInt.toNat)).toInt) : CtrI yX12_lays cX12_lays 8 (some Jvm.ClassFile.FieldType.int) ({ frames := 1, cells := 0, slots := 0, locals := 64 } : Room) 0 0 P [.ref a0, .int a1, .int a2, .int a3, .int a4, .int a5, .int a6] (fun r P2 => IM P2 a0 ∧ EM [20, 21, 22, 23, 24, 25] a0 P P2 ∧ MW P2 a0 ∧ (∀ b, pR P a0 20 = some b → (pI P2 b (a1.toInt.toNat)).toInt = (pI P b (a1.toInt.toNat)).toInt + 1) ∧ (0 ≤ r.toInt ∧ r.toInt ≤ 39)) := by
  refine enI (lv := [(0, .ref a0), (1, .int a1), (2, .int a2), (3, .int a3), (4, .int a4), (5, .int a5), (6, .int a6)]) (by decide) (Nat.le_of_ble_eq_true rfl) rfl (fun E D cy C Ci0 ret => ?_)
  have ha0 := I.2.1
  obtain ⟨b33742, e33743, h33744⟩ := I.fld (ha0) 20 13 20 rfl
  have hf0 := hf0 b33742 e33743
  refine g_bipush (v := 40) C dX12_lays_0 (by decide) ?_
  refine g_iload_n C dX12_lays_2 rfl 1 rfl ?_
  refine s_imul C dX12_lays_3 (by show -2147483648 ≤ 40 * a1.toInt ∧ 40 * a1.toInt ≤ 2147483647; omega) (fun z33745 h33746 => ?_)
  have h33746 : z33745.toInt = 40 * a1.toInt := h33746
  refine g_aload_n C dX12_lays_4 rfl 0 rfl ?_
  refine g_getR C fi_X12_69 rfl e33743 (ha0).1 (ha0).2 dX12_lays_5 ?_
  refine g_iload_n C dX12_lays_8 rfl 1 rfl ?_
  refine g_iald (j := (a1.toInt.toNat)) C h33744.1 h33744.2.1 (ix_in h33744.2.2 (by omega)) dX12_lays_9 ?_
  refine s_iadd C dX12_lays_10 (by show -2147483648 ≤ z33745.toInt + (pI P b33742 (a1.toInt.toNat)).toInt ∧ z33745.toInt + (pI P b33742 (a1.toInt.toNat)).toInt ≤ 2147483647; omega) (fun z33747 h33748 => ?_)
  have h33748 : z33747.toInt = z33745.toInt + (pI P b33742 (a1.toInt.toNat)).toInt := h33748
  refine g_istore (lv' := [(7, .int z33747), (0, .ref a0), (1, .int a1), (2, .int a2), (3, .int a3), (4, .int a4), (5, .int a5), (6, .int a6)]) C dX12_lays_11 (by decide) rfl ?_
  refine g_aload_n C dX12_lays_13 rfl 1 rfl ?_
  obtain ⟨b33749, e33750, h33751⟩ := I.fld (ha0) 21 13 800 rfl
  refine g_getR C fi_X12_72 rfl e33750 (ha0).1 (ha0).2 dX12_lays_14 ?_
  refine g_iload C dX12_lays_17 0 rfl ?_
  refine g_iload_n C dX12_lays_19 rfl 4 rfl ?_
  refine g_iast (j := (z33747.toInt.toNat)) C h33751.1 h33751.2.1 (ix_in h33751.2.2 (by omega)) dX12_lays_20 ?_
  refine gqW (ks := [21]) (I.setA e33750 h33751 (by decide) (arOk.none rfl)) (EM.setA I e33750 rfl (by decide)) (fun Y33752 Iy33753 Xy33754 w33755 => ?_)
  have w33755 : (pI Y33752 b33749 (z33747.toInt.toNat)).toInt = a3.toInt := w33755
  have q33756 := Xy33754.keepA e33743 (by decide) rfl (a1.toInt.toNat)
  have W33757 := hW.keep I Xy33754 (by decide) (by decide) (by decide)
  have Xz33758 : EM [20, 21, 22, 23, 24, 25] a0 P Y33752 := Xy33754.mono (by decide)
  have e33759 := Xy33754.ref ha0 (by decide) e33743
  have e33760 := Xy33754.ref ha0 (by decide) e33750
  have h33761 := Xy33754.at ha0
  have h33762 := Xy33754.ar h33744
  have h33763 := Xy33754.ar h33751
  refine g_aload_n C dX12_lays_21 rfl 1 rfl ?_
  obtain ⟨b33764, e33765, h33766⟩ := Iy33753.fld (h33761) 22 13 800 rfl
  refine g_getR C fi_X12_75 rfl e33765 (h33761).1 (h33761).2 dX12_lays_22 ?_
  refine g_iload C dX12_lays_25 0 rfl ?_
  refine g_iload_n C dX12_lays_27 rfl 3 rfl ?_
  refine g_iast (j := (z33747.toInt.toNat)) C h33766.1 h33766.2.1 (ix_in h33766.2.2 (by omega)) dX12_lays_28 ?_
  refine gqX (ks := [22]) (W := (fun P => MW P a0)) (Iy33753.setA e33765 h33766 (by decide) (arOk.of rfl (by omega))) (EM.setA Iy33753 e33765 rfl (by decide)) (W33757.set22 Iy33753 e33765 (fun c9 f9 h9 => by have f8 := EM.refB Xz33758 ha0 f9; have q9 := Xz33758.keepA f8 (by decide) rfl (a2.toInt.toNat); have h8 := hl c9 f8 h9; omega)) (fun Y33767 Iy33768 Xy33769 w33770 W33771 => ?_)
  have w33770 : (pI Y33767 b33764 (z33747.toInt.toNat)).toInt = a2.toInt := w33770
  have q33772 := Xy33769.keepA e33759 (by decide) rfl (a1.toInt.toNat)
  have q33773 := Xy33769.keepA e33760 (by decide) rfl (z33747.toInt.toNat)
  have Xz33774 : EM [20, 21, 22, 23, 24, 25] a0 P Y33767 := EM.tr ha0 Xz33758 (Xy33769.mono (by decide))
  have e33775 := Xy33769.ref h33761 (by decide) e33759
  have e33776 := Xy33769.ref h33761 (by decide) e33760
  have e33777 := Xy33769.ref h33761 (by decide) e33765
  have h33778 := Xy33769.at h33761
  have h33779 := Xy33769.ar h33762
  have h33780 := Xy33769.ar h33763
  have h33781 := Xy33769.ar h33766
  refine g_aload_n C dX12_lays_29 rfl 1 rfl ?_
  obtain ⟨b33782, e33783, h33784⟩ := Iy33768.fld (h33778) 23 13 800 rfl
  refine g_getR C fi_X12_78 rfl e33783 (h33778).1 (h33778).2 dX12_lays_30 ?_
  refine g_iload C dX12_lays_33 0 rfl ?_
  refine g_iload C dX12_lays_35 5 rfl ?_
  refine g_iast (j := (z33747.toInt.toNat)) C h33784.1 h33784.2.1 (ix_in h33784.2.2 (by omega)) dX12_lays_37 ?_
  refine gqW (ks := [23]) (Iy33768.setA e33783 h33784 (by decide) (arOk.none rfl)) (EM.setA Iy33768 e33783 rfl (by decide)) (fun Y33785 Iy33786 Xy33787 w33788 => ?_)
  have w33788 : (pI Y33785 b33782 (z33747.toInt.toNat)).toInt = a4.toInt := w33788
  have q33789 := Xy33787.keepA e33775 (by decide) rfl (a1.toInt.toNat)
  have q33790 := Xy33787.keepA e33776 (by decide) rfl (z33747.toInt.toNat)
  have q33791 := Xy33787.keepA e33777 (by decide) rfl (z33747.toInt.toNat)
  have W33792 := W33771.keep Iy33768 Xy33787 (by decide) (by decide) (by decide)
  have Xz33793 : EM [20, 21, 22, 23, 24, 25] a0 P Y33785 := EM.tr ha0 Xz33774 (Xy33787.mono (by decide))
  have e33794 := Xy33787.ref h33778 (by decide) e33775
  have e33795 := Xy33787.ref h33778 (by decide) e33776
  have e33796 := Xy33787.ref h33778 (by decide) e33777
  have e33797 := Xy33787.ref h33778 (by decide) e33783
  have h33798 := Xy33787.at h33778
  have h33799 := Xy33787.ar h33779
  have h33800 := Xy33787.ar h33780
  have h33801 := Xy33787.ar h33781
  have h33802 := Xy33787.ar h33784
  refine g_aload_n C dX12_lays_38 rfl 1 rfl ?_
  obtain ⟨b33803, e33804, h33805⟩ := Iy33786.fld (h33798) 24 13 800 rfl
  refine g_getR C fi_X12_81 rfl e33804 (h33798).1 (h33798).2 dX12_lays_39 ?_
  refine g_iload C dX12_lays_42 0 rfl ?_
  refine g_iload C dX12_lays_44 6 rfl ?_
  refine g_iast (j := (z33747.toInt.toNat)) C h33805.1 h33805.2.1 (ix_in h33805.2.2 (by omega)) dX12_lays_46 ?_
  refine gqW (ks := [24]) (Iy33786.setA e33804 h33805 (by decide) (arOk.none rfl)) (EM.setA Iy33786 e33804 rfl (by decide)) (fun Y33806 Iy33807 Xy33808 w33809 => ?_)
  have w33809 : (pI Y33806 b33803 (z33747.toInt.toNat)).toInt = a5.toInt := w33809
  have q33810 := Xy33808.keepA e33794 (by decide) rfl (a1.toInt.toNat)
  have q33811 := Xy33808.keepA e33795 (by decide) rfl (z33747.toInt.toNat)
  have q33812 := Xy33808.keepA e33796 (by decide) rfl (z33747.toInt.toNat)
  have q33813 := Xy33808.keepA e33797 (by decide) rfl (z33747.toInt.toNat)
  have W33814 := W33792.keep Iy33786 Xy33808 (by decide) (by decide) (by decide)
  have Xz33815 : EM [20, 21, 22, 23, 24, 25] a0 P Y33806 := EM.tr ha0 Xz33793 (Xy33808.mono (by decide))
  have e33816 := Xy33808.ref h33798 (by decide) e33794
  have e33817 := Xy33808.ref h33798 (by decide) e33795
  have e33818 := Xy33808.ref h33798 (by decide) e33796
  have e33819 := Xy33808.ref h33798 (by decide) e33797
  have e33820 := Xy33808.ref h33798 (by decide) e33804
  have h33821 := Xy33808.at h33798
  have h33822 := Xy33808.ar h33799
  have h33823 := Xy33808.ar h33800
  have h33824 := Xy33808.ar h33801
  have h33825 := Xy33808.ar h33802
  have h33826 := Xy33808.ar h33805
  refine g_aload_n C dX12_lays_47 rfl 1 rfl ?_
  obtain ⟨b33827, e33828, h33829⟩ := Iy33807.fld (h33821) 25 13 800 rfl
  refine g_getR C fi_X12_84 rfl e33828 (h33821).1 (h33821).2 dX12_lays_48 ?_
  refine g_iload C dX12_lays_51 0 rfl ?_
  refine g_iload C dX12_lays_53 7 rfl ?_
  refine g_iast (j := (z33747.toInt.toNat)) C h33829.1 h33829.2.1 (ix_in h33829.2.2 (by omega)) dX12_lays_55 ?_
  refine gqW (ks := [25]) (Iy33807.setA e33828 h33829 (by decide) (arOk.none rfl)) (EM.setA Iy33807 e33828 rfl (by decide)) (fun Y33830 Iy33831 Xy33832 w33833 => ?_)
  have w33833 : (pI Y33830 b33827 (z33747.toInt.toNat)).toInt = a6.toInt := w33833
  have q33834 := Xy33832.keepA e33816 (by decide) rfl (a1.toInt.toNat)
  have q33835 := Xy33832.keepA e33817 (by decide) rfl (z33747.toInt.toNat)
  have q33836 := Xy33832.keepA e33818 (by decide) rfl (z33747.toInt.toNat)
  have q33837 := Xy33832.keepA e33819 (by decide) rfl (z33747.toInt.toNat)
  have q33838 := Xy33832.keepA e33820 (by decide) rfl (z33747.toInt.toNat)
  have W33839 := W33814.keep Iy33807 Xy33832 (by decide) (by decide) (by decide)
  have Xz33840 : EM [20, 21, 22, 23, 24, 25] a0 P Y33830 := EM.tr ha0 Xz33815 (Xy33832.mono (by decide))
  have e33841 := Xy33832.ref h33821 (by decide) e33816
  have e33842 := Xy33832.ref h33821 (by decide) e33817
  have e33843 := Xy33832.ref h33821 (by decide) e33818
  have e33844 := Xy33832.ref h33821 (by decide) e33819
  have e33845 := Xy33832.ref h33821 (by decide) e33820
  have e33846 := Xy33832.ref h33821 (by decide) e33828
  have h33847 := Xy33832.at h33821
  have h33848 := Xy33832.ar h33822
  have h33849 := Xy33832.ar h33823
  have h33850 := Xy33832.ar h33824
  have h33851 := Xy33832.ar h33825
  have h33852 := Xy33832.ar h33826
  have h33853 := Xy33832.ar h33829
  refine g_aload_n C dX12_lays_56 rfl 1 rfl ?_
  refine g_getR C fi_X12_69 rfl e33841 (h33847).1 (h33847).2 dX12_lays_57 ?_
  refine g_iload_n C dX12_lays_60 rfl 2 rfl ?_
  refine g_dup2_11 C dX12_lays_61 rfl rfl ?_
  refine g_iald (j := (a1.toInt.toNat)) C h33848.1 h33848.2.1 (ix_in h33848.2.2 (by omega)) dX12_lays_62 ?_
  refine g_iconst (v := 1) C dX12_lays_63 (by decide) ?_
  refine s_iadd C dX12_lays_64 (by show -2147483648 ≤ (pI Y33830 b33742 (a1.toInt.toNat)).toInt + 1 ∧ (pI Y33830 b33742 (a1.toInt.toNat)).toInt + 1 ≤ 2147483647; omega) (fun z33854 h33855 => ?_)
  have h33855 : z33854.toInt = (pI Y33830 b33742 (a1.toInt.toNat)).toInt + 1 := h33855
  refine g_iast (j := (a1.toInt.toNat)) C h33848.1 h33848.2.1 (ix_in h33848.2.2 (by omega)) dX12_lays_65 ?_
  refine gqW (ks := [20]) (Iy33831.setA e33841 h33848 (by decide) (arOk.of rfl (by omega))) (EM.setA Iy33831 e33841 rfl (by decide)) (fun Y33856 Iy33857 Xy33858 w33859 => ?_)
  have w33859 : (pI Y33856 b33742 (a1.toInt.toNat)).toInt = z33854.toInt := w33859
  have q33860 := Xy33858.keepA e33842 (by decide) rfl (z33747.toInt.toNat)
  have q33861 := Xy33858.keepA e33843 (by decide) rfl (z33747.toInt.toNat)
  have q33862 := Xy33858.keepA e33844 (by decide) rfl (z33747.toInt.toNat)
  have q33863 := Xy33858.keepA e33845 (by decide) rfl (z33747.toInt.toNat)
  have q33864 := Xy33858.keepA e33846 (by decide) rfl (z33747.toInt.toNat)
  have W33865 := W33839.keep Iy33831 Xy33858 (by decide) (by decide) (by decide)
  have Xz33866 : EM [20, 21, 22, 23, 24, 25] a0 P Y33856 := EM.tr ha0 Xz33840 (Xy33858.mono (by decide))
  have e33867 := Xy33858.ref h33847 (by decide) e33841
  have e33868 := Xy33858.ref h33847 (by decide) e33842
  have e33869 := Xy33858.ref h33847 (by decide) e33843
  have e33870 := Xy33858.ref h33847 (by decide) e33844
  have e33871 := Xy33858.ref h33847 (by decide) e33845
  have e33872 := Xy33858.ref h33847 (by decide) e33846
  have h33873 := Xy33858.at h33847
  have h33874 := Xy33858.ar h33848
  have h33875 := Xy33858.ar h33849
  have h33876 := Xy33858.ar h33850
  have h33877 := Xy33858.ar h33851
  have h33878 := Xy33858.ar h33852
  have h33879 := Xy33858.ar h33853
  refine g_aload_n C dX12_lays_66 rfl 1 rfl ?_
  refine g_getR C fi_X12_69 rfl e33867 (h33873).1 (h33873).2 dX12_lays_67 ?_
  refine g_iload_n C dX12_lays_70 rfl 2 rfl ?_
  refine g_iald (j := (a1.toInt.toNat)) C h33874.1 h33874.2.1 (ix_in h33874.2.2 (by omega)) dX12_lays_71 ?_
  refine g_iconst (v := 1) C dX12_lays_72 (by decide) ?_
  refine s_isub C dX12_lays_73 (by show -2147483648 ≤ (pI Y33856 b33742 (a1.toInt.toNat)).toInt - 1 ∧ (pI Y33856 b33742 (a1.toInt.toNat)).toInt - 1 ≤ 2147483647; omega) (fun z33880 h33881 => ?_)
  have h33881 : z33880.toInt = (pI Y33856 b33742 (a1.toInt.toNat)).toInt - 1 := h33881
  exact ret _ _ _ _ _ _ dX12_lays_74 rfl (by decide) (by decide) ⟨Iy33857, Xz33866, W33865, (fun b9 e9 => by have e8 := EM.ref Xz33866 ha0 (by decide) e9; rw [e33867] at e8; cases e8; show (pI Y33856 b33742 (a1.toInt.toNat)).toInt = (pI P b33742 (a1.toInt.toNat)).toInt + 1; omega), (by omega)⟩
theorem dX12_comes_48 : decode cX12_comes 48 = .ok (.iconst (-1), 1) := by decide +kernel
theorem dX12_comes_49 : decode cX12_comes 49 = .ok (.ireturn, 1) := by decide +kernel
theorem dX12_comes_87 : decode cX12_comes 87 = .ok (.ireturn, 1) := by decide +kernel
set_option maxHeartbeats 4000000 in
set_option maxRecDepth 100000 in
theorem s_X12_comes {P : PP} {a0 : Nat} {a1 : Int32} {a2 : Int32} {a3 : Int32} {a4 : Int32} (I : IM P a0) (hW : MW P a0) : CtrI yX12_comes cX12_comes 6 (some Jvm.ClassFile.FieldType.int) ({ frames := 4, cells := 0, slots := 0, locals := 256 } : Room) 0 0 P [.ref a0, .int a1, .int a2, .int a3, .int a4] (fun r P2 => IM P2 a0 ∧ EM [0, 20, 21, 22, 23, 24, 25] a0 P P2 ∧ MW P2 a0 ∧ (-1 ≤ r.toInt ∧ r.toInt ≤ 39)) := by
  refine enI (lv := [(0, .ref a0), (1, .int a1), (2, .int a2), (3, .int a3), (4, .int a4)]) (by decide) (Nat.le_of_ble_eq_true rfl) rfl (fun E D cy C Ci0 ret => ?_)
  have ha0 := I.2.1
  have J48 : ∀ (P48 : PP), (IM P48 a0) → (EM [0, 20, 21, 22, 23, 24, 25] a0 P P48) → (MW P48 a0) → (0 ≤ (pI P48 a0 0).toInt ∧ (pI P48 a0 0).toInt ≤ 0) → G E ({ frames := 4, cells := 0, slots := 0, locals := 256 } : Room) D cy 6 P48 0 0 48 [] [] := by
    intro P48 I48 X48 W48 hq48_0
    have h33959 := X48.at ha0
    refine g_iconst (v := (-1)) C dX12_comes_48 (by decide) ?_
    exact ret _ _ _ _ _ _ dX12_comes_49 rfl (by decide) (by decide) ⟨I48, X48, W48, (by decide)⟩
  refine g_aload_n C dX12_comes_0 rfl 0 rfl ?_
  refine g_iconst (v := 0) C dX12_comes_1 (by decide) ?_
  refine g_putI C fi_X12_1 rfl (ha0).1 (ha0).2 dX12_comes_2 ?_
  refine gqW (ks := [0]) (I.setI (rgOk.of rfl (by decide))) (EM.setI I (by decide)) (fun Y33960 Iy33961 Xy33962 w33963 => ?_)
  have w33963 : (pI Y33960 a0 0).toInt = 0 := w33963
  have W33964 := hW.keep I Xy33962 (by decide) (by decide) (by decide)
  have Xz33965 : EM [0, 20, 21, 22, 23, 24, 25] a0 P Y33960 := Xy33962.mono (by decide)
  have h33966 := Xy33962.at ha0
  refine g_iload_n C dX12_comes_5 rfl 1 rfl ?_
  refine g_callSI (b := 0) (ci := 0) (rest := []) C ms_X12_278 [.int a1] (s_X12_isQuarter Iy33961.1) rfl rfl (by decide) (Nat.le_of_ble_eq_true rfl) (by decide) dX12_comes_6 (fun r33967 Y33968 h33969 => ?_)
  obtain ⟨rfl, h33969⟩ := h33969
  obtain ⟨h33969, hi33970⟩ := h33969
  have hi33970 : r33967.toInt = 0 ∨ (((0 : Int) ≤ a1.toInt ∧ a1.toInt ≤ (3 : Int))) := hi33970
  have h33969 : 0 ≤ r33967.toInt ∧ r33967.toInt ≤ 1 := h33969
  refine b_if_eq C 48 dX12_comes_9 (by decide) (fun h33971 => ?_) (fun h33971 => ?_)
  · have h33971 : r33967.toInt = 0 := congrArg Int32.toInt h33971
    clear hi33970
    refine g_lv (lv' := []) [] rfl ?_
    exact J48 Y33960 Iy33961 Xz33965 W33964 (by omega)
  · have h33971 : r33967.toInt ≠ 0 := ti_ne h33971
    replace hi33970 := hi33970.resolve_left (by omega)
    refine g_aload_n C dX12_comes_12 rfl 0 rfl ?_
    refine g_iload_n C dX12_comes_13 rfl 2 rfl ?_
    refine g_callVI (rest := []) C mv_X12_192 [.int a2] (s_X12_isBook Iy33961 W33964) (h33966).1 (h33966).2 rfl rfl (by decide) (Nat.le_of_ble_eq_true rfl) (by decide) dX12_comes_14 (fun r33972 Y33973 h33974 => ?_)
    obtain ⟨rfl, h33974⟩ := h33974
    obtain ⟨h33974, hi33975, hi33976⟩ := h33974
    have hi33975 : r33972.toInt = 0 ∨ (((0 : Int) ≤ a2.toInt ∧ a2.toInt ≤ (1 : Int))) := hi33975
    have h33974 : 0 ≤ r33972.toInt ∧ r33972.toInt ≤ 1 := h33974
    refine b_if_eq C 48 dX12_comes_17 (by decide) (fun h33977 => ?_) (fun h33977 => ?_)
    · have h33977 : r33972.toInt = 0 := congrArg Int32.toInt h33977
      clear hi33975
      refine g_lv (lv' := []) [] rfl ?_
      exact J48 Y33960 Iy33961 Xz33965 W33964 (by omega)
    · have h33977 : r33972.toInt ≠ 0 := ti_ne h33977
      replace hi33975 := hi33975.resolve_left (by omega)
      obtain ⟨b33978, e33979, h33980⟩ := Iy33961.fld (h33966) 10 13 2 rfl
      have hi33976 := (hi33976.resolve_left (by omega)) b33978 e33979
      have hi33976 : 0 < (pI Y33960 b33978 (a2.toInt.toNat)).toInt := hi33976
      have h33981 := Iy33961.arr e33979 rfl (a2.toInt.toNat)
      refine g_iload_n C dX12_comes_20 rfl 3 rfl ?_
      refine g_callSI (b := 0) (ci := 0) (rest := []) C ms_X12_258 [.int a3] (s_X12_isNumber Iy33961.1) rfl rfl (by decide) (Nat.le_of_ble_eq_true rfl) (by decide) dX12_comes_21 (fun r33982 Y33983 h33984 => ?_)
      obtain ⟨rfl, h33984⟩ := h33984
      obtain ⟨h33984, hi33985⟩ := h33984
      have hi33985 : r33982.toInt = 0 ∨ (((0 : Int) ≤ a3.toInt ∧ a3.toInt ≤ (9999 : Int))) := hi33985
      have h33984 : 0 ≤ r33982.toInt ∧ r33982.toInt ≤ 1 := h33984
      refine b_if_eq C 48 dX12_comes_24 (by decide) (fun h33986 => ?_) (fun h33986 => ?_)
      · have h33986 : r33982.toInt = 0 := congrArg Int32.toInt h33986
        clear hi33985
        refine g_lv (lv' := []) [] rfl ?_
        exact J48 Y33960 Iy33961 Xz33965 W33964 (by omega)
      · have h33986 : r33982.toInt ≠ 0 := ti_ne h33986
        replace hi33985 := hi33985.resolve_left (by omega)
        refine g_iload C dX12_comes_27 4 rfl ?_
        refine g_iconst (v := 1) C dX12_comes_29 (by decide) ?_
        refine g_iconst (v := 3) C dX12_comes_30 (by decide) ?_
        refine g_callSI (b := 0) (ci := 0) (rest := []) C ms_X12_178 [.int a4, .int 1, .int 3] (s_X12_within Iy33961.1) rfl rfl (by decide) (Nat.le_of_ble_eq_true rfl) (by decide) dX12_comes_31 (fun r33987 Y33988 h33989 => ?_)
        obtain ⟨rfl, h33989⟩ := h33989
        obtain ⟨h33989, hi33990⟩ := h33989
        have hi33990 : r33987.toInt = 0 ∨ (1 ≤ a4.toInt ∧ a4.toInt ≤ 3) := hi33990
        have h33989 : 0 ≤ r33987.toInt ∧ r33987.toInt ≤ 1 := h33989
        refine b_if_eq C 48 dX12_comes_34 (by decide) (fun h33991 => ?_) (fun h33991 => ?_)
        · have h33991 : r33987.toInt = 0 := congrArg Int32.toInt h33991
          clear hi33990
          refine g_lv (lv' := []) [] rfl ?_
          exact J48 Y33960 Iy33961 Xz33965 W33964 (by omega)
        · have h33991 : r33987.toInt ≠ 0 := ti_ne h33991
          replace hi33990 := hi33990.resolve_left (by omega)
          refine g_aload_n C dX12_comes_37 rfl 0 rfl ?_
          obtain ⟨b33992, e33993, h33994⟩ := Iy33961.fld (h33966) 20 13 20 rfl
          refine g_getR C fi_X12_69 rfl e33993 (h33966).1 (h33966).2 dX12_comes_38 ?_
          refine g_iload_n C dX12_comes_41 rfl 1 rfl ?_
          refine g_iald (j := (a1.toInt.toNat)) C h33994.1 h33994.2.1 (ix_in h33994.2.2 (by omega)) dX12_comes_42 ?_
          have h33995 := Iy33961.arr e33993 rfl (a1.toInt.toNat)
          refine g_bipush (v := 40) C dX12_comes_43 (by decide) ?_
          refine b_icmp_ne C 50 dX12_comes_45 (by decide) (fun h33996 => ?_) (fun h33996 => ?_)
          · have h33996 : (pI Y33960 b33992 (a1.toInt.toNat)).toInt ≠ 40 := ti_ne h33996
            refine g_aload_n C dX12_comes_50 rfl 0 rfl ?_
            refine g_iload_n C dX12_comes_51 rfl 2 rfl ?_
            refine g_aload_n C dX12_comes_52 rfl 0 rfl ?_
            refine g_iload_n C dX12_comes_53 rfl 2 rfl ?_
            refine g_iload_n C dX12_comes_54 rfl 3 rfl ?_
            refine g_callVI (rest := [.int a2, .ref a0]) C mv_X12_261 [.int a2, .int a3] (s_X12_setOf Iy33961 (by omega) (fun b9 e9 => by rw [e33979] at e9; cases e9; show 1 ≤ (pI Y33960 b33978 (a2.toInt.toNat)).toInt ∧ (pI Y33960 b33978 (a2.toInt.toNat)).toInt ≤ 16; omega) W33964) (h33966).1 (h33966).2 rfl rfl (by decide) (Nat.le_of_ble_eq_true rfl) (by decide) dX12_comes_55 (fun r33997 Y33998 h33999 => ?_)
            obtain ⟨Iy34000, Xy34001, W34002, h33999⟩ := h33999
            have q34003 := Xy34001.keepF 0 (by decide)
            have q34004 := Xy34001.keepA e33979 (by decide) rfl (a2.toInt.toNat)
            have q34005 := Xy34001.keepA e33993 (by decide) rfl (a1.toInt.toNat)
            have Xz34006 : EM [0, 20, 21, 22, 23, 24, 25] a0 P Y33998 := EM.tr ha0 Xz33965 (Xy34001.mono (by decide))
            have e34007 := Xy34001.ref h33966 (by decide) e33979
            have e34008 := Xy34001.ref h33966 (by decide) e33993
            have h34009 := Xy34001.at h33966
            have h34010 := Xy34001.ar h33980
            have h34011 := Xy34001.ar h33994
            have h33999 : True := h33999
            refine g_callVI (rest := []) C mv_X12_223 [.int a2, .int r33997] (s_X12_sumOf Iy34000 (by omega) W34002) (h34009).1 (h34009).2 rfl rfl (by decide) (Nat.le_of_ble_eq_true rfl) (by decide) dX12_comes_58 (fun r34012 Y34013 h34014 => ?_)
            obtain ⟨rfl, h34014⟩ := h34014
            have h34014 : True := h34014
            refine g_istore (lv' := [(5, .int r34012), (0, .ref a0), (1, .int a1), (2, .int a2), (3, .int a3), (4, .int a4)]) C dX12_comes_61 (by decide) rfl ?_
            refine g_aload_n C dX12_comes_63 rfl 1 rfl ?_
            refine g_iload_n C dX12_comes_64 rfl 2 rfl ?_
            refine g_iload_n C dX12_comes_65 rfl 3 rfl ?_
            refine g_iload_n C dX12_comes_66 rfl 4 rfl ?_
            refine g_iload C dX12_comes_67 0 rfl ?_
            refine g_iload C dX12_comes_69 5 rfl ?_
            refine g_callSI (b := 0) (ci := 0) (rest := [.int a3, .int a2, .int a1, .ref a0]) C ms_X12_281 [.int r34012, .int a4] (s_X12_cutTo Iy34000.1) rfl rfl (by decide) (Nat.le_of_ble_eq_true rfl) (by decide) dX12_comes_71 (fun r34015 Y34016 h34017 => ?_)
            obtain ⟨rfl, h34017⟩ := h34017
            have h34017 : 0 ≤ r34015.toInt ∧ r34015.toInt ≤ 65535 := h34017
            refine g_iload C dX12_comes_74 5 rfl ?_
            refine g_aload_n C dX12_comes_76 rfl 1 rfl ?_
            refine g_iload_n C dX12_comes_77 rfl 3 rfl ?_
            refine g_iload_n C dX12_comes_78 rfl 4 rfl ?_
            refine g_iload C dX12_comes_79 0 rfl ?_
            refine g_callVI (rest := [.int a4, .int r34015, .int a3, .int a2, .int a1, .ref a0]) C mv_X12_267 [.int a2, .int a3, .int r34012] (s_X12_sealOf Iy34000 (by omega) W34002) (h34009).1 (h34009).2 rfl rfl (by decide) (Nat.le_of_ble_eq_true rfl) (by decide) dX12_comes_81 (fun r34018 Y34019 h34020 => ?_)
            obtain ⟨rfl, h34020⟩ := h34020
            have h34020 : -996 ≤ r34018.toInt ∧ r34018.toInt ≤ 996 := h34020
            refine g_callVI (rest := []) C mv_X12_284 [.int a1, .int a2, .int a3, .int r34015, .int a4, .int r34018] (s_X12_lays Iy34000 (by omega) (by omega) (fun b9 e9 => by rw [e34008] at e9; cases e9; show 0 ≤ (pI Y33998 b33992 (a1.toInt.toNat)).toInt ∧ (pI Y33998 b33992 (a1.toInt.toNat)).toInt ≤ 39; omega) W34002 (fun c9 f9 _ => by rw [e34007] at f9; cases f9; show 0 < (pI Y33998 b33978 (a2.toInt.toNat)).toInt; omega)) (h34009).1 (h34009).2 rfl rfl (by decide) (Nat.le_of_ble_eq_true rfl) (by decide) dX12_comes_84 (fun r34021 Y34022 h34023 => ?_)
            obtain ⟨Iy34024, Xy34025, W34026, p34027, h34023⟩ := h34023
            have p34027 := p34027 b33992 e34008
            have p34027 : (pI Y34022 b33992 (a1.toInt.toNat)).toInt = (pI Y33998 b33992 (a1.toInt.toNat)).toInt + 1 := p34027
            have q34028 := Xy34025.keepF 0 (by decide)
            have q34029 := Xy34025.keepA e34007 (by decide) rfl (a2.toInt.toNat)
            have Xz34030 : EM [0, 20, 21, 22, 23, 24, 25] a0 P Y34022 := EM.tr ha0 Xz34006 (Xy34025.mono (by decide))
            have e34031 := Xy34025.ref h34009 (by decide) e34007
            have e34032 := Xy34025.ref h34009 (by decide) e34008
            have h34033 := Xy34025.at h34009
            have h34034 := Xy34025.ar h34010
            have h34035 := Xy34025.ar h34011
            have h34023 : 0 ≤ r34021.toInt ∧ r34021.toInt ≤ 39 := h34023
            exact ret _ _ _ _ _ _ dX12_comes_87 rfl (by decide) (by decide) ⟨Iy34024, Xz34030, W34026, (by omega)⟩
          · have h33996 : (pI Y33960 b33992 (a1.toInt.toNat)).toInt = 40 := congrArg Int32.toInt h33996
            refine g_lv (lv' := []) [] rfl ?_
            exact J48 Y33960 Iy33961 Xz33965 W33964 (by omega)
theorem s_X12_common {P : PP} {a0 a1 : Int64} (I : IV P) : CtrL yX12_common cX12_common 10 (some .long) ({ frames := 1, cells := 0, slots := 0, locals := 64 } : Room) 0 0 P [.long a0, .long a1] (fun _ P2 => P = P2 ∧ (True)) := by
  sorry
theorem dX12_copies_0 : decode cX12_copies 0 = .ok (.aload_n 0, 1) := by decide +kernel
theorem dX12_copies_1 : decode cX12_copies 1 = .ok (.getfield 69, 3) := by decide +kernel
theorem dX12_copies_4 : decode cX12_copies 4 = .ok (.iload_n 2, 1) := by decide +kernel
theorem dX12_copies_5 : decode cX12_copies 5 = .ok (.aload_n 0, 1) := by decide +kernel
theorem dX12_copies_6 : decode cX12_copies 6 = .ok (.getfield 69, 3) := by decide +kernel
theorem dX12_copies_9 : decode cX12_copies 9 = .ok (.iload_n 1, 1) := by decide +kernel
theorem dX12_copies_10 : decode cX12_copies 10 = .ok (.iaload, 1) := by decide +kernel
theorem dX12_copies_11 : decode cX12_copies 11 = .ok (.iastore, 1) := by decide +kernel
theorem dX12_copies_12 : decode cX12_copies 12 = .ok (.iconst 0, 1) := by decide +kernel
theorem dX12_copies_13 : decode cX12_copies 13 = .ok (.istore_n 3, 1) := by decide +kernel
theorem dX12_copies_14 : decode cX12_copies 14 = .ok (.iload_n 3, 1) := by decide +kernel
theorem dX12_copies_15 : decode cX12_copies 15 = .ok (.aload_n 0, 1) := by decide +kernel
theorem dX12_copies_16 : decode cX12_copies 16 = .ok (.getfield 69, 3) := by decide +kernel
theorem dX12_copies_19 : decode cX12_copies 19 = .ok (.iload_n 1, 1) := by decide +kernel
theorem dX12_copies_20 : decode cX12_copies 20 = .ok (.iaload, 1) := by decide +kernel
theorem dX12_copies_21 : decode cX12_copies 21 = .ok (.if_icmp .ge 25, 3) := by decide +kernel
theorem dX12_copies_24 : decode cX12_copies 24 = .ok (.aload_n 0, 1) := by decide +kernel
theorem dX12_copies_25 : decode cX12_copies 25 = .ok (.bipush 40, 2) := by decide +kernel
theorem dX12_copies_27 : decode cX12_copies 27 = .ok (.iload_n 1, 1) := by decide +kernel
theorem dX12_copies_28 : decode cX12_copies 28 = .ok (.imul, 1) := by decide +kernel
theorem dX12_copies_29 : decode cX12_copies 29 = .ok (.iload_n 3, 1) := by decide +kernel
theorem dX12_copies_30 : decode cX12_copies 30 = .ok (.iadd, 1) := by decide +kernel
theorem dX12_copies_31 : decode cX12_copies 31 = .ok (.bipush 40, 2) := by decide +kernel
theorem dX12_copies_33 : decode cX12_copies 33 = .ok (.iload_n 2, 1) := by decide +kernel
theorem dX12_copies_34 : decode cX12_copies 34 = .ok (.imul, 1) := by decide +kernel
theorem dX12_copies_35 : decode cX12_copies 35 = .ok (.iload_n 3, 1) := by decide +kernel
theorem dX12_copies_36 : decode cX12_copies 36 = .ok (.iadd, 1) := by decide +kernel
theorem dX12_copies_37 : decode cX12_copies 37 = .ok (.invokevirtual 274, 3) := by decide +kernel
theorem dX12_copies_40 : decode cX12_copies 40 = .ok (.iinc 3 1, 3) := by decide +kernel
theorem dX12_copies_43 : decode cX12_copies 43 = .ok (.goto (-29), 3) := by decide +kernel
theorem dX12_copies_46 : decode cX12_copies 46 = .ok (.return_, 1) := by decide +kernel
set_option maxHeartbeats 4000000 in
set_option maxRecDepth 100000 in
theorem s_X12_copies {P : PP} {a0 : Nat} {a1 : Int32} {a2 : Int32} (I : IM P a0) (ha1 : 0 ≤ a1.toInt ∧ a1.toInt ≤ 19) (ha2 : 0 ≤ a2.toInt ∧ a2.toInt ≤ 19) (hW : MW P a0) : CtrV yX12_copies cX12_copies 4 none ({ frames := 2, cells := 0, slots := 0, locals := 128 } : Room) 0 0 P [.ref a0, .int a1, .int a2] (fun P2 => IM P2 a0 ∧ EM [20, 21, 22, 23, 24, 25] a0 P P2 ∧ MW P2 a0) := by
  refine enV (lv := [(0, .ref a0), (1, .int a1), (2, .int a2)]) (by decide) (Nat.le_of_ble_eq_true rfl) rfl (fun E D cy C Ci0 ret => ?_)
  have ha0 := I.2.1
  have J14 : ∀ (n14 : Nat) (P14 : PP) (v14_3 : Int32), (40 - v14_3.toInt).toNat < n14 → (IM P14 a0) → (EM [20, 21, 22, 23, 24, 25] a0 P P14) → (MW P14 a0) → (0 ≤ v14_3.toInt ∧ v14_3.toInt ≤ 40) → G E ({ frames := 2, cells := 0, slots := 0, locals := 128 } : Room) D cy 4 P14 0 0 14 [(0, .ref a0), (1, .int a1), (2, .int a2), (3, .int v14_3)] [] := by
    intro n14
    induction n14 with
    | zero => intro P14 v14_3 hm14 I14 X14 W14 hv14_3; omega
    | succ n14 ih14 =>
      intro P14 v14_3 hm14 I14 X14 W14 hv14_3
      have h34454 := X14.at ha0
      refine g_iload_n C dX12_copies_14 rfl 3 rfl ?_
      refine g_aload_n C dX12_copies_15 rfl 0 rfl ?_
      obtain ⟨b34455, e34456, h34457⟩ := I14.fld (h34454) 20 13 20 rfl
      refine g_getR C fi_X12_69 rfl e34456 (h34454).1 (h34454).2 dX12_copies_16 ?_
      refine g_iload_n C dX12_copies_19 rfl 1 rfl ?_
      refine g_iald (j := (a1.toInt.toNat)) C h34457.1 h34457.2.1 (ix_in h34457.2.2 (by omega)) dX12_copies_20 ?_
      have h34458 := I14.arr e34456 rfl (a1.toInt.toNat)
      refine b_icmp_ge C 46 dX12_copies_21 (by decide) (fun h34459 => ?_) (fun h34459 => ?_)
      · have h34459 : (pI P14 b34455 (a1.toInt.toNat)).toInt ≤ v14_3.toInt := h34459
        exact ret _ _ _ _ _ dX12_copies_46 (by decide) (by decide) ⟨I14, X14, W14⟩
      · have h34459 : v14_3.toInt < (pI P14 b34455 (a1.toInt.toNat)).toInt := h34459
        refine g_aload_n C dX12_copies_24 rfl 0 rfl ?_
        refine g_bipush (v := 40) C dX12_copies_25 (by decide) ?_
        refine g_iload_n C dX12_copies_27 rfl 1 rfl ?_
        refine s_imul C dX12_copies_28 (by show -2147483648 ≤ 40 * a1.toInt ∧ 40 * a1.toInt ≤ 2147483647; omega) (fun z34460 h34461 => ?_)
        have h34461 : z34460.toInt = 40 * a1.toInt := h34461
        refine g_iload_n C dX12_copies_29 rfl 3 rfl ?_
        refine s_iadd C dX12_copies_30 (by show -2147483648 ≤ z34460.toInt + v14_3.toInt ∧ z34460.toInt + v14_3.toInt ≤ 2147483647; omega) (fun z34462 h34463 => ?_)
        have h34463 : z34462.toInt = z34460.toInt + v14_3.toInt := h34463
        refine g_bipush (v := 40) C dX12_copies_31 (by decide) ?_
        refine g_iload_n C dX12_copies_33 rfl 2 rfl ?_
        refine s_imul C dX12_copies_34 (by show -2147483648 ≤ 40 * a2.toInt ∧ 40 * a2.toInt ≤ 2147483647; omega) (fun z34464 h34465 => ?_)
        have h34465 : z34464.toInt = 40 * a2.toInt := h34465
        refine g_iload_n C dX12_copies_35 rfl 3 rfl ?_
        refine s_iadd C dX12_copies_36 (by show -2147483648 ≤ z34464.toInt + v14_3.toInt ∧ z34464.toInt + v14_3.toInt ≤ 2147483647; omega) (fun z34466 h34467 => ?_)
        have h34467 : z34466.toInt = z34464.toInt + v14_3.toInt := h34467
        refine g_callVV (rest := []) C mv_X12_274 [.int z34462, .int z34466] (s_X12_moves I14 (by omega) (by omega) W14) (h34454).1 (h34454).2 rfl rfl (by decide) (Nat.le_of_ble_eq_true rfl) (by decide) dX12_copies_37 (fun Y34469 h34470 => ?_)
        obtain ⟨Iy34471, Xy34472, W34473⟩ := h34470
        have q34474 := Xy34472.keepA e34456 (by decide) rfl (a1.toInt.toNat)
        have Xz34475 : EM [20, 21, 22, 23, 24, 25] a0 P Y34469 := EM.tr ha0 X14 (Xy34472.mono (by decide))
        have e34476 := Xy34472.ref h34454 (by decide) e34456
        have h34477 := Xy34472.at h34454
        have h34478 := Xy34472.ar h34457
        refine s_iinc (lv0 := [(0, .ref a0), (1, .int a1), (2, .int a2)]) (m := 1) C dX12_copies_40 3 rfl (by decide) rfl (by decide) (by omega) (fun z34479 h34480 => ?_)
        have h34480 : z34479.toInt = v14_3.toInt + 1 := h34480
        refine g_goto C 14 dX12_copies_43 (by decide) ?_
        refine g_lv (lv' := [(0, .ref a0), (1, .int a1), (2, .int a2), (3, .int z34479)]) [1, 2, 3, 0] rfl ?_
        exact ih14 Y34469 z34479 (by omega) Iy34471 Xz34475 W34473 (by omega)
  refine g_aload_n C dX12_copies_0 rfl 0 rfl ?_
  obtain ⟨b34481, e34482, h34483⟩ := I.fld (ha0) 20 13 20 rfl
  refine g_getR C fi_X12_69 rfl e34482 (ha0).1 (ha0).2 dX12_copies_1 ?_
  refine g_iload_n C dX12_copies_4 rfl 2 rfl ?_
  refine g_aload_n C dX12_copies_5 rfl 0 rfl ?_
  refine g_getR C fi_X12_69 rfl e34482 (ha0).1 (ha0).2 dX12_copies_6 ?_
  refine g_iload_n C dX12_copies_9 rfl 1 rfl ?_
  refine g_iald (j := (a1.toInt.toNat)) C h34483.1 h34483.2.1 (ix_in h34483.2.2 (by omega)) dX12_copies_10 ?_
  have h34484 := I.arr e34482 rfl (a1.toInt.toNat)
  refine g_iast (j := (a2.toInt.toNat)) C h34483.1 h34483.2.1 (ix_in h34483.2.2 (by omega)) dX12_copies_11 ?_
  refine gqW (ks := [20]) (I.setA e34482 h34483 (by decide) (arOk.of rfl (by omega))) (EM.setA I e34482 rfl (by decide)) (fun Y34485 Iy34486 Xy34487 w34488 => ?_)
  have w34488 : (pI Y34485 b34481 (a2.toInt.toNat)).toInt = (pI P b34481 (a1.toInt.toNat)).toInt := w34488
  have W34489 := hW.keep I Xy34487 (by decide) (by decide) (by decide)
  have Xz34490 : EM [20, 21, 22, 23, 24, 25] a0 P Y34485 := Xy34487.mono (by decide)
  have e34491 := Xy34487.ref ha0 (by decide) e34482
  have h34492 := Xy34487.at ha0
  have h34493 := Xy34487.ar h34483
  refine g_iconst (v := 0) C dX12_copies_12 (by decide) ?_
  refine g_istore_n (lv' := [(3, .int 0), (0, .ref a0), (1, .int a1), (2, .int a2)]) C dX12_copies_13 rfl (by decide) rfl ?_
  refine g_lv (lv' := [(0, .ref a0), (1, .int a1), (2, .int a2), (3, .int 0)]) [1, 2, 3, 0] rfl ?_
  exact J14 _ Y34485 0 (Nat.lt_succ_self _) Iy34486 Xz34490 W34489 (by decide)
theorem dX12_count_0 : decode cX12_count 0 = .ok (.aload_n 0, 1) := by decide +kernel
theorem dX12_count_1 : decode cX12_count 1 = .ok (.iconst 0, 1) := by decide +kernel
theorem dX12_count_2 : decode cX12_count 2 = .ok (.putfield 1, 3) := by decide +kernel
theorem dX12_count_5 : decode cX12_count 5 = .ok (.iload_n 1, 1) := by decide +kernel
theorem dX12_count_6 : decode cX12_count 6 = .ok (.iconst 0, 1) := by decide +kernel
theorem dX12_count_7 : decode cX12_count 7 = .ok (.iconst 3, 1) := by decide +kernel
theorem dX12_count_8 : decode cX12_count 8 = .ok (.invokestatic 178, 3) := by decide +kernel
theorem dX12_count_11 : decode cX12_count 11 = .ok (.ifCond .eq 10, 3) := by decide +kernel
theorem dX12_count_14 : decode cX12_count 14 = .ok (.aload_n 0, 1) := by decide +kernel
theorem dX12_count_15 : decode cX12_count 15 = .ok (.getfield 69, 3) := by decide +kernel
theorem dX12_count_18 : decode cX12_count 18 = .ok (.iload_n 1, 1) := by decide +kernel
theorem dX12_count_19 : decode cX12_count 19 = .ok (.iaload, 1) := by decide +kernel
theorem dX12_count_20 : decode cX12_count 20 = .ok (.ireturn, 1) := by decide +kernel
theorem dX12_count_21 : decode cX12_count 21 = .ok (.iload_n 1, 1) := by decide +kernel
theorem dX12_count_22 : decode cX12_count 22 = .ok (.tableswitch 61 4 8 #[34, 40, 46, 51, 56], 34) := by decide +kernel
theorem dX12_count_56 : decode cX12_count 56 = .ok (.aload_n 0, 1) := by decide +kernel
theorem dX12_count_57 : decode cX12_count 57 = .ok (.iconst 0, 1) := by decide +kernel
theorem dX12_count_58 : decode cX12_count 58 = .ok (.invokevirtual 238, 3) := by decide +kernel
theorem dX12_count_61 : decode cX12_count 61 = .ok (.ireturn, 1) := by decide +kernel
theorem dX12_count_62 : decode cX12_count 62 = .ok (.aload_n 0, 1) := by decide +kernel
theorem dX12_count_63 : decode cX12_count 63 = .ok (.iconst 1, 1) := by decide +kernel
theorem dX12_count_64 : decode cX12_count 64 = .ok (.invokevirtual 238, 3) := by decide +kernel
theorem dX12_count_67 : decode cX12_count 67 = .ok (.ireturn, 1) := by decide +kernel
theorem dX12_count_68 : decode cX12_count 68 = .ok (.aload_n 0, 1) := by decide +kernel
theorem dX12_count_69 : decode cX12_count 69 = .ok (.getfield 11, 3) := by decide +kernel
theorem dX12_count_72 : decode cX12_count 72 = .ok (.ireturn, 1) := by decide +kernel
theorem dX12_count_73 : decode cX12_count 73 = .ok (.aload_n 0, 1) := by decide +kernel
theorem dX12_count_74 : decode cX12_count 74 = .ok (.getfield 288, 3) := by decide +kernel
theorem dX12_count_77 : decode cX12_count 77 = .ok (.ireturn, 1) := by decide +kernel
theorem dX12_count_78 : decode cX12_count 78 = .ok (.aload_n 0, 1) := by decide +kernel
theorem dX12_count_79 : decode cX12_count 79 = .ok (.invokevirtual 411, 3) := by decide +kernel
theorem dX12_count_82 : decode cX12_count 82 = .ok (.ireturn, 1) := by decide +kernel
theorem dX12_count_83 : decode cX12_count 83 = .ok (.iconst (-1), 1) := by decide +kernel
theorem dX12_count_84 : decode cX12_count 84 = .ok (.ireturn, 1) := by decide +kernel
set_option maxHeartbeats 4000000 in
set_option maxRecDepth 100000 in
theorem s_X12_count {P : PP} {a0 : Nat} {a1 : Int32} (I : IM P a0) (hW : MW P a0) : CtrI yX12_count cX12_count 2 (some Jvm.ClassFile.FieldType.int) ({ frames := 2, cells := 0, slots := 0, locals := 128 } : Room) 0 0 P [.ref a0, .int a1] (fun r P2 => IM P2 a0 ∧ EM [0] a0 P P2 ∧ MW P2 a0 ∧ (True)) := by
  refine enI (lv := [(0, .ref a0), (1, .int a1)]) (by decide) (Nat.le_of_ble_eq_true rfl) rfl (fun E D cy C Ci0 ret => ?_)
  have ha0 := I.2.1
  refine g_aload_n C dX12_count_0 rfl 0 rfl ?_
  refine g_iconst (v := 0) C dX12_count_1 (by decide) ?_
  refine g_putI C fi_X12_1 rfl (ha0).1 (ha0).2 dX12_count_2 ?_
  refine gqW (ks := [0]) (I.setI (rgOk.of rfl (by decide))) (EM.setI I (by decide)) (fun Y34540 Iy34541 Xy34542 w34543 => ?_)
  have w34543 : (pI Y34540 a0 0).toInt = 0 := w34543
  have W34544 := hW.keep I Xy34542 (by decide) (by decide) (by decide)
  have Xz34545 : EM [0] a0 P Y34540 := Xy34542.mono (by decide)
  have h34546 := Xy34542.at ha0
  refine g_iload_n C dX12_count_5 rfl 1 rfl ?_
  refine g_iconst (v := 0) C dX12_count_6 (by decide) ?_
  refine g_iconst (v := 3) C dX12_count_7 (by decide) ?_
  refine g_callSI (b := 0) (ci := 0) (rest := []) C ms_X12_178 [.int a1, .int 0, .int 3] (s_X12_within Iy34541.1) rfl rfl (by decide) (Nat.le_of_ble_eq_true rfl) (by decide) dX12_count_8 (fun r34547 Y34548 h34549 => ?_)
  obtain ⟨rfl, h34549⟩ := h34549
  obtain ⟨h34549, hi34550⟩ := h34549
  have hi34550 : r34547.toInt = 0 ∨ (0 ≤ a1.toInt ∧ a1.toInt ≤ 3) := hi34550
  have h34549 : 0 ≤ r34547.toInt ∧ r34547.toInt ≤ 1 := h34549
  refine b_if_eq C 21 dX12_count_11 (by decide) (fun h34551 => ?_) (fun h34551 => ?_)
  · have h34551 : r34547.toInt = 0 := congrArg Int32.toInt h34551
    clear hi34550
    refine g_iload_n C dX12_count_21 rfl 1 rfl ?_
    by_cases h34552 : a1.toInt < 4 ∨ 8 < a1.toInt
    · refine g_tableOut C 83 dX12_count_22 h34552 (by decide) ?_
      refine g_iconst (v := (-1)) C dX12_count_83 (by decide) ?_
      exact ret _ _ _ _ _ _ dX12_count_84 rfl (by decide) (by decide) ⟨Iy34541, Xz34545, W34544, trivial⟩
    · rcases (show a1.toInt = 4 ∨ a1.toInt = 5 ∨ a1.toInt = 6 ∨ a1.toInt = 7 ∨ a1.toInt = 8 by omega) with h34553 | h34553 | h34553 | h34553 | h34553
      · refine g_tableIn C 56 dX12_count_22 (by omega) (by omega) (by rw [h34553]; rfl) (by decide) ?_
        refine g_aload_n C dX12_count_56 rfl 0 rfl ?_
        refine g_iconst (v := 0) C dX12_count_57 (by decide) ?_
        refine g_callVI (rest := []) C mv_X12_238 [.int 0] (s_X12_allOf Iy34541 (by decide) W34544) (h34546).1 (h34546).2 rfl rfl (by decide) (Nat.le_of_ble_eq_true rfl) (by decide) dX12_count_58 (fun r34554 Y34555 h34556 => ?_)
        obtain ⟨rfl, h34556⟩ := h34556
        obtain ⟨h34556, hi34557⟩ := h34556
        obtain ⟨b34558, e34559, h34560⟩ := Iy34541.fld (h34546) 10 13 2 rfl
        obtain ⟨b34561, e34562, h34563⟩ := Iy34541.fld (h34546) 15 13 3 rfl
        have hi34557 : (r34554.toInt = 0 ∧ (pI Y34540 b34558 0).toInt = 0) ∨ r34554.toInt = (pI Y34540 b34558 0).toInt + (pI Y34540 b34561 0).toInt := hi34557 b34558 b34561 e34559 e34562
        have h34564 := Iy34541.arr e34559 rfl 0
        have h34565 := Iy34541.arr e34562 rfl 0
        have h34556 : 0 ≤ r34554.toInt ∧ r34554.toInt ≤ 20 := h34556
        exact ret _ _ _ _ _ _ dX12_count_61 rfl (by decide) (by decide) ⟨Iy34541, Xz34545, W34544, trivial⟩
      · refine g_tableIn C 62 dX12_count_22 (by omega) (by omega) (by rw [h34553]; rfl) (by decide) ?_
        refine g_aload_n C dX12_count_62 rfl 0 rfl ?_
        refine g_iconst (v := 1) C dX12_count_63 (by decide) ?_
        refine g_callVI (rest := []) C mv_X12_238 [.int 1] (s_X12_allOf Iy34541 (by decide) W34544) (h34546).1 (h34546).2 rfl rfl (by decide) (Nat.le_of_ble_eq_true rfl) (by decide) dX12_count_64 (fun r34566 Y34567 h34568 => ?_)
        obtain ⟨rfl, h34568⟩ := h34568
        obtain ⟨h34568, hi34569⟩ := h34568
        obtain ⟨b34570, e34571, h34572⟩ := Iy34541.fld (h34546) 10 13 2 rfl
        obtain ⟨b34573, e34574, h34575⟩ := Iy34541.fld (h34546) 15 13 3 rfl
        have hi34569 : (r34566.toInt = 0 ∧ (pI Y34540 b34570 1).toInt = 0) ∨ r34566.toInt = (pI Y34540 b34570 1).toInt + (pI Y34540 b34573 1).toInt := hi34569 b34570 b34573 e34571 e34574
        have h34576 := Iy34541.arr e34571 rfl 1
        have h34577 := Iy34541.arr e34574 rfl 1
        have h34568 : 0 ≤ r34566.toInt ∧ r34566.toInt ≤ 20 := h34568
        exact ret _ _ _ _ _ _ dX12_count_67 rfl (by decide) (by decide) ⟨Iy34541, Xz34545, W34544, trivial⟩
      · refine g_tableIn C 68 dX12_count_22 (by omega) (by omega) (by rw [h34553]; rfl) (by decide) ?_
        refine g_aload_n C dX12_count_68 rfl 0 rfl ?_
        refine g_getI C fi_X12_11 (by decide) (h34546).1 (h34546).2 dX12_count_69 ?_
        have h34578 := Iy34541.rg (h34546) 2 rfl
        exact ret _ _ _ _ _ _ dX12_count_72 rfl (by decide) (by decide) ⟨Iy34541, Xz34545, W34544, trivial⟩
      · refine g_tableIn C 73 dX12_count_22 (by omega) (by omega) (by rw [h34553]; rfl) (by decide) ?_
        refine g_aload_n C dX12_count_73 rfl 0 rfl ?_
        refine g_getI C fi_X12_288 (by decide) (h34546).1 (h34546).2 dX12_count_74 ?_
        exact ret _ _ _ _ _ _ dX12_count_77 rfl (by decide) (by decide) ⟨Iy34541, Xz34545, W34544, trivial⟩
      · refine g_tableIn C 78 dX12_count_22 (by omega) (by omega) (by rw [h34553]; rfl) (by decide) ?_
        refine g_aload_n C dX12_count_78 rfl 0 rfl ?_
        refine g_callVI (rest := []) C mv_X12_411 [] (s_X12_allHouses Iy34541 W34544) (h34546).1 (h34546).2 rfl rfl (by decide) (Nat.le_of_ble_eq_true rfl) (by decide) dX12_count_79 (fun r34579 Y34580 h34581 => ?_)
        obtain ⟨rfl, h34581⟩ := h34581
        have h34581 : True := h34581
        exact ret _ _ _ _ _ _ dX12_count_82 rfl (by decide) (by decide) ⟨Iy34541, Xz34545, W34544, trivial⟩
  · have h34551 : r34547.toInt ≠ 0 := ti_ne h34551
    replace hi34550 := hi34550.resolve_left (by omega)
    refine g_aload_n C dX12_count_14 rfl 0 rfl ?_
    obtain ⟨b34582, e34583, h34584⟩ := Iy34541.fld (h34546) 20 13 20 rfl
    refine g_getR C fi_X12_69 rfl e34583 (h34546).1 (h34546).2 dX12_count_15 ?_
    refine g_iload_n C dX12_count_18 rfl 1 rfl ?_
    refine g_iald (j := (a1.toInt.toNat)) C h34584.1 h34584.2.1 (ix_in h34584.2.2 (by omega)) dX12_count_19 ?_
    have h34585 := Iy34541.arr e34583 rfl (a1.toInt.toNat)
    exact ret _ _ _ _ _ _ dX12_count_20 rfl (by decide) (by decide) ⟨Iy34541, Xz34545, W34544, trivial⟩
theorem dX12_cutAll_0 : decode cX12_cutAll 0 = .ok (.aload_n 0, 1) := by decide +kernel
theorem dX12_cutAll_1 : decode cX12_cutAll 1 = .ok (.aload_n 0, 1) := by decide +kernel
theorem dX12_cutAll_2 : decode cX12_cutAll 2 = .ok (.getfield 11, 3) := by decide +kernel
theorem dX12_cutAll_5 : decode cX12_cutAll 5 = .ok (.putfield 140, 3) := by decide +kernel
theorem dX12_cutAll_8 : decode cX12_cutAll 8 = .ok (.aload_n 0, 1) := by decide +kernel
theorem dX12_cutAll_9 : decode cX12_cutAll 9 = .ok (.iconst 0, 1) := by decide +kernel
theorem dX12_cutAll_10 : decode cX12_cutAll 10 = .ok (.putfield 11, 3) := by decide +kernel
theorem dX12_cutAll_13 : decode cX12_cutAll 13 = .ok (.iconst 0, 1) := by decide +kernel
theorem dX12_cutAll_14 : decode cX12_cutAll 14 = .ok (.istore_n 1, 1) := by decide +kernel
theorem dX12_cutAll_15 : decode cX12_cutAll 15 = .ok (.iconst 0, 1) := by decide +kernel
theorem dX12_cutAll_16 : decode cX12_cutAll 16 = .ok (.istore_n 2, 1) := by decide +kernel
theorem dX12_cutAll_17 : decode cX12_cutAll 17 = .ok (.iload_n 2, 1) := by decide +kernel
theorem dX12_cutAll_18 : decode cX12_cutAll 18 = .ok (.aload_n 0, 1) := by decide +kernel
theorem dX12_cutAll_19 : decode cX12_cutAll 19 = .ok (.getfield 140, 3) := by decide +kernel
theorem dX12_cutAll_22 : decode cX12_cutAll 22 = .ok (.if_icmp .ge 257, 3) := by decide +kernel
theorem dX12_cutAll_25 : decode cX12_cutAll 25 = .ok (.aload_n 0, 1) := by decide +kernel
theorem dX12_cutAll_26 : decode cX12_cutAll 26 = .ok (.getfield 14, 3) := by decide +kernel
theorem dX12_cutAll_29 : decode cX12_cutAll 29 = .ok (.iload_n 2, 1) := by decide +kernel
theorem dX12_cutAll_30 : decode cX12_cutAll 30 = .ok (.iaload, 1) := by decide +kernel
theorem dX12_cutAll_31 : decode cX12_cutAll 31 = .ok (.istore_n 3, 1) := by decide +kernel
theorem dX12_cutAll_32 : decode cX12_cutAll 32 = .ok (.iload_n 3, 1) := by decide +kernel
theorem dX12_cutAll_33 : decode cX12_cutAll 33 = .ok (.bipush 10, 2) := by decide +kernel
theorem dX12_cutAll_35 : decode cX12_cutAll 35 = .ok (.if_icmp .eq 9, 3) := by decide +kernel
theorem dX12_cutAll_38 : decode cX12_cutAll 38 = .ok (.iload_n 3, 1) := by decide +kernel
theorem dX12_cutAll_39 : decode cX12_cutAll 39 = .ok (.bipush 32, 2) := by decide +kernel
theorem dX12_cutAll_41 : decode cX12_cutAll 41 = .ok (.if_icmp .ne 9, 3) := by decide +kernel
theorem dX12_cutAll_50 : decode cX12_cutAll 50 = .ok (.iload_n 2, 1) := by decide +kernel
theorem dX12_cutAll_51 : decode cX12_cutAll 51 = .ok (.istore 4, 2) := by decide +kernel
theorem dX12_cutAll_53 : decode cX12_cutAll 53 = .ok (.lconst 0, 1) := by decide +kernel
theorem dX12_cutAll_54 : decode cX12_cutAll 54 = .ok (.lstore 5, 2) := by decide +kernel
theorem dX12_cutAll_56 : decode cX12_cutAll 56 = .ok (.aload_n 0, 1) := by decide +kernel
theorem dX12_cutAll_57 : decode cX12_cutAll 57 = .ok (.getfield 27, 3) := by decide +kernel
theorem dX12_cutAll_60 : decode cX12_cutAll 60 = .ok (.iload_n 1, 1) := by decide +kernel
theorem dX12_cutAll_61 : decode cX12_cutAll 61 = .ok (.iload_n 2, 1) := by decide +kernel
theorem dX12_cutAll_62 : decode cX12_cutAll 62 = .ok (.iastore, 1) := by decide +kernel
theorem dX12_cutAll_63 : decode cX12_cutAll 63 = .ok (.iload_n 3, 1) := by decide +kernel
theorem dX12_cutAll_64 : decode cX12_cutAll 64 = .ok (.invokestatic 136, 3) := by decide +kernel
theorem dX12_cutAll_279 : decode cX12_cutAll 279 = .ok (.aload_n 0, 1) := by decide +kernel
theorem dX12_cutAll_280 : decode cX12_cutAll 280 = .ok (.getfield 24, 3) := by decide +kernel
theorem dX12_cutAll_283 : decode cX12_cutAll 283 = .ok (.iload_n 1, 1) := by decide +kernel
theorem dX12_cutAll_284 : decode cX12_cutAll 284 = .ok (.iconst 0, 1) := by decide +kernel
theorem dX12_cutAll_285 : decode cX12_cutAll 285 = .ok (.iastore, 1) := by decide +kernel
theorem dX12_cutAll_286 : decode cX12_cutAll 286 = .ok (.aload_n 0, 1) := by decide +kernel
theorem dX12_cutAll_287 : decode cX12_cutAll 287 = .ok (.getfield 27, 3) := by decide +kernel
theorem dX12_cutAll_290 : decode cX12_cutAll 290 = .ok (.iload_n 1, 1) := by decide +kernel
theorem dX12_cutAll_291 : decode cX12_cutAll 291 = .ok (.aload_n 0, 1) := by decide +kernel
theorem dX12_cutAll_292 : decode cX12_cutAll 292 = .ok (.getfield 140, 3) := by decide +kernel
theorem dX12_cutAll_295 : decode cX12_cutAll 295 = .ok (.iastore, 1) := by decide +kernel
theorem dX12_cutAll_296 : decode cX12_cutAll 296 = .ok (.aload_n 0, 1) := by decide +kernel
theorem dX12_cutAll_297 : decode cX12_cutAll 297 = .ok (.iconst 0, 1) := by decide +kernel
theorem dX12_cutAll_298 : decode cX12_cutAll 298 = .ok (.putfield 159, 3) := by decide +kernel
theorem dX12_cutAll_301 : decode cX12_cutAll 301 = .ok (.aload_n 0, 1) := by decide +kernel
theorem dX12_cutAll_302 : decode cX12_cutAll 302 = .ok (.iconst 0, 1) := by decide +kernel
theorem dX12_cutAll_303 : decode cX12_cutAll 303 = .ok (.putfield 162, 3) := by decide +kernel
theorem dX12_cutAll_306 : decode cX12_cutAll 306 = .ok (.return_, 1) := by decide +kernel
theorem dX12_isLetter_0 : decode cX12_isLetter 0 = .ok (.iload_n 0, 1) := by decide +kernel
theorem dX12_isLetter_1 : decode cX12_isLetter 1 = .ok (.bipush 97, 2) := by decide +kernel
theorem dX12_isLetter_3 : decode cX12_isLetter 3 = .ok (.if_icmp .lt 13, 3) := by decide +kernel
theorem dX12_isLetter_6 : decode cX12_isLetter 6 = .ok (.iload_n 0, 1) := by decide +kernel
theorem dX12_isLetter_7 : decode cX12_isLetter 7 = .ok (.bipush 122, 2) := by decide +kernel
theorem dX12_isLetter_9 : decode cX12_isLetter 9 = .ok (.if_icmp .gt 7, 3) := by decide +kernel
theorem dX12_isLetter_12 : decode cX12_isLetter 12 = .ok (.iconst 1, 1) := by decide +kernel
theorem dX12_isLetter_13 : decode cX12_isLetter 13 = .ok (.goto 4, 3) := by decide +kernel
theorem dX12_isLetter_16 : decode cX12_isLetter 16 = .ok (.iconst 0, 1) := by decide +kernel
theorem dX12_isLetter_17 : decode cX12_isLetter 17 = .ok (.ireturn, 1) := by decide +kernel
set_option maxHeartbeats 4000000 in
set_option maxRecDepth 100000 in
theorem s_X12_isLetter {P : PP} {a0 : Int32} (I : IV P) : CtrI yX12_isLetter cX12_isLetter 1 (some Jvm.ClassFile.FieldType.boolean) ({ frames := 1, cells := 0, slots := 0, locals := 64 } : Room) 0 0 P [.int a0] (fun r P2 => P = P2 ∧ (0 ≤ r.toInt ∧ r.toInt ≤ 1) ∧ (r.toInt = 0 ∨ (((97 : Int) ≤ a0.toInt ∧ a0.toInt ≤ (122 : Int)))) ∧ (r.toInt ≠ 0 ∨ a0.toInt < 97 ∨ 122 < a0.toInt)) := by
  refine enI (lv := [(0, .int a0)]) (by decide) (Nat.le_of_ble_eq_true rfl) rfl (fun E D cy C Ci0 ret => ?_)
  have J16 : (a0.toInt < 97 ∨ 122 < a0.toInt) → G E ({ frames := 1, cells := 0, slots := 0, locals := 64 } : Room) D cy 1 P 0 0 16 [] [] := by
    intro rel16_0
    refine g_iconst (v := 0) C dX12_isLetter_16 (by decide) ?_
    exact ret _ _ _ _ _ _ dX12_isLetter_17 rfl (by decide) (by decide) ⟨rfl, (by decide), Or.inl rfl, (by show (0 : Int) ≠ 0 ∨ a0.toInt < 97 ∨ 122 < a0.toInt; omega)⟩
  refine g_iload_n C dX12_isLetter_0 rfl 0 rfl ?_
  refine g_bipush (v := 97) C dX12_isLetter_1 (by decide) ?_
  have u34699 := ti_rng a0
  refine b_icmp_lt C 16 dX12_isLetter_3 (by decide) (fun h34698 => ?_) (fun h34698 => ?_)
  · have h34698 : a0.toInt < 97 := h34698
    refine g_lv (lv' := []) [] rfl ?_
    exact J16 (by show a0.toInt < 97 ∨ 122 < a0.toInt; omega)
  · have h34698 : 97 ≤ a0.toInt := h34698
    refine g_iload_n C dX12_isLetter_6 rfl 0 rfl ?_
    refine g_bipush (v := 122) C dX12_isLetter_7 (by decide) ?_
    have u34701 := ti_rng a0
    refine b_icmp_gt C 16 dX12_isLetter_9 (by decide) (fun h34700 => ?_) (fun h34700 => ?_)
    · have h34700 : 122 < a0.toInt := h34700
      refine g_lv (lv' := []) [] rfl ?_
      exact J16 (by show a0.toInt < 97 ∨ 122 < a0.toInt; omega)
    · have h34700 : a0.toInt ≤ 122 := h34700
      refine g_iconst (v := 1) C dX12_isLetter_12 (by decide) ?_
      refine g_goto C 17 dX12_isLetter_13 (by decide) ?_
      exact ret _ _ _ _ _ _ dX12_isLetter_17 rfl (by decide) (by decide) ⟨rfl, (by decide), Or.inr (by omega), (by show (1 : Int) ≠ 0 ∨ a0.toInt < 97 ∨ 122 < a0.toInt; omega)⟩
theorem dX12_cutAll_67 : decode cX12_cutAll 67 = .ok (.ifCond .eq 85, 3) := by decide +kernel
theorem dX12_cutAll_152 : decode cX12_cutAll 152 = .ok (.iload_n 3, 1) := by decide +kernel
theorem dX12_cutAll_153 : decode cX12_cutAll 153 = .ok (.invokestatic 149, 3) := by decide +kernel
theorem dX12_isDigit_0 : decode cX12_isDigit 0 = .ok (.iload_n 0, 1) := by decide +kernel
theorem dX12_isDigit_1 : decode cX12_isDigit 1 = .ok (.bipush 48, 2) := by decide +kernel
theorem dX12_isDigit_3 : decode cX12_isDigit 3 = .ok (.if_icmp .lt 13, 3) := by decide +kernel
theorem dX12_isDigit_6 : decode cX12_isDigit 6 = .ok (.iload_n 0, 1) := by decide +kernel
theorem dX12_isDigit_7 : decode cX12_isDigit 7 = .ok (.bipush 57, 2) := by decide +kernel
theorem dX12_isDigit_9 : decode cX12_isDigit 9 = .ok (.if_icmp .gt 7, 3) := by decide +kernel
theorem dX12_isDigit_12 : decode cX12_isDigit 12 = .ok (.iconst 1, 1) := by decide +kernel
theorem dX12_isDigit_13 : decode cX12_isDigit 13 = .ok (.goto 4, 3) := by decide +kernel
theorem dX12_isDigit_16 : decode cX12_isDigit 16 = .ok (.iconst 0, 1) := by decide +kernel
theorem dX12_isDigit_17 : decode cX12_isDigit 17 = .ok (.ireturn, 1) := by decide +kernel
set_option maxHeartbeats 4000000 in
set_option maxRecDepth 100000 in
theorem s_X12_isDigit {P : PP} {a0 : Int32} (I : IV P) : CtrI yX12_isDigit cX12_isDigit 1 (some Jvm.ClassFile.FieldType.boolean) ({ frames := 1, cells := 0, slots := 0, locals := 64 } : Room) 0 0 P [.int a0] (fun r P2 => P = P2 ∧ (0 ≤ r.toInt ∧ r.toInt ≤ 1) ∧ (r.toInt = 0 ∨ (((48 : Int) ≤ a0.toInt ∧ a0.toInt ≤ (57 : Int)))) ∧ (r.toInt ≠ 0 ∨ a0.toInt < 48 ∨ 57 < a0.toInt)) := by
  refine enI (lv := [(0, .int a0)]) (by decide) (Nat.le_of_ble_eq_true rfl) rfl (fun E D cy C Ci0 ret => ?_)
  have J16 : (a0.toInt < 48 ∨ 57 < a0.toInt) → G E ({ frames := 1, cells := 0, slots := 0, locals := 64 } : Room) D cy 1 P 0 0 16 [] [] := by
    intro rel16_0
    refine g_iconst (v := 0) C dX12_isDigit_16 (by decide) ?_
    exact ret _ _ _ _ _ _ dX12_isDigit_17 rfl (by decide) (by decide) ⟨rfl, (by decide), Or.inl rfl, (by show (0 : Int) ≠ 0 ∨ a0.toInt < 48 ∨ 57 < a0.toInt; omega)⟩
  refine g_iload_n C dX12_isDigit_0 rfl 0 rfl ?_
  refine g_bipush (v := 48) C dX12_isDigit_1 (by decide) ?_
  have u34821 := ti_rng a0
  refine b_icmp_lt C 16 dX12_isDigit_3 (by decide) (fun h34820 => ?_) (fun h34820 => ?_)
  · have h34820 : a0.toInt < 48 := h34820
    refine g_lv (lv' := []) [] rfl ?_
    exact J16 (by show a0.toInt < 48 ∨ 57 < a0.toInt; omega)
  · have h34820 : 48 ≤ a0.toInt := h34820
    refine g_iload_n C dX12_isDigit_6 rfl 0 rfl ?_
    refine g_bipush (v := 57) C dX12_isDigit_7 (by decide) ?_
    have u34823 := ti_rng a0
    refine b_icmp_gt C 16 dX12_isDigit_9 (by decide) (fun h34822 => ?_) (fun h34822 => ?_)
    · have h34822 : 57 < a0.toInt := h34822
      refine g_lv (lv' := []) [] rfl ?_
      exact J16 (by show a0.toInt < 48 ∨ 57 < a0.toInt; omega)
    · have h34822 : a0.toInt ≤ 57 := h34822
      refine g_iconst (v := 1) C dX12_isDigit_12 (by decide) ?_
      refine g_goto C 17 dX12_isDigit_13 (by decide) ?_
      exact ret _ _ _ _ _ _ dX12_isDigit_17 rfl (by decide) (by decide) ⟨rfl, (by decide), Or.inr (by omega), (by show (1 : Int) ≠ 0 ∨ a0.toInt < 48 ∨ 57 < a0.toInt; omega)⟩
theorem dX12_cutAll_156 : decode cX12_cutAll 156 = .ok (.ifCond .eq 84, 3) := by decide +kernel
theorem dX12_cutAll_240 : decode cX12_cutAll 240 = .ok (.iload_n 3, 1) := by decide +kernel
theorem dX12_cutAll_241 : decode cX12_cutAll 241 = .ok (.i2l, 1) := by decide +kernel
theorem dX12_cutAll_242 : decode cX12_cutAll 242 = .ok (.lstore 5, 2) := by decide +kernel
theorem dX12_cutAll_244 : decode cX12_cutAll 244 = .ok (.aload_n 0, 1) := by decide +kernel
theorem dX12_cutAll_245 : decode cX12_cutAll 245 = .ok (.getfield 24, 3) := by decide +kernel
theorem dX12_cutAll_248 : decode cX12_cutAll 248 = .ok (.iload_n 1, 1) := by decide +kernel
theorem dX12_cutAll_249 : decode cX12_cutAll 249 = .ok (.iload_n 3, 1) := by decide +kernel
theorem dX12_cutAll_250 : decode cX12_cutAll 250 = .ok (.invokestatic 156, 3) := by decide +kernel
theorem dX12_isSignOf_0 : decode cX12_isSignOf 0 = .ok (.iload_n 0, 1) := by decide +kernel
theorem dX12_isSignOf_1 : decode cX12_isSignOf 1 = .ok (.bipush 59, 2) := by decide +kernel
theorem dX12_isSignOf_3 : decode cX12_isSignOf 3 = .ok (.if_icmp .ne 7, 3) := by decide +kernel
theorem dX12_isSignOf_6 : decode cX12_isSignOf 6 = .ok (.iconst 1, 1) := by decide +kernel
theorem dX12_isSignOf_7 : decode cX12_isSignOf 7 = .ok (.goto 4, 3) := by decide +kernel
theorem dX12_isSignOf_10 : decode cX12_isSignOf 10 = .ok (.iconst 0, 1) := by decide +kernel
theorem dX12_isSignOf_11 : decode cX12_isSignOf 11 = .ok (.ireturn, 1) := by decide +kernel
set_option maxHeartbeats 4000000 in
set_option maxRecDepth 100000 in
theorem s_X12_isSignOf {P : PP} {a0 : Int32} (I : IV P) : CtrI yX12_isSignOf cX12_isSignOf 1 (some Jvm.ClassFile.FieldType.boolean) ({ frames := 1, cells := 0, slots := 0, locals := 64 } : Room) 0 0 P [.int a0] (fun r P2 => P = P2 ∧ (0 ≤ r.toInt ∧ r.toInt ≤ 1) ∧ (r.toInt = 0 ∨ (((59 : Int) ≤ a0.toInt ∧ a0.toInt ≤ (59 : Int))))) := by
  refine enI (lv := [(0, .int a0)]) (by decide) (Nat.le_of_ble_eq_true rfl) rfl (fun E D cy C Ci0 ret => ?_)
  refine g_iload_n C dX12_isSignOf_0 rfl 0 rfl ?_
  refine g_bipush (v := 59) C dX12_isSignOf_1 (by decide) ?_
  have u34951 := ti_rng a0
  refine b_icmp_ne C 10 dX12_isSignOf_3 (by decide) (fun h34950 => ?_) (fun h34950 => ?_)
  · have h34950 : a0.toInt ≠ 59 := ti_ne h34950
    refine g_iconst (v := 0) C dX12_isSignOf_10 (by decide) ?_
    exact ret _ _ _ _ _ _ dX12_isSignOf_11 rfl (by decide) (by decide) ⟨rfl, (by decide), Or.inl rfl⟩
  · have h34950 : a0.toInt = 59 := congrArg Int32.toInt h34950
    refine g_iconst (v := 1) C dX12_isSignOf_6 (by decide) ?_
    refine g_goto C 11 dX12_isSignOf_7 (by decide) ?_
    exact ret _ _ _ _ _ _ dX12_isSignOf_11 rfl (by decide) (by decide) ⟨rfl, (by decide), Or.inr (by omega)⟩
theorem dX12_cutAll_44 : decode cX12_cutAll 44 = .ok (.iinc 2 1, 3) := by decide +kernel
theorem dX12_cutAll_47 : decode cX12_cutAll 47 = .ok (.goto (-30), 3) := by decide +kernel
theorem dX12_cutAll_70 : decode cX12_cutAll 70 = .ok (.iload_n 2, 1) := by decide +kernel
theorem dX12_cutAll_71 : decode cX12_cutAll 71 = .ok (.aload_n 0, 1) := by decide +kernel
theorem dX12_cutAll_72 : decode cX12_cutAll 72 = .ok (.getfield 140, 3) := by decide +kernel
theorem dX12_cutAll_75 : decode cX12_cutAll 75 = .ok (.if_icmp .ge 54, 3) := by decide +kernel
theorem dX12_cutAll_78 : decode cX12_cutAll 78 = .ok (.aload_n 0, 1) := by decide +kernel
theorem dX12_cutAll_79 : decode cX12_cutAll 79 = .ok (.getfield 14, 3) := by decide +kernel
theorem dX12_cutAll_82 : decode cX12_cutAll 82 = .ok (.iload_n 2, 1) := by decide +kernel
theorem dX12_cutAll_83 : decode cX12_cutAll 83 = .ok (.iaload, 1) := by decide +kernel
theorem dX12_cutAll_84 : decode cX12_cutAll 84 = .ok (.invokestatic 136, 3) := by decide +kernel
theorem dX12_cutAll_87 : decode cX12_cutAll 87 = .ok (.ifCond .eq 42, 3) := by decide +kernel
theorem dX12_cutAll_90 : decode cX12_cutAll 90 = .ok (.iload_n 2, 1) := by decide +kernel
theorem dX12_cutAll_91 : decode cX12_cutAll 91 = .ok (.iload 4, 2) := by decide +kernel
theorem dX12_cutAll_93 : decode cX12_cutAll 93 = .ok (.isub, 1) := by decide +kernel
theorem dX12_cutAll_94 : decode cX12_cutAll 94 = .ok (.bipush 8, 2) := by decide +kernel
theorem dX12_cutAll_96 : decode cX12_cutAll 96 = .ok (.if_icmp .ge 23, 3) := by decide +kernel
theorem dX12_cutAll_99 : decode cX12_cutAll 99 = .ok (.ldc2_w 143, 3) := by decide +kernel
theorem dX12_cutAll_102 : decode cX12_cutAll 102 = .ok (.lload 5, 2) := by decide +kernel
theorem dX12_cutAll_104 : decode cX12_cutAll 104 = .ok (.lmul, 1) := by decide +kernel
theorem dX12_cutAll_105 : decode cX12_cutAll 105 = .ok (.aload_n 0, 1) := by decide +kernel
theorem dX12_cutAll_106 : decode cX12_cutAll 106 = .ok (.getfield 14, 3) := by decide +kernel
theorem dX12_cutAll_109 : decode cX12_cutAll 109 = .ok (.iload_n 2, 1) := by decide +kernel
theorem dX12_cutAll_110 : decode cX12_cutAll 110 = .ok (.iaload, 1) := by decide +kernel
theorem dX12_cutAll_111 : decode cX12_cutAll 111 = .ok (.invokestatic 145, 3) := by decide +kernel
theorem dX12_cutAll_159 : decode cX12_cutAll 159 = .ok (.iload_n 2, 1) := by decide +kernel
theorem dX12_cutAll_160 : decode cX12_cutAll 160 = .ok (.aload_n 0, 1) := by decide +kernel
theorem dX12_cutAll_161 : decode cX12_cutAll 161 = .ok (.getfield 140, 3) := by decide +kernel
theorem dX12_cutAll_164 : decode cX12_cutAll 164 = .ok (.if_icmp .ge 54, 3) := by decide +kernel
theorem dX12_cutAll_167 : decode cX12_cutAll 167 = .ok (.aload_n 0, 1) := by decide +kernel
theorem dX12_cutAll_168 : decode cX12_cutAll 168 = .ok (.getfield 14, 3) := by decide +kernel
theorem dX12_cutAll_171 : decode cX12_cutAll 171 = .ok (.iload_n 2, 1) := by decide +kernel
theorem dX12_cutAll_172 : decode cX12_cutAll 172 = .ok (.iaload, 1) := by decide +kernel
theorem dX12_cutAll_173 : decode cX12_cutAll 173 = .ok (.invokestatic 149, 3) := by decide +kernel
theorem dX12_cutAll_176 : decode cX12_cutAll 176 = .ok (.ifCond .eq 42, 3) := by decide +kernel
theorem dX12_cutAll_179 : decode cX12_cutAll 179 = .ok (.iload_n 2, 1) := by decide +kernel
theorem dX12_cutAll_180 : decode cX12_cutAll 180 = .ok (.iload 4, 2) := by decide +kernel
theorem dX12_cutAll_182 : decode cX12_cutAll 182 = .ok (.isub, 1) := by decide +kernel
theorem dX12_cutAll_183 : decode cX12_cutAll 183 = .ok (.iconst 4, 1) := by decide +kernel
theorem dX12_cutAll_184 : decode cX12_cutAll 184 = .ok (.if_icmp .ge 24, 3) := by decide +kernel
theorem dX12_cutAll_187 : decode cX12_cutAll 187 = .ok (.ldc2_w 152, 3) := by decide +kernel
theorem dX12_cutAll_190 : decode cX12_cutAll 190 = .ok (.lload 5, 2) := by decide +kernel
theorem dX12_cutAll_192 : decode cX12_cutAll 192 = .ok (.lmul, 1) := by decide +kernel
theorem dX12_cutAll_193 : decode cX12_cutAll 193 = .ok (.aload_n 0, 1) := by decide +kernel
theorem dX12_cutAll_194 : decode cX12_cutAll 194 = .ok (.getfield 14, 3) := by decide +kernel
theorem dX12_cutAll_197 : decode cX12_cutAll 197 = .ok (.iload_n 2, 1) := by decide +kernel
theorem dX12_cutAll_198 : decode cX12_cutAll 198 = .ok (.iaload, 1) := by decide +kernel
theorem dX12_cutAll_199 : decode cX12_cutAll 199 = .ok (.i2l, 1) := by decide +kernel
theorem dX12_cutAll_200 : decode cX12_cutAll 200 = .ok (.ladd, 1) := by decide +kernel
theorem dX12_cutAll_201 : decode cX12_cutAll 201 = .ok (.ldc2_w 154, 3) := by decide +kernel
theorem dX12_cutAll_204 : decode cX12_cutAll 204 = .ok (.lsub, 1) := by decide +kernel
theorem dX12_cutAll_205 : decode cX12_cutAll 205 = .ok (.goto 5, 3) := by decide +kernel
theorem dX12_cutAll_253 : decode cX12_cutAll 253 = .ok (.ifCond .eq 7, 3) := by decide +kernel
theorem dX12_cutAll_256 : decode cX12_cutAll 256 = .ok (.iconst 3, 1) := by decide +kernel
theorem dX12_cutAll_257 : decode cX12_cutAll 257 = .ok (.goto 4, 3) := by decide +kernel
theorem dX12_cutAll_260 : decode cX12_cutAll 260 = .ok (.iconst 4, 1) := by decide +kernel
theorem dX12_cutAll_261 : decode cX12_cutAll 261 = .ok (.iastore, 1) := by decide +kernel
theorem dX12_cutAll_262 : decode cX12_cutAll 262 = .ok (.iinc 2 1, 3) := by decide +kernel
theorem dX12_rank_0 : decode cX12_rank 0 = .ok (.iload_n 0, 1) := by decide +kernel
theorem dX12_rank_1 : decode cX12_rank 1 = .ok (.invokestatic 136, 3) := by decide +kernel
theorem dX12_rank_4 : decode cX12_rank 4 = .ok (.ifCond .eq 10, 3) := by decide +kernel
theorem dX12_rank_7 : decode cX12_rank 7 = .ok (.iload_n 0, 1) := by decide +kernel
theorem dX12_rank_8 : decode cX12_rank 8 = .ok (.bipush 96, 2) := by decide +kernel
theorem dX12_rank_10 : decode cX12_rank 10 = .ok (.isub, 1) := by decide +kernel
theorem dX12_rank_11 : decode cX12_rank 11 = .ok (.goto 7, 3) := by decide +kernel
theorem dX12_rank_14 : decode cX12_rank 14 = .ok (.iload_n 0, 1) := by decide +kernel
theorem dX12_rank_15 : decode cX12_rank 15 = .ok (.bipush 21, 2) := by decide +kernel
theorem dX12_rank_17 : decode cX12_rank 17 = .ok (.isub, 1) := by decide +kernel
theorem dX12_rank_18 : decode cX12_rank 18 = .ok (.ireturn, 1) := by decide +kernel
set_option maxHeartbeats 4000000 in
set_option maxRecDepth 100000 in
theorem s_X12_rank {P : PP} {a0 : Int32} (I : IV P) : CtrI yX12_rank cX12_rank 1 (some Jvm.ClassFile.FieldType.int) ({ frames := 2, cells := 0, slots := 0, locals := 128 } : Room) 0 0 P [.int a0] (fun r P2 => P = P2 ∧ (True)) := by
  refine enI (lv := [(0, .int a0)]) (by decide) (Nat.le_of_ble_eq_true rfl) rfl (fun E D cy C Ci0 ret => ?_)
  refine g_iload_n C dX12_rank_0 rfl 0 rfl ?_
  refine g_callSI (b := 0) (ci := 0) (rest := []) C ms_X12_136 [.int a0] (s_X12_isLetter I) rfl rfl (by decide) (Nat.le_of_ble_eq_true rfl) (by decide) dX12_rank_1 (fun r35156 Y35157 h35158 => ?_)
  obtain ⟨rfl, h35158⟩ := h35158
  obtain ⟨h35158, hi35159, hi35160⟩ := h35158
  have hi35159 : r35156.toInt = 0 ∨ (((97 : Int) ≤ a0.toInt ∧ a0.toInt ≤ (122 : Int))) := hi35159
  have hi35160 : r35156.toInt ≠ 0 ∨ a0.toInt < 97 ∨ 122 < a0.toInt := hi35160
  have h35158 : 0 ≤ r35156.toInt ∧ r35156.toInt ≤ 1 := h35158
  refine b_if_eq C 14 dX12_rank_4 (by decide) (fun h35161 => ?_) (fun h35161 => ?_)
  · have h35161 : r35156.toInt = 0 := congrArg Int32.toInt h35161
    clear hi35159
    refine g_iload_n C dX12_rank_14 rfl 0 rfl ?_
    refine g_bipush (v := 21) C dX12_rank_15 (by decide) ?_
    refine a_isub C dX12_rank_17 (fun z35162 => ?_)
    exact ret _ _ _ _ _ _ dX12_rank_18 rfl (by decide) (by decide) ⟨rfl, trivial⟩
  · have h35161 : r35156.toInt ≠ 0 := ti_ne h35161
    replace hi35159 := hi35159.resolve_left (by omega)
    refine g_iload_n C dX12_rank_7 rfl 0 rfl ?_
    refine g_bipush (v := 96) C dX12_rank_8 (by decide) ?_
    refine s_isub C dX12_rank_10 (by show -2147483648 ≤ a0.toInt - 96 ∧ a0.toInt - 96 ≤ 2147483647; omega) (fun z35164 h35165 => ?_)
    have h35165 : z35164.toInt = a0.toInt - 96 := h35165
    refine g_goto C 18 dX12_rank_11 (by decide) ?_
    exact ret _ _ _ _ _ _ dX12_rank_18 rfl (by decide) (by decide) ⟨rfl, trivial⟩
theorem dX12_cutAll_114 : decode cX12_cutAll 114 = .ok (.i2l, 1) := by decide +kernel
theorem dX12_cutAll_115 : decode cX12_cutAll 115 = .ok (.ladd, 1) := by decide +kernel
theorem dX12_cutAll_116 : decode cX12_cutAll 116 = .ok (.goto 5, 3) := by decide +kernel
theorem dX12_cutAll_119 : decode cX12_cutAll 119 = .ok (.lload 5, 2) := by decide +kernel
theorem dX12_cutAll_121 : decode cX12_cutAll 121 = .ok (.lstore 5, 2) := by decide +kernel
theorem dX12_cutAll_123 : decode cX12_cutAll 123 = .ok (.iinc 2 1, 3) := by decide +kernel
theorem dX12_cutAll_126 : decode cX12_cutAll 126 = .ok (.goto (-56), 3) := by decide +kernel
theorem dX12_cutAll_129 : decode cX12_cutAll 129 = .ok (.aload_n 0, 1) := by decide +kernel
theorem dX12_cutAll_130 : decode cX12_cutAll 130 = .ok (.getfield 24, 3) := by decide +kernel
theorem dX12_cutAll_133 : decode cX12_cutAll 133 = .ok (.iload_n 1, 1) := by decide +kernel
theorem dX12_cutAll_134 : decode cX12_cutAll 134 = .ok (.iload_n 2, 1) := by decide +kernel
theorem dX12_cutAll_135 : decode cX12_cutAll 135 = .ok (.iload 4, 2) := by decide +kernel
theorem dX12_cutAll_137 : decode cX12_cutAll 137 = .ok (.isub, 1) := by decide +kernel
theorem dX12_cutAll_138 : decode cX12_cutAll 138 = .ok (.bipush 8, 2) := by decide +kernel
theorem dX12_cutAll_140 : decode cX12_cutAll 140 = .ok (.if_icmp .le 7, 3) := by decide +kernel
theorem dX12_cutAll_143 : decode cX12_cutAll 143 = .ok (.iconst 4, 1) := by decide +kernel
theorem dX12_cutAll_144 : decode cX12_cutAll 144 = .ok (.goto 4, 3) := by decide +kernel
theorem dX12_cutAll_147 : decode cX12_cutAll 147 = .ok (.iconst 1, 1) := by decide +kernel
theorem dX12_cutAll_148 : decode cX12_cutAll 148 = .ok (.iastore, 1) := by decide +kernel
theorem dX12_cutAll_149 : decode cX12_cutAll 149 = .ok (.goto 116, 3) := by decide +kernel
theorem dX12_cutAll_208 : decode cX12_cutAll 208 = .ok (.lload 5, 2) := by decide +kernel
theorem dX12_cutAll_210 : decode cX12_cutAll 210 = .ok (.lstore 5, 2) := by decide +kernel
theorem dX12_cutAll_212 : decode cX12_cutAll 212 = .ok (.iinc 2 1, 3) := by decide +kernel
theorem dX12_cutAll_215 : decode cX12_cutAll 215 = .ok (.goto (-56), 3) := by decide +kernel
theorem dX12_cutAll_218 : decode cX12_cutAll 218 = .ok (.aload_n 0, 1) := by decide +kernel
theorem dX12_cutAll_219 : decode cX12_cutAll 219 = .ok (.getfield 24, 3) := by decide +kernel
theorem dX12_cutAll_222 : decode cX12_cutAll 222 = .ok (.iload_n 1, 1) := by decide +kernel
theorem dX12_cutAll_223 : decode cX12_cutAll 223 = .ok (.iload_n 2, 1) := by decide +kernel
theorem dX12_cutAll_224 : decode cX12_cutAll 224 = .ok (.iload 4, 2) := by decide +kernel
theorem dX12_cutAll_226 : decode cX12_cutAll 226 = .ok (.isub, 1) := by decide +kernel
theorem dX12_cutAll_227 : decode cX12_cutAll 227 = .ok (.iconst 4, 1) := by decide +kernel
theorem dX12_cutAll_228 : decode cX12_cutAll 228 = .ok (.if_icmp .le 7, 3) := by decide +kernel
theorem dX12_cutAll_231 : decode cX12_cutAll 231 = .ok (.iconst 4, 1) := by decide +kernel
theorem dX12_cutAll_232 : decode cX12_cutAll 232 = .ok (.goto 4, 3) := by decide +kernel
theorem dX12_cutAll_235 : decode cX12_cutAll 235 = .ok (.iconst 2, 1) := by decide +kernel
theorem dX12_cutAll_236 : decode cX12_cutAll 236 = .ok (.iastore, 1) := by decide +kernel
theorem dX12_cutAll_237 : decode cX12_cutAll 237 = .ok (.goto 28, 3) := by decide +kernel
theorem dX12_cutAll_265 : decode cX12_cutAll 265 = .ok (.aload_n 0, 1) := by decide +kernel
theorem dX12_cutAll_266 : decode cX12_cutAll 266 = .ok (.getfield 30, 3) := by decide +kernel
theorem dX12_cutAll_269 : decode cX12_cutAll 269 = .ok (.iload_n 1, 1) := by decide +kernel
theorem dX12_cutAll_270 : decode cX12_cutAll 270 = .ok (.lload 5, 2) := by decide +kernel
theorem dX12_cutAll_272 : decode cX12_cutAll 272 = .ok (.lastore, 1) := by decide +kernel
theorem dX12_cutAll_273 : decode cX12_cutAll 273 = .ok (.iinc 1 1, 3) := by decide +kernel
theorem dX12_cutAll_276 : decode cX12_cutAll 276 = .ok (.goto (-259), 3) := by decide +kernel
set_option maxHeartbeats 4000000 in
set_option maxRecDepth 100000 in
theorem s_X12_cutAll {P : PP} {a0 : Nat} (I : IM P a0) (hW : MW P a0) : CtrV yX12_cutAll cX12_cutAll 7 none ({ frames := 3, cells := 0, slots := 0, locals := 192 } : Room) 0 0 P [.ref a0] (fun P2 => IM P2 a0 ∧ EM [2, 3, 4, 5, 7, 8] a0 P P2 ∧ MW P2 a0) := by
  refine enV (lv := [(0, .ref a0)]) (by decide) (Nat.le_of_ble_eq_true rfl) rfl (fun E D cy C Ci0 ret => ?_)
  have ha0 := I.2.1
  have J17 : ∀ (n17 : Nat) (P17 : PP) (v17_1 : Int32) (v17_2 : Int32), (1000 - v17_2.toInt).toNat < n17 → (IM P17 a0) → (EM [2, 3, 4, 5, 7, 8] a0 P P17) → (MW P17 a0) → (0 ≤ v17_1.toInt ∧ v17_1.toInt ≤ 1000) → (0 ≤ v17_2.toInt ∧ v17_2.toInt ≤ 1000) → (0 ≤ (pI P17 a0 2).toInt ∧ (pI P17 a0 2).toInt ≤ 0) → (v17_1.toInt ≤ v17_2.toInt) → G E ({ frames := 3, cells := 0, slots := 0, locals := 192 } : Room) D cy 7 P17 0 0 17 [(0, .ref a0), (1, .int v17_1), (2, .int v17_2)] [] := by
    intro n17
    induction n17 with
    | zero => intro P17 v17_1 v17_2 hm17 I17 X17 W17 hv17_1 hv17_2 hq17_0 rel17_0; omega
    | succ n17 ih17 =>
      intro P17 v17_1 v17_2 hm17 I17 X17 W17 hv17_1 hv17_2 hq17_0 rel17_0
      have h46463 := X17.at ha0
      have J265 : ∀ (P265 : PP) (v265_2 : Int32) (l265_5 : Int64), (IM P265 a0) → (EM [2, 3, 4, 5, 7, 8] a0 P P265) → (MW P265 a0) → (0 ≤ v265_2.toInt ∧ v265_2.toInt ≤ 1000) → (0 ≤ (pI P265 a0 2).toInt ∧ (pI P265 a0 2).toInt ≤ 0) → (1 ≤ (pI P265 a0 3).toInt ∧ (pI P265 a0 3).toInt ≤ 1000) → (∀ b, pR P265 a0 4 = some b → 1 ≤ (pI P265 b (v17_1.toInt.toNat)).toInt ∧ (pI P265 b (v17_1.toInt.toNat)).toInt ≤ 4) → (∀ b, pR P265 a0 5 = some b → 0 ≤ (pI P265 b (v17_1.toInt.toNat)).toInt ∧ (pI P265 b (v17_1.toInt.toNat)).toInt ≤ 999) → (v17_1.toInt < v265_2.toInt) → (v17_2.toInt < v265_2.toInt) → G E ({ frames := 3, cells := 0, slots := 0, locals := 192 } : Room) D cy 7 P265 0 0 265 [(0, .ref a0), (1, .int v17_1), (2, .int v265_2), (5, .long l265_5)] [] := by
        intro P265 v265_2 l265_5 I265 X265 W265 hv265_2 hq265_0 hq265_1 hq265_2 hq265_3 rel265_0 rel265_1
        have h46464 := X265.at ha0
        obtain ⟨b46465, e46466, h46467⟩ := I265.fld (h46464) 4 13 1002 rfl
        have hq265_2 := hq265_2 b46465 e46466
        obtain ⟨b46468, e46469, h46470⟩ := I265.fld (h46464) 5 13 1002 rfl
        have hq265_3 := hq265_3 b46468 e46469
        refine g_aload_n C dX12_cutAll_265 rfl 0 rfl ?_
        obtain ⟨b46471, e46472, h46473⟩ := I265.fld (h46464) 6 14 1002 rfl
        refine g_getR C fi_X12_30 rfl e46472 (h46464).1 (h46464).2 dX12_cutAll_266 ?_
        refine g_iload_n C dX12_cutAll_269 rfl 1 rfl ?_
        refine g_lload C dX12_cutAll_270 3 rfl ?_
        refine g_last (j := (v17_1.toInt.toNat)) C h46473.1 h46473.2.1 (ix_in h46473.2.2 (by omega)) dX12_cutAll_272 ?_
        refine gq (ks := []) (I265.setJ) (EM.setJ) (fun Y46474 Iy46475 Xy46476 => ?_)
        have q46477 := Xy46476.keepF 2 (by decide)
        have q46478 := Xy46476.keepF 3 (by decide)
        have q46479 := Xy46476.keepA e46466 (by decide) rfl (v17_1.toInt.toNat)
        have q46480 := Xy46476.keepA e46469 (by decide) rfl (v17_1.toInt.toNat)
        have W46481 := W265.keep I265 Xy46476 (by decide) (by decide) (by decide)
        have Xz46482 : EM [2, 3, 4, 5, 7, 8] a0 P Y46474 := EM.tr ha0 X265 (Xy46476.mono (by decide))
        have e46483 := Xy46476.ref h46464 (by decide) e46466
        have e46484 := Xy46476.ref h46464 (by decide) e46469
        have h46485 := Xy46476.at h46464
        have h46486 := Xy46476.ar h46467
        have h46487 := Xy46476.ar h46470
        refine s_iinc (lv0 := [(0, .ref a0), (2, .int v265_2), (5, .long l265_5)]) (m := 1) C dX12_cutAll_273 1 rfl (by decide) rfl (by decide) (by omega) (fun z46488 h46489 => ?_)
        have h46489 : z46488.toInt = v17_1.toInt + 1 := h46489
        refine g_goto C 17 dX12_cutAll_276 (by decide) ?_
        refine g_lv (lv' := [(0, .ref a0), (1, .int z46488), (2, .int v265_2)]) [1, 0, 2] rfl ?_
        exact ih17 Y46474 z46488 v265_2 (by omega) Iy46475 Xz46482 W46481 (by omega) (by omega) (by omega) (by show z46488.toInt ≤ v265_2.toInt; omega)
      have J261 : ∀ (P261 : PP) (l261_5 : Int64) (v261_s0 : Int32) (b261_s2 : Nat), (IM P261 a0) → (EM [2, 3, 4, 5, 7, 8] a0 P P261) → (MW P261 a0) → (0 ≤ v17_2.toInt ∧ v17_2.toInt ≤ 999) → (3 ≤ v261_s0.toInt ∧ v261_s0.toInt ≤ 4) → (Ar P261 b261_s2 13 1002) → (pR P261 a0 4 = some b261_s2) → (0 ≤ (pI P261 a0 2).toInt ∧ (pI P261 a0 2).toInt ≤ 0) → (1 ≤ (pI P261 a0 3).toInt ∧ (pI P261 a0 3).toInt ≤ 1000) → (∀ b, pR P261 a0 5 = some b → 0 ≤ (pI P261 b (v17_1.toInt.toNat)).toInt ∧ (pI P261 b (v17_1.toInt.toNat)).toInt ≤ 999) → (v17_1.toInt ≤ v17_2.toInt) → (v17_2.toInt = v17_2.toInt) → G E ({ frames := 3, cells := 0, slots := 0, locals := 192 } : Room) D cy 7 P261 0 0 261 [(0, .ref a0), (1, .int v17_1), (2, .int v17_2), (5, .long l261_5)] [.int v261_s0, .int v17_1, .ref b261_s2] := by
        intro P261 l261_5 v261_s0 b261_s2 I261 X261 W261 hv261_2 hv261_s0 hb261_s2 eb261_s2 hq261_0 hq261_1 hq261_2 rel261_0 rel261_1
        have h46490 := X261.at ha0
        obtain ⟨b46491, e46492, h46493⟩ := I261.fld (h46490) 5 13 1002 rfl
        have hq261_2 := hq261_2 b46491 e46492
        refine g_iast (j := (v17_1.toInt.toNat)) C hb261_s2.1 hb261_s2.2.1 (ix_in hb261_s2.2.2 (by omega)) dX12_cutAll_261 ?_
        refine gqW (ks := [4]) (I261.setA eb261_s2 hb261_s2 (by decide) (arOk.of rfl (by omega))) (EM.setA I261 eb261_s2 rfl (by decide)) (fun Y46494 Iy46495 Xy46496 w46497 => ?_)
        have w46497 : (pI Y46494 b261_s2 (v17_1.toInt.toNat)).toInt = v261_s0.toInt := w46497
        have q46498 := Xy46496.keepF 2 (by decide)
        have q46499 := Xy46496.keepF 3 (by decide)
        have q46500 := Xy46496.keepA e46492 (by decide) rfl (v17_1.toInt.toNat)
        have W46501 := W261.keep I261 Xy46496 (by decide) (by decide) (by decide)
        have Xz46502 : EM [2, 3, 4, 5, 7, 8] a0 P Y46494 := EM.tr ha0 X261 (Xy46496.mono (by decide))
        have e46503 := Xy46496.ref h46490 (by decide) eb261_s2
        have e46504 := Xy46496.ref h46490 (by decide) e46492
        have h46505 := Xy46496.at h46490
        have h46506 := Xy46496.ar hb261_s2
        have h46507 := Xy46496.ar h46493
        refine s_iinc (lv0 := [(0, .ref a0), (1, .int v17_1), (5, .long l261_5)]) (m := 1) C dX12_cutAll_262 2 rfl (by decide) rfl (by decide) (by omega) (fun z46508 h46509 => ?_)
        have h46509 : z46508.toInt = v17_2.toInt + 1 := h46509
        refine g_lv (lv' := [(0, .ref a0), (1, .int v17_1), (2, .int z46508), (5, .long l261_5)]) [1, 2, 0, 3] rfl ?_
        exact J265 Y46494 z46508 l261_5 Iy46495 Xz46502 W46501 (by omega) (by omega) (by omega) (fun b9 e9 => by rw [e46503] at e9; cases e9; omega) (fun b9 e9 => by rw [e46504] at e9; cases e9; omega) (by show v17_1.toInt < z46508.toInt; omega) (by show v17_2.toInt < z46508.toInt; omega)
      have J236 : ∀ (P236 : PP) (v236_2 : Int32) (l236_5 : Int64) (v236_s0 : Int32) (b236_s2 : Nat), (IM P236 a0) → (EM [2, 3, 4, 5, 7, 8] a0 P P236) → (MW P236 a0) → (0 ≤ v236_2.toInt ∧ v236_2.toInt ≤ 1000) → (2 ≤ v236_s0.toInt ∧ v236_s0.toInt ≤ 4) → (Ar P236 b236_s2 13 1002) → (pR P236 a0 4 = some b236_s2) → (0 ≤ (pI P236 a0 2).toInt ∧ (pI P236 a0 2).toInt ≤ 0) → (1 ≤ (pI P236 a0 3).toInt ∧ (pI P236 a0 3).toInt ≤ 1000) → (∀ b, pR P236 a0 5 = some b → 0 ≤ (pI P236 b (v17_1.toInt.toNat)).toInt ∧ (pI P236 b (v17_1.toInt.toNat)).toInt ≤ 999) → (v17_1.toInt < v236_2.toInt) → (v17_2.toInt < v236_2.toInt) → G E ({ frames := 3, cells := 0, slots := 0, locals := 192 } : Room) D cy 7 P236 0 0 236 [(0, .ref a0), (1, .int v17_1), (2, .int v236_2), (5, .long l236_5)] [.int v236_s0, .int v17_1, .ref b236_s2] := by
        intro P236 v236_2 l236_5 v236_s0 b236_s2 I236 X236 W236 hv236_2 hv236_s0 hb236_s2 eb236_s2 hq236_0 hq236_1 hq236_2 rel236_0 rel236_1
        have h46510 := X236.at ha0
        obtain ⟨b46511, e46512, h46513⟩ := I236.fld (h46510) 5 13 1002 rfl
        have hq236_2 := hq236_2 b46511 e46512
        refine g_iast (j := (v17_1.toInt.toNat)) C hb236_s2.1 hb236_s2.2.1 (ix_in hb236_s2.2.2 (by omega)) dX12_cutAll_236 ?_
        refine gqW (ks := [4]) (I236.setA eb236_s2 hb236_s2 (by decide) (arOk.of rfl (by omega))) (EM.setA I236 eb236_s2 rfl (by decide)) (fun Y46514 Iy46515 Xy46516 w46517 => ?_)
        have w46517 : (pI Y46514 b236_s2 (v17_1.toInt.toNat)).toInt = v236_s0.toInt := w46517
        have q46518 := Xy46516.keepF 2 (by decide)
        have q46519 := Xy46516.keepF 3 (by decide)
        have q46520 := Xy46516.keepA e46512 (by decide) rfl (v17_1.toInt.toNat)
        have W46521 := W236.keep I236 Xy46516 (by decide) (by decide) (by decide)
        have Xz46522 : EM [2, 3, 4, 5, 7, 8] a0 P Y46514 := EM.tr ha0 X236 (Xy46516.mono (by decide))
        have e46523 := Xy46516.ref h46510 (by decide) eb236_s2
        have e46524 := Xy46516.ref h46510 (by decide) e46512
        have h46525 := Xy46516.at h46510
        have h46526 := Xy46516.ar hb236_s2
        have h46527 := Xy46516.ar h46513
        refine g_goto C 265 dX12_cutAll_237 (by decide) ?_
        exact J265 Y46514 v236_2 l236_5 Iy46515 Xz46522 W46521 (by omega) (by omega) (by omega) (fun b9 e9 => by rw [e46523] at e9; cases e9; omega) (fun b9 e9 => by rw [e46524] at e9; cases e9; omega) (by show v17_1.toInt < v236_2.toInt; omega) (by show v17_2.toInt < v236_2.toInt; omega)
      have J218 : ∀ (P218 : PP) (v218_2 : Int32) (l218_5 : Int64), (IM P218 a0) → (EM [2, 3, 4, 5, 7, 8] a0 P P218) → (MW P218 a0) → (0 ≤ v218_2.toInt ∧ v218_2.toInt ≤ 1000) → (0 ≤ v17_2.toInt ∧ v17_2.toInt ≤ 999) → (0 ≤ (pI P218 a0 2).toInt ∧ (pI P218 a0 2).toInt ≤ 0) → (1 ≤ (pI P218 a0 3).toInt ∧ (pI P218 a0 3).toInt ≤ 1000) → (∀ b, pR P218 a0 5 = some b → 0 ≤ (pI P218 b (v17_1.toInt.toNat)).toInt ∧ (pI P218 b (v17_1.toInt.toNat)).toInt ≤ 999) → (v17_1.toInt ≤ v17_2.toInt) → (v17_2.toInt < v218_2.toInt) → (v17_2.toInt < v218_2.toInt) → G E ({ frames := 3, cells := 0, slots := 0, locals := 192 } : Room) D cy 7 P218 0 0 218 [(0, .ref a0), (1, .int v17_1), (2, .int v218_2), (4, .int v17_2), (5, .long l218_5)] [] := by
        intro P218 v218_2 l218_5 I218 X218 W218 hv218_2 hv218_4 hq218_0 hq218_1 hq218_2 rel218_0 rel218_1 rel218_2
        have h46528 := X218.at ha0
        obtain ⟨b46529, e46530, h46531⟩ := I218.fld (h46528) 5 13 1002 rfl
        have hq218_2 := hq218_2 b46529 e46530
        refine g_aload_n C dX12_cutAll_218 rfl 0 rfl ?_
        obtain ⟨b46532, e46533, h46534⟩ := I218.fld (h46528) 4 13 1002 rfl
        refine g_getR C fi_X12_24 rfl e46533 (h46528).1 (h46528).2 dX12_cutAll_219 ?_
        refine g_iload_n C dX12_cutAll_222 rfl 1 rfl ?_
        refine g_iload_n C dX12_cutAll_223 rfl 2 rfl ?_
        refine g_iload C dX12_cutAll_224 3 rfl ?_
        refine s_isub C dX12_cutAll_226 (by show -2147483648 ≤ v218_2.toInt - v17_2.toInt ∧ v218_2.toInt - v17_2.toInt ≤ 2147483647; omega) (fun z46535 h46536 => ?_)
        have h46536 : z46535.toInt = v218_2.toInt - v17_2.toInt := h46536
        refine g_iconst (v := 4) C dX12_cutAll_227 (by decide) ?_
        refine b_icmp_le C 235 dX12_cutAll_228 (by decide) (fun h46537 => ?_) (fun h46537 => ?_)
        · have h46537 : z46535.toInt ≤ 4 := h46537
          refine g_iconst (v := 2) C dX12_cutAll_235 (by decide) ?_
          refine g_lv (lv' := [(0, .ref a0), (1, .int v17_1), (2, .int v218_2), (5, .long l218_5)]) [0, 1, 2, 4] rfl ?_
          exact J236 P218 v218_2 l218_5 2 b46532 I218 X218 W218 (by omega) (by decide) h46534 e46533 (by omega) (by omega) (fun b9 e9 => by rw [e46530] at e9; cases e9; omega) (by show v17_1.toInt < v218_2.toInt; omega) (by show v17_2.toInt < v218_2.toInt; omega)
        · have h46537 : 4 < z46535.toInt := h46537
          refine g_iconst (v := 4) C dX12_cutAll_231 (by decide) ?_
          refine g_goto C 236 dX12_cutAll_232 (by decide) ?_
          refine g_lv (lv' := [(0, .ref a0), (1, .int v17_1), (2, .int v218_2), (5, .long l218_5)]) [0, 1, 2, 4] rfl ?_
          exact J236 P218 v218_2 l218_5 4 b46532 I218 X218 W218 (by omega) (by decide) h46534 e46533 (by omega) (by omega) (fun b9 e9 => by rw [e46530] at e9; cases e9; omega) (by show v17_1.toInt < v218_2.toInt; omega) (by show v17_2.toInt < v218_2.toInt; omega)
      have J159 : ∀ (n159 : Nat) (P159 : PP) (v159_2 : Int32) (l159_5 : Int64), (1000 - v159_2.toInt).toNat < n159 → (IM P159 a0) → (EM [2, 3, 4, 5, 7, 8] a0 P P159) → (MW P159 a0) → (0 ≤ v159_2.toInt ∧ v159_2.toInt ≤ 1000) → (0 ≤ v17_2.toInt ∧ v17_2.toInt ≤ 999) → (0 ≤ (pI P159 a0 2).toInt ∧ (pI P159 a0 2).toInt ≤ 0) → (1 ≤ (pI P159 a0 3).toInt ∧ (pI P159 a0 3).toInt ≤ 1000) → (∀ b, pR P159 a0 5 = some b → 0 ≤ (pI P159 b (v17_1.toInt.toNat)).toInt ∧ (pI P159 b (v17_1.toInt.toNat)).toInt ≤ 999) → (v17_1.toInt ≤ v17_2.toInt) → (∀ b91, pR P159 a0 1 = some b91 → v17_2.toInt < v159_2.toInt ∨ (v17_2.toInt = v159_2.toInt ∧ v159_2.toInt < (pI P159 a0 3).toInt ∧ 48 ≤ (pI P159 b91 (v159_2.toInt.toNat)).toInt ∧ (pI P159 b91 (v159_2.toInt.toNat)).toInt ≤ 57)) → (v17_2.toInt = v17_2.toInt) → G E ({ frames := 3, cells := 0, slots := 0, locals := 192 } : Room) D cy 7 P159 0 0 159 [(0, .ref a0), (1, .int v17_1), (2, .int v159_2), (4, .int v17_2), (5, .long l159_5)] [] := by
        intro n159
        induction n159 with
        | zero => intro P159 v159_2 l159_5 hm159 I159 X159 W159 hv159_2 hv159_4 hq159_0 hq159_1 hq159_2 rel159_0 rel159_1 rel159_2; omega
        | succ n159 ih159 =>
          intro P159 v159_2 l159_5 hm159 I159 X159 W159 hv159_2 hv159_4 hq159_0 hq159_1 hq159_2 rel159_0 rel159_1 rel159_2
          have h46538 := X159.at ha0
          obtain ⟨b46539, e46540, h46541⟩ := I159.fld (h46538) 5 13 1002 rfl
          have hq159_2 := hq159_2 b46539 e46540
          obtain ⟨b46542, e46543, h46544⟩ := I159.fld (h46538) 1 13 1000 rfl
          have rel159_1 := rel159_1 b46542 e46543
          have J210 : ∀ (l210_s0 : Int64), (0 ≤ v159_2.toInt ∧ v159_2.toInt ≤ 999) → (0 ≤ v17_2.toInt ∧ v17_2.toInt ≤ 999) → (0 ≤ (pI P159 a0 2).toInt ∧ (pI P159 a0 2).toInt ≤ 0) → (1 ≤ (pI P159 a0 3).toInt ∧ (pI P159 a0 3).toInt ≤ 1000) → (∀ b, pR P159 a0 1 = some b → 48 ≤ (pI P159 b (v159_2.toInt.toNat)).toInt ∧ (pI P159 b (v159_2.toInt.toNat)).toInt ≤ 57) → (∀ b, pR P159 a0 5 = some b → 0 ≤ (pI P159 b (v17_1.toInt.toNat)).toInt ∧ (pI P159 b (v17_1.toInt.toNat)).toInt ≤ 999) → (v17_1.toInt ≤ v17_2.toInt) → (v17_2.toInt ≤ v159_2.toInt) → (v17_2.toInt = v17_2.toInt) → G E ({ frames := 3, cells := 0, slots := 0, locals := 192 } : Room) D cy 7 P159 0 0 210 [(0, .ref a0), (1, .int v17_1), (2, .int v159_2), (4, .int v17_2)] [.long l210_s0] := by
            intro l210_s0 hv210_2 hv210_4 hq210_0 hq210_1 hq210_2 hq210_3 rel210_0 rel210_1 rel210_2
            have h46545 := X159.at ha0
            obtain ⟨b46546, e46547, h46548⟩ := I159.fld (h46545) 1 13 1000 rfl
            have hq210_2 := hq210_2 b46546 e46547
            obtain ⟨b46549, e46550, h46551⟩ := I159.fld (h46545) 5 13 1002 rfl
            have hq210_3 := hq210_3 b46549 e46550
            refine g_lstore (lv' := [(5, .long l210_s0), (0, .ref a0), (1, .int v17_1), (2, .int v159_2), (4, .int v17_2)]) C dX12_cutAll_210 (by decide) rfl ?_
            refine s_iinc (lv0 := [(5, .long l210_s0), (0, .ref a0), (1, .int v17_1), (4, .int v17_2)]) (m := 1) C dX12_cutAll_212 3 rfl (by decide) rfl (by decide) (by omega) (fun z46552 h46553 => ?_)
            have h46553 : z46552.toInt = v159_2.toInt + 1 := h46553
            refine g_goto C 159 dX12_cutAll_215 (by decide) ?_
            refine g_lv (lv' := [(0, .ref a0), (1, .int v17_1), (2, .int z46552), (4, .int v17_2), (5, .long l210_s0)]) [2, 3, 0, 4, 1] rfl ?_
            exact ih159 P159 z46552 l210_s0 (by omega) I159 X159 W159 (by omega) (by omega) (by omega) (by omega) (fun b9 e9 => by rw [e46550] at e9; cases e9; omega) (by show v17_1.toInt ≤ v17_2.toInt; omega) (by intro b91 e91; rw [e46547] at e91; cases e91; show v17_2.toInt < z46552.toInt ∨ (v17_2.toInt = z46552.toInt ∧ z46552.toInt < (pI P159 a0 3).toInt ∧ 48 ≤ (pI P159 b46546 (z46552.toInt.toNat)).toInt ∧ (pI P159 b46546 (z46552.toInt.toNat)).toInt ≤ 57); omega) (by show v17_2.toInt = v17_2.toInt; omega)
          refine g_iload_n C dX12_cutAll_159 rfl 2 rfl ?_
          refine g_aload_n C dX12_cutAll_160 rfl 0 rfl ?_
          refine g_getI C fi_X12_140 (by decide) (h46538).1 (h46538).2 dX12_cutAll_161 ?_
          refine b_icmp_ge C 218 dX12_cutAll_164 (by decide) (fun h46554 => ?_) (fun h46554 => ?_)
          · have h46554 : (pI P159 a0 3).toInt ≤ v159_2.toInt := h46554
            exact J218 P159 v159_2 l159_5 I159 X159 W159 (by omega) (by omega) (by omega) (by omega) (fun b9 e9 => by rw [e46540] at e9; cases e9; omega) (by show v17_1.toInt ≤ v17_2.toInt; omega) (by show v17_2.toInt < v159_2.toInt; omega) (by show v17_2.toInt < v159_2.toInt; omega)
          · have h46554 : v159_2.toInt < (pI P159 a0 3).toInt := h46554
            refine g_aload_n C dX12_cutAll_167 rfl 0 rfl ?_
            refine g_getR C fi_X12_14 rfl e46543 (h46538).1 (h46538).2 dX12_cutAll_168 ?_
            refine g_iload_n C dX12_cutAll_171 rfl 2 rfl ?_
            refine g_iald (j := (v159_2.toInt.toNat)) C h46544.1 h46544.2.1 (ix_in h46544.2.2 (by omega)) dX12_cutAll_172 ?_
            refine g_callSI (b := 0) (ci := 0) (rest := []) C ms_X12_149 [.int (pI P159 b46542 (v159_2.toInt.toNat))] (s_X12_isDigit I159.1) rfl rfl (by decide) (Nat.le_of_ble_eq_true rfl) (by decide) dX12_cutAll_173 (fun r46555 Y46556 h46557 => ?_)
            obtain ⟨rfl, h46557⟩ := h46557
            obtain ⟨h46557, hi46558, hi46559⟩ := h46557
            have hi46558 : r46555.toInt = 0 ∨ (((48 : Int) ≤ (pI P159 b46542 (v159_2.toInt.toNat)).toInt ∧ (pI P159 b46542 (v159_2.toInt.toNat)).toInt ≤ (57 : Int))) := hi46558
            have hi46559 : r46555.toInt ≠ 0 ∨ (pI P159 b46542 (v159_2.toInt.toNat)).toInt < 48 ∨ 57 < (pI P159 b46542 (v159_2.toInt.toNat)).toInt := hi46559
            have h46557 : 0 ≤ r46555.toInt ∧ r46555.toInt ≤ 1 := h46557
            refine b_if_eq C 218 dX12_cutAll_176 (by decide) (fun h46560 => ?_) (fun h46560 => ?_)
            · have h46560 : r46555.toInt = 0 := congrArg Int32.toInt h46560
              clear hi46558
              exact J218 P159 v159_2 l159_5 I159 X159 W159 (by omega) (by omega) (by omega) (by omega) (fun b9 e9 => by rw [e46540] at e9; cases e9; omega) (by show v17_1.toInt ≤ v17_2.toInt; omega) (by show v17_2.toInt < v159_2.toInt; omega) (by show v17_2.toInt < v159_2.toInt; omega)
            · have h46560 : r46555.toInt ≠ 0 := ti_ne h46560
              replace hi46558 := hi46558.resolve_left (by omega)
              refine g_iload_n C dX12_cutAll_179 rfl 2 rfl ?_
              refine g_iload C dX12_cutAll_180 3 rfl ?_
              refine s_isub C dX12_cutAll_182 (by show -2147483648 ≤ v159_2.toInt - v17_2.toInt ∧ v159_2.toInt - v17_2.toInt ≤ 2147483647; omega) (fun z46561 h46562 => ?_)
              have h46562 : z46561.toInt = v159_2.toInt - v17_2.toInt := h46562
              refine g_iconst (v := 4) C dX12_cutAll_183 (by decide) ?_
              refine b_icmp_ge C 208 dX12_cutAll_184 (by decide) (fun h46563 => ?_) (fun h46563 => ?_)
              · have h46563 : 4 ≤ z46561.toInt := h46563
                refine g_lload C dX12_cutAll_208 4 rfl ?_
                refine g_lv (lv' := [(0, .ref a0), (1, .int v17_1), (2, .int v159_2), (4, .int v17_2)]) [0, 1, 2, 3] rfl ?_
                exact J210 l159_5 (by omega) (by omega) (by omega) (by omega) (fun b9 e9 => by rw [e46543] at e9; cases e9; omega) (fun b9 e9 => by rw [e46540] at e9; cases e9; omega) (by show v17_1.toInt ≤ v17_2.toInt; omega) (by show v17_2.toInt ≤ v159_2.toInt; omega) (by show v17_2.toInt = v17_2.toInt; omega)
              · have h46563 : z46561.toInt < 4 := h46563
                refine g_ldc2 (v := 10) C kl_X12_152 dX12_cutAll_187 ?_
                refine g_topl (fun l46564 el46564 => ?_)
                have hz_l46564 : ¬ l46564 = 0 := by rw [el46564]; decide
                refine g_lload C dX12_cutAll_190 4 rfl ?_
                refine a_lmul C dX12_cutAll_192 (fun l46565 => ?_)
                refine g_aload_n C dX12_cutAll_193 rfl 0 rfl ?_
                refine g_getR C fi_X12_14 rfl e46543 (h46538).1 (h46538).2 dX12_cutAll_194 ?_
                refine g_iload_n C dX12_cutAll_197 rfl 2 rfl ?_
                refine g_iald (j := (v159_2.toInt.toNat)) C h46544.1 h46544.2.1 (ix_in h46544.2.2 (by omega)) dX12_cutAll_198 ?_
                refine a_i2l C dX12_cutAll_199 (fun l46566 => ?_)
                refine a_ladd C dX12_cutAll_200 (fun l46567 => ?_)
                refine g_ldc2 (v := 48) C kl_X12_154 dX12_cutAll_201 ?_
                refine g_topl (fun l46568 el46568 => ?_)
                have hz_l46568 : ¬ l46568 = 0 := by rw [el46568]; decide
                refine a_lsub C dX12_cutAll_204 (fun l46569 => ?_)
                refine g_goto C 210 dX12_cutAll_205 (by decide) ?_
                refine g_lv (lv' := [(0, .ref a0), (1, .int v17_1), (2, .int v159_2), (4, .int v17_2)]) [0, 1, 2, 3] rfl ?_
                exact J210 l46569 (by omega) (by omega) (by omega) (by omega) (fun b9 e9 => by rw [e46543] at e9; cases e9; omega) (fun b9 e9 => by rw [e46540] at e9; cases e9; omega) (by show v17_1.toInt ≤ v17_2.toInt; omega) (by show v17_2.toInt ≤ v159_2.toInt; omega) (by show v17_2.toInt = v17_2.toInt; omega)
      have J148 : ∀ (P148 : PP) (v148_2 : Int32) (l148_5 : Int64) (v148_s0 : Int32) (b148_s2 : Nat), (IM P148 a0) → (EM [2, 3, 4, 5, 7, 8] a0 P P148) → (MW P148 a0) → (0 ≤ v148_2.toInt ∧ v148_2.toInt ≤ 1000) → (1 ≤ v148_s0.toInt ∧ v148_s0.toInt ≤ 4) → (Ar P148 b148_s2 13 1002) → (pR P148 a0 4 = some b148_s2) → (0 ≤ (pI P148 a0 2).toInt ∧ (pI P148 a0 2).toInt ≤ 0) → (1 ≤ (pI P148 a0 3).toInt ∧ (pI P148 a0 3).toInt ≤ 1000) → (∀ b, pR P148 a0 5 = some b → 0 ≤ (pI P148 b (v17_1.toInt.toNat)).toInt ∧ (pI P148 b (v17_1.toInt.toNat)).toInt ≤ 999) → (v17_1.toInt < v148_2.toInt) → (v17_2.toInt < v148_2.toInt) → G E ({ frames := 3, cells := 0, slots := 0, locals := 192 } : Room) D cy 7 P148 0 0 148 [(0, .ref a0), (1, .int v17_1), (2, .int v148_2), (5, .long l148_5)] [.int v148_s0, .int v17_1, .ref b148_s2] := by
        intro P148 v148_2 l148_5 v148_s0 b148_s2 I148 X148 W148 hv148_2 hv148_s0 hb148_s2 eb148_s2 hq148_0 hq148_1 hq148_2 rel148_0 rel148_1
        have h46570 := X148.at ha0
        obtain ⟨b46571, e46572, h46573⟩ := I148.fld (h46570) 5 13 1002 rfl
        have hq148_2 := hq148_2 b46571 e46572
        refine g_iast (j := (v17_1.toInt.toNat)) C hb148_s2.1 hb148_s2.2.1 (ix_in hb148_s2.2.2 (by omega)) dX12_cutAll_148 ?_
        refine gqW (ks := [4]) (I148.setA eb148_s2 hb148_s2 (by decide) (arOk.of rfl (by omega))) (EM.setA I148 eb148_s2 rfl (by decide)) (fun Y46574 Iy46575 Xy46576 w46577 => ?_)
        have w46577 : (pI Y46574 b148_s2 (v17_1.toInt.toNat)).toInt = v148_s0.toInt := w46577
        have q46578 := Xy46576.keepF 2 (by decide)
        have q46579 := Xy46576.keepF 3 (by decide)
        have q46580 := Xy46576.keepA e46572 (by decide) rfl (v17_1.toInt.toNat)
        have W46581 := W148.keep I148 Xy46576 (by decide) (by decide) (by decide)
        have Xz46582 : EM [2, 3, 4, 5, 7, 8] a0 P Y46574 := EM.tr ha0 X148 (Xy46576.mono (by decide))
        have e46583 := Xy46576.ref h46570 (by decide) eb148_s2
        have e46584 := Xy46576.ref h46570 (by decide) e46572
        have h46585 := Xy46576.at h46570
        have h46586 := Xy46576.ar hb148_s2
        have h46587 := Xy46576.ar h46573
        refine g_goto C 265 dX12_cutAll_149 (by decide) ?_
        exact J265 Y46574 v148_2 l148_5 Iy46575 Xz46582 W46581 (by omega) (by omega) (by omega) (fun b9 e9 => by rw [e46583] at e9; cases e9; omega) (fun b9 e9 => by rw [e46584] at e9; cases e9; omega) (by show v17_1.toInt < v148_2.toInt; omega) (by show v17_2.toInt < v148_2.toInt; omega)
      have J129 : ∀ (P129 : PP) (v129_2 : Int32) (l129_5 : Int64), (IM P129 a0) → (EM [2, 3, 4, 5, 7, 8] a0 P P129) → (MW P129 a0) → (0 ≤ v129_2.toInt ∧ v129_2.toInt ≤ 1000) → (0 ≤ v17_2.toInt ∧ v17_2.toInt ≤ 999) → (0 ≤ (pI P129 a0 2).toInt ∧ (pI P129 a0 2).toInt ≤ 0) → (1 ≤ (pI P129 a0 3).toInt ∧ (pI P129 a0 3).toInt ≤ 1000) → (∀ b, pR P129 a0 5 = some b → 0 ≤ (pI P129 b (v17_1.toInt.toNat)).toInt ∧ (pI P129 b (v17_1.toInt.toNat)).toInt ≤ 999) → (v17_1.toInt ≤ v17_2.toInt) → (v17_2.toInt < v129_2.toInt) → (v17_2.toInt < v129_2.toInt) → G E ({ frames := 3, cells := 0, slots := 0, locals := 192 } : Room) D cy 7 P129 0 0 129 [(0, .ref a0), (1, .int v17_1), (2, .int v129_2), (4, .int v17_2), (5, .long l129_5)] [] := by
        intro P129 v129_2 l129_5 I129 X129 W129 hv129_2 hv129_4 hq129_0 hq129_1 hq129_2 rel129_0 rel129_1 rel129_2
        have h46588 := X129.at ha0
        obtain ⟨b46589, e46590, h46591⟩ := I129.fld (h46588) 5 13 1002 rfl
        have hq129_2 := hq129_2 b46589 e46590
        refine g_aload_n C dX12_cutAll_129 rfl 0 rfl ?_
        obtain ⟨b46592, e46593, h46594⟩ := I129.fld (h46588) 4 13 1002 rfl
        refine g_getR C fi_X12_24 rfl e46593 (h46588).1 (h46588).2 dX12_cutAll_130 ?_
        refine g_iload_n C dX12_cutAll_133 rfl 1 rfl ?_
        refine g_iload_n C dX12_cutAll_134 rfl 2 rfl ?_
        refine g_iload C dX12_cutAll_135 3 rfl ?_
        refine s_isub C dX12_cutAll_137 (by show -2147483648 ≤ v129_2.toInt - v17_2.toInt ∧ v129_2.toInt - v17_2.toInt ≤ 2147483647; omega) (fun z46595 h46596 => ?_)
        have h46596 : z46595.toInt = v129_2.toInt - v17_2.toInt := h46596
        refine g_bipush (v := 8) C dX12_cutAll_138 (by decide) ?_
        refine b_icmp_le C 147 dX12_cutAll_140 (by decide) (fun h46597 => ?_) (fun h46597 => ?_)
        · have h46597 : z46595.toInt ≤ 8 := h46597
          refine g_iconst (v := 1) C dX12_cutAll_147 (by decide) ?_
          refine g_lv (lv' := [(0, .ref a0), (1, .int v17_1), (2, .int v129_2), (5, .long l129_5)]) [0, 1, 2, 4] rfl ?_
          exact J148 P129 v129_2 l129_5 1 b46592 I129 X129 W129 (by omega) (by decide) h46594 e46593 (by omega) (by omega) (fun b9 e9 => by rw [e46590] at e9; cases e9; omega) (by show v17_1.toInt < v129_2.toInt; omega) (by show v17_2.toInt < v129_2.toInt; omega)
        · have h46597 : 8 < z46595.toInt := h46597
          refine g_iconst (v := 4) C dX12_cutAll_143 (by decide) ?_
          refine g_goto C 148 dX12_cutAll_144 (by decide) ?_
          refine g_lv (lv' := [(0, .ref a0), (1, .int v17_1), (2, .int v129_2), (5, .long l129_5)]) [0, 1, 2, 4] rfl ?_
          exact J148 P129 v129_2 l129_5 4 b46592 I129 X129 W129 (by omega) (by decide) h46594 e46593 (by omega) (by omega) (fun b9 e9 => by rw [e46590] at e9; cases e9; omega) (by show v17_1.toInt < v129_2.toInt; omega) (by show v17_2.toInt < v129_2.toInt; omega)
      have J70 : ∀ (n70 : Nat) (P70 : PP) (v70_2 : Int32) (l70_5 : Int64), (1000 - v70_2.toInt).toNat < n70 → (IM P70 a0) → (EM [2, 3, 4, 5, 7, 8] a0 P P70) → (MW P70 a0) → (0 ≤ v70_2.toInt ∧ v70_2.toInt ≤ 1000) → (0 ≤ v17_2.toInt ∧ v17_2.toInt ≤ 999) → (0 ≤ (pI P70 a0 2).toInt ∧ (pI P70 a0 2).toInt ≤ 0) → (1 ≤ (pI P70 a0 3).toInt ∧ (pI P70 a0 3).toInt ≤ 1000) → (∀ b, pR P70 a0 5 = some b → 0 ≤ (pI P70 b (v17_1.toInt.toNat)).toInt ∧ (pI P70 b (v17_1.toInt.toNat)).toInt ≤ 999) → (v17_1.toInt ≤ v17_2.toInt) → (∀ b91, pR P70 a0 1 = some b91 → v17_2.toInt < v70_2.toInt ∨ (v17_2.toInt = v70_2.toInt ∧ v70_2.toInt < (pI P70 a0 3).toInt ∧ 97 ≤ (pI P70 b91 (v70_2.toInt.toNat)).toInt ∧ (pI P70 b91 (v70_2.toInt.toNat)).toInt ≤ 122)) → (v17_2.toInt = v17_2.toInt) → G E ({ frames := 3, cells := 0, slots := 0, locals := 192 } : Room) D cy 7 P70 0 0 70 [(0, .ref a0), (1, .int v17_1), (2, .int v70_2), (4, .int v17_2), (5, .long l70_5)] [] := by
        intro n70
        induction n70 with
        | zero => intro P70 v70_2 l70_5 hm70 I70 X70 W70 hv70_2 hv70_4 hq70_0 hq70_1 hq70_2 rel70_0 rel70_1 rel70_2; omega
        | succ n70 ih70 =>
          intro P70 v70_2 l70_5 hm70 I70 X70 W70 hv70_2 hv70_4 hq70_0 hq70_1 hq70_2 rel70_0 rel70_1 rel70_2
          have h46598 := X70.at ha0
          obtain ⟨b46599, e46600, h46601⟩ := I70.fld (h46598) 5 13 1002 rfl
          have hq70_2 := hq70_2 b46599 e46600
          obtain ⟨b46602, e46603, h46604⟩ := I70.fld (h46598) 1 13 1000 rfl
          have rel70_1 := rel70_1 b46602 e46603
          have J121 : ∀ (l121_s0 : Int64), (0 ≤ v70_2.toInt ∧ v70_2.toInt ≤ 999) → (0 ≤ v17_2.toInt ∧ v17_2.toInt ≤ 999) → (0 ≤ (pI P70 a0 2).toInt ∧ (pI P70 a0 2).toInt ≤ 0) → (1 ≤ (pI P70 a0 3).toInt ∧ (pI P70 a0 3).toInt ≤ 1000) → (∀ b, pR P70 a0 1 = some b → 97 ≤ (pI P70 b (v70_2.toInt.toNat)).toInt ∧ (pI P70 b (v70_2.toInt.toNat)).toInt ≤ 122) → (∀ b, pR P70 a0 5 = some b → 0 ≤ (pI P70 b (v17_1.toInt.toNat)).toInt ∧ (pI P70 b (v17_1.toInt.toNat)).toInt ≤ 999) → (v17_1.toInt ≤ v17_2.toInt) → (v17_2.toInt ≤ v70_2.toInt) → (v17_2.toInt = v17_2.toInt) → G E ({ frames := 3, cells := 0, slots := 0, locals := 192 } : Room) D cy 7 P70 0 0 121 [(0, .ref a0), (1, .int v17_1), (2, .int v70_2), (4, .int v17_2)] [.long l121_s0] := by
            intro l121_s0 hv121_2 hv121_4 hq121_0 hq121_1 hq121_2 hq121_3 rel121_0 rel121_1 rel121_2
            have h46605 := X70.at ha0
            obtain ⟨b46606, e46607, h46608⟩ := I70.fld (h46605) 1 13 1000 rfl
            have hq121_2 := hq121_2 b46606 e46607
            obtain ⟨b46609, e46610, h46611⟩ := I70.fld (h46605) 5 13 1002 rfl
            have hq121_3 := hq121_3 b46609 e46610
            refine g_lstore (lv' := [(5, .long l121_s0), (0, .ref a0), (1, .int v17_1), (2, .int v70_2), (4, .int v17_2)]) C dX12_cutAll_121 (by decide) rfl ?_
            refine s_iinc (lv0 := [(5, .long l121_s0), (0, .ref a0), (1, .int v17_1), (4, .int v17_2)]) (m := 1) C dX12_cutAll_123 3 rfl (by decide) rfl (by decide) (by omega) (fun z46612 h46613 => ?_)
            have h46613 : z46612.toInt = v70_2.toInt + 1 := h46613
            refine g_goto C 70 dX12_cutAll_126 (by decide) ?_
            refine g_lv (lv' := [(0, .ref a0), (1, .int v17_1), (2, .int z46612), (4, .int v17_2), (5, .long l121_s0)]) [2, 3, 0, 4, 1] rfl ?_
            exact ih70 P70 z46612 l121_s0 (by omega) I70 X70 W70 (by omega) (by omega) (by omega) (by omega) (fun b9 e9 => by rw [e46610] at e9; cases e9; omega) (by show v17_1.toInt ≤ v17_2.toInt; omega) (by intro b91 e91; rw [e46607] at e91; cases e91; show v17_2.toInt < z46612.toInt ∨ (v17_2.toInt = z46612.toInt ∧ z46612.toInt < (pI P70 a0 3).toInt ∧ 97 ≤ (pI P70 b46606 (z46612.toInt.toNat)).toInt ∧ (pI P70 b46606 (z46612.toInt.toNat)).toInt ≤ 122); omega) (by show v17_2.toInt = v17_2.toInt; omega)
          refine g_iload_n C dX12_cutAll_70 rfl 2 rfl ?_
          refine g_aload_n C dX12_cutAll_71 rfl 0 rfl ?_
          refine g_getI C fi_X12_140 (by decide) (h46598).1 (h46598).2 dX12_cutAll_72 ?_
          refine b_icmp_ge C 129 dX12_cutAll_75 (by decide) (fun h46614 => ?_) (fun h46614 => ?_)
          · have h46614 : (pI P70 a0 3).toInt ≤ v70_2.toInt := h46614
            exact J129 P70 v70_2 l70_5 I70 X70 W70 (by omega) (by omega) (by omega) (by omega) (fun b9 e9 => by rw [e46600] at e9; cases e9; omega) (by show v17_1.toInt ≤ v17_2.toInt; omega) (by show v17_2.toInt < v70_2.toInt; omega) (by show v17_2.toInt < v70_2.toInt; omega)
          · have h46614 : v70_2.toInt < (pI P70 a0 3).toInt := h46614
            refine g_aload_n C dX12_cutAll_78 rfl 0 rfl ?_
            refine g_getR C fi_X12_14 rfl e46603 (h46598).1 (h46598).2 dX12_cutAll_79 ?_
            refine g_iload_n C dX12_cutAll_82 rfl 2 rfl ?_
            refine g_iald (j := (v70_2.toInt.toNat)) C h46604.1 h46604.2.1 (ix_in h46604.2.2 (by omega)) dX12_cutAll_83 ?_
            refine g_callSI (b := 0) (ci := 0) (rest := []) C ms_X12_136 [.int (pI P70 b46602 (v70_2.toInt.toNat))] (s_X12_isLetter I70.1) rfl rfl (by decide) (Nat.le_of_ble_eq_true rfl) (by decide) dX12_cutAll_84 (fun r46615 Y46616 h46617 => ?_)
            obtain ⟨rfl, h46617⟩ := h46617
            obtain ⟨h46617, hi46618, hi46619⟩ := h46617
            have hi46618 : r46615.toInt = 0 ∨ (((97 : Int) ≤ (pI P70 b46602 (v70_2.toInt.toNat)).toInt ∧ (pI P70 b46602 (v70_2.toInt.toNat)).toInt ≤ (122 : Int))) := hi46618
            have hi46619 : r46615.toInt ≠ 0 ∨ (pI P70 b46602 (v70_2.toInt.toNat)).toInt < 97 ∨ 122 < (pI P70 b46602 (v70_2.toInt.toNat)).toInt := hi46619
            have h46617 : 0 ≤ r46615.toInt ∧ r46615.toInt ≤ 1 := h46617
            refine b_if_eq C 129 dX12_cutAll_87 (by decide) (fun h46620 => ?_) (fun h46620 => ?_)
            · have h46620 : r46615.toInt = 0 := congrArg Int32.toInt h46620
              clear hi46618
              exact J129 P70 v70_2 l70_5 I70 X70 W70 (by omega) (by omega) (by omega) (by omega) (fun b9 e9 => by rw [e46600] at e9; cases e9; omega) (by show v17_1.toInt ≤ v17_2.toInt; omega) (by show v17_2.toInt < v70_2.toInt; omega) (by show v17_2.toInt < v70_2.toInt; omega)
            · have h46620 : r46615.toInt ≠ 0 := ti_ne h46620
              replace hi46618 := hi46618.resolve_left (by omega)
              refine g_iload_n C dX12_cutAll_90 rfl 2 rfl ?_
              refine g_iload C dX12_cutAll_91 3 rfl ?_
              refine s_isub C dX12_cutAll_93 (by show -2147483648 ≤ v70_2.toInt - v17_2.toInt ∧ v70_2.toInt - v17_2.toInt ≤ 2147483647; omega) (fun z46621 h46622 => ?_)
              have h46622 : z46621.toInt = v70_2.toInt - v17_2.toInt := h46622
              refine g_bipush (v := 8) C dX12_cutAll_94 (by decide) ?_
              refine b_icmp_ge C 119 dX12_cutAll_96 (by decide) (fun h46623 => ?_) (fun h46623 => ?_)
              · have h46623 : 8 ≤ z46621.toInt := h46623
                refine g_lload C dX12_cutAll_119 4 rfl ?_
                refine g_lv (lv' := [(0, .ref a0), (1, .int v17_1), (2, .int v70_2), (4, .int v17_2)]) [0, 1, 2, 3] rfl ?_
                exact J121 l70_5 (by omega) (by omega) (by omega) (by omega) (fun b9 e9 => by rw [e46603] at e9; cases e9; omega) (fun b9 e9 => by rw [e46600] at e9; cases e9; omega) (by show v17_1.toInt ≤ v17_2.toInt; omega) (by show v17_2.toInt ≤ v70_2.toInt; omega) (by show v17_2.toInt = v17_2.toInt; omega)
              · have h46623 : z46621.toInt < 8 := h46623
                refine g_ldc2 (v := 37) C kl_X12_143 dX12_cutAll_99 ?_
                refine g_topl (fun l46624 el46624 => ?_)
                have hz_l46624 : ¬ l46624 = 0 := by rw [el46624]; decide
                refine g_lload C dX12_cutAll_102 4 rfl ?_
                refine a_lmul C dX12_cutAll_104 (fun l46625 => ?_)
                refine g_aload_n C dX12_cutAll_105 rfl 0 rfl ?_
                refine g_getR C fi_X12_14 rfl e46603 (h46598).1 (h46598).2 dX12_cutAll_106 ?_
                refine g_iload_n C dX12_cutAll_109 rfl 2 rfl ?_
                refine g_iald (j := (v70_2.toInt.toNat)) C h46604.1 h46604.2.1 (ix_in h46604.2.2 (by omega)) dX12_cutAll_110 ?_
                refine g_callSI (b := 0) (ci := 0) (rest := [.long l46625]) C ms_X12_145 [.int (pI P70 b46602 (v70_2.toInt.toNat))] (s_X12_rank I70.1) rfl rfl (by decide) (Nat.le_of_ble_eq_true rfl) (by decide) dX12_cutAll_111 (fun r46626 Y46627 h46628 => ?_)
                obtain ⟨rfl, h46628⟩ := h46628
                have h46628 : True := h46628
                refine a_i2l C dX12_cutAll_114 (fun l46629 => ?_)
                refine a_ladd C dX12_cutAll_115 (fun l46630 => ?_)
                refine g_goto C 121 dX12_cutAll_116 (by decide) ?_
                refine g_lv (lv' := [(0, .ref a0), (1, .int v17_1), (2, .int v70_2), (4, .int v17_2)]) [0, 1, 2, 3] rfl ?_
                exact J121 l46630 (by omega) (by omega) (by omega) (by omega) (fun b9 e9 => by rw [e46603] at e9; cases e9; omega) (fun b9 e9 => by rw [e46600] at e9; cases e9; omega) (by show v17_1.toInt ≤ v17_2.toInt; omega) (by show v17_2.toInt ≤ v70_2.toInt; omega) (by show v17_2.toInt = v17_2.toInt; omega)
      have J44 : (0 ≤ v17_2.toInt ∧ v17_2.toInt ≤ 999) → (0 ≤ (pI P17 a0 2).toInt ∧ (pI P17 a0 2).toInt ≤ 0) → (1 ≤ (pI P17 a0 3).toInt ∧ (pI P17 a0 3).toInt ≤ 1000) → G E ({ frames := 3, cells := 0, slots := 0, locals := 192 } : Room) D cy 7 P17 0 0 44 [(0, .ref a0), (1, .int v17_1), (2, .int v17_2)] [] := by
        intro hv44_2 hq44_0 hq44_1
        have h46631 := X17.at ha0
        refine s_iinc (lv0 := [(0, .ref a0), (1, .int v17_1)]) (m := 1) C dX12_cutAll_44 2 rfl (by decide) rfl (by decide) (by omega) (fun z46632 h46633 => ?_)
        have h46633 : z46632.toInt = v17_2.toInt + 1 := h46633
        refine g_goto C 17 dX12_cutAll_47 (by decide) ?_
        refine g_lv (lv' := [(0, .ref a0), (1, .int v17_1), (2, .int z46632)]) [1, 2, 0] rfl ?_
        exact ih17 P17 v17_1 z46632 (by omega) I17 X17 W17 (by omega) (by omega) (by omega) (by show v17_1.toInt ≤ z46632.toInt; omega)
      refine g_iload_n C dX12_cutAll_17 rfl 2 rfl ?_
      refine g_aload_n C dX12_cutAll_18 rfl 0 rfl ?_
      refine g_getI C fi_X12_140 (by decide) (h46463).1 (h46463).2 dX12_cutAll_19 ?_
      have h46634 := I17.rg (h46463) 3 rfl
      refine b_icmp_ge C 279 dX12_cutAll_22 (by decide) (fun h46635 => ?_) (fun h46635 => ?_)
      · have h46635 : (pI P17 a0 3).toInt ≤ v17_2.toInt := h46635
        refine g_aload_n C dX12_cutAll_279 rfl 0 rfl ?_
        obtain ⟨b46636, e46637, h46638⟩ := I17.fld (h46463) 4 13 1002 rfl
        refine g_getR C fi_X12_24 rfl e46637 (h46463).1 (h46463).2 dX12_cutAll_280 ?_
        refine g_iload_n C dX12_cutAll_283 rfl 1 rfl ?_
        refine g_iconst (v := 0) C dX12_cutAll_284 (by decide) ?_
        refine g_iast (j := (v17_1.toInt.toNat)) C h46638.1 h46638.2.1 (ix_in h46638.2.2 (by omega)) dX12_cutAll_285 ?_
        refine gqW (ks := [4]) (I17.setA e46637 h46638 (by decide) (arOk.of rfl (by decide))) (EM.setA I17 e46637 rfl (by decide)) (fun Y46639 Iy46640 Xy46641 w46642 => ?_)
        have w46642 : (pI Y46639 b46636 (v17_1.toInt.toNat)).toInt = 0 := w46642
        have q46643 := Xy46641.keepF 2 (by decide)
        have q46644 := Xy46641.keepF 3 (by decide)
        have W46645 := W17.keep I17 Xy46641 (by decide) (by decide) (by decide)
        have Xz46646 : EM [2, 3, 4, 5, 7, 8] a0 P Y46639 := EM.tr ha0 X17 (Xy46641.mono (by decide))
        have e46647 := Xy46641.ref h46463 (by decide) e46637
        have h46648 := Xy46641.at h46463
        have h46649 := Xy46641.ar h46638
        refine g_aload_n C dX12_cutAll_286 rfl 0 rfl ?_
        obtain ⟨b46650, e46651, h46652⟩ := Iy46640.fld (h46648) 5 13 1002 rfl
        refine g_getR C fi_X12_27 rfl e46651 (h46648).1 (h46648).2 dX12_cutAll_287 ?_
        refine g_iload_n C dX12_cutAll_290 rfl 1 rfl ?_
        refine g_aload_n C dX12_cutAll_291 rfl 0 rfl ?_
        refine g_getI C fi_X12_140 (by decide) (h46648).1 (h46648).2 dX12_cutAll_292 ?_
        refine g_iast (j := (v17_1.toInt.toNat)) C h46652.1 h46652.2.1 (ix_in h46652.2.2 (by omega)) dX12_cutAll_295 ?_
        refine gqW (ks := [5]) (Iy46640.setA e46651 h46652 (by decide) (arOk.of rfl (by omega))) (EM.setA Iy46640 e46651 rfl (by decide)) (fun Y46653 Iy46654 Xy46655 w46656 => ?_)
        have w46656 : (pI Y46653 b46650 (v17_1.toInt.toNat)).toInt = (pI Y46639 a0 3).toInt := w46656
        have q46657 := Xy46655.keepF 2 (by decide)
        have q46658 := Xy46655.keepF 3 (by decide)
        have q46659 := Xy46655.keepA e46647 (by decide) rfl (v17_1.toInt.toNat)
        have W46660 := W46645.keep Iy46640 Xy46655 (by decide) (by decide) (by decide)
        have Xz46661 : EM [2, 3, 4, 5, 7, 8] a0 P Y46653 := EM.tr ha0 Xz46646 (Xy46655.mono (by decide))
        have e46662 := Xy46655.ref h46648 (by decide) e46647
        have e46663 := Xy46655.ref h46648 (by decide) e46651
        have h46664 := Xy46655.at h46648
        have h46665 := Xy46655.ar h46649
        have h46666 := Xy46655.ar h46652
        refine g_aload_n C dX12_cutAll_296 rfl 0 rfl ?_
        refine g_iconst (v := 0) C dX12_cutAll_297 (by decide) ?_
        refine g_putI C fi_X12_159 rfl (h46664).1 (h46664).2 dX12_cutAll_298 ?_
        refine gqW (ks := [7]) (Iy46654.setI (rgOk.of rfl (by decide))) (EM.setI Iy46654 (by decide)) (fun Y46667 Iy46668 Xy46669 w46670 => ?_)
        have w46670 : (pI Y46667 a0 7).toInt = 0 := w46670
        have q46671 := Xy46669.keepF 2 (by decide)
        have q46672 := Xy46669.keepF 3 (by decide)
        have q46673 := Xy46669.keepA e46662 (by decide) rfl (v17_1.toInt.toNat)
        have q46674 := Xy46669.keepA e46663 (by decide) rfl (v17_1.toInt.toNat)
        have W46675 := W46660.keep Iy46654 Xy46669 (by decide) (by decide) (by decide)
        have Xz46676 : EM [2, 3, 4, 5, 7, 8] a0 P Y46667 := EM.tr ha0 Xz46661 (Xy46669.mono (by decide))
        have e46677 := Xy46669.ref h46664 (by decide) e46662
        have e46678 := Xy46669.ref h46664 (by decide) e46663
        have h46679 := Xy46669.at h46664
        have h46680 := Xy46669.ar h46665
        have h46681 := Xy46669.ar h46666
        refine g_aload_n C dX12_cutAll_301 rfl 0 rfl ?_
        refine g_iconst (v := 0) C dX12_cutAll_302 (by decide) ?_
        refine g_putI C fi_X12_162 rfl (h46679).1 (h46679).2 dX12_cutAll_303 ?_
        refine gqW (ks := [8]) (Iy46668.setI (rgOk.of rfl (by decide))) (EM.setI Iy46668 (by decide)) (fun Y46682 Iy46683 Xy46684 w46685 => ?_)
        have w46685 : (pI Y46682 a0 8).toInt = 0 := w46685
        have q46686 := Xy46684.keepF 2 (by decide)
        have q46687 := Xy46684.keepF 3 (by decide)
        have q46688 := Xy46684.keepA e46677 (by decide) rfl (v17_1.toInt.toNat)
        have q46689 := Xy46684.keepA e46678 (by decide) rfl (v17_1.toInt.toNat)
        have q46690 := Xy46684.keepF 7 (by decide)
        have W46691 := W46675.keep Iy46668 Xy46684 (by decide) (by decide) (by decide)
        have Xz46692 : EM [2, 3, 4, 5, 7, 8] a0 P Y46682 := EM.tr ha0 Xz46676 (Xy46684.mono (by decide))
        have e46693 := Xy46684.ref h46679 (by decide) e46677
        have e46694 := Xy46684.ref h46679 (by decide) e46678
        have h46695 := Xy46684.at h46679
        have h46696 := Xy46684.ar h46680
        have h46697 := Xy46684.ar h46681
        exact ret _ _ _ _ _ dX12_cutAll_306 (by decide) (by decide) ⟨Iy46683, Xz46692, W46691⟩
      · have h46635 : v17_2.toInt < (pI P17 a0 3).toInt := h46635
        refine g_aload_n C dX12_cutAll_25 rfl 0 rfl ?_
        obtain ⟨b46698, e46699, h46700⟩ := I17.fld (h46463) 1 13 1000 rfl
        refine g_getR C fi_X12_14 rfl e46699 (h46463).1 (h46463).2 dX12_cutAll_26 ?_
        refine g_iload_n C dX12_cutAll_29 rfl 2 rfl ?_
        refine g_iald (j := (v17_2.toInt.toNat)) C h46700.1 h46700.2.1 (ix_in h46700.2.2 (by omega)) dX12_cutAll_30 ?_
        refine g_topi (fun z46701 h46702 => ?_)
        have h46702 : z46701.toInt = (pI P17 b46698 (v17_2.toInt.toNat)).toInt := congrArg Int32.toInt h46702
        refine g_istore_n (lv' := [(3, .int z46701), (0, .ref a0), (1, .int v17_1), (2, .int v17_2)]) C dX12_cutAll_31 rfl (by decide) rfl ?_
        refine g_iload_n C dX12_cutAll_32 rfl 0 rfl ?_
        refine g_bipush (v := 10) C dX12_cutAll_33 (by decide) ?_
        have u46704 := ti_rng z46701
        refine b_icmp_eq C 44 dX12_cutAll_35 (by decide) (fun h46703 => ?_) (fun h46703 => ?_)
        · have h46703 : z46701.toInt = 10 := congrArg Int32.toInt h46703
          refine g_lv (lv' := [(0, .ref a0), (1, .int v17_1), (2, .int v17_2)]) [1, 2, 3] rfl ?_
          exact J44 (by omega) (by omega) (by omega)
        · have h46703 : z46701.toInt ≠ 10 := ti_ne h46703
          refine g_iload_n C dX12_cutAll_38 rfl 0 rfl ?_
          refine g_bipush (v := 32) C dX12_cutAll_39 (by decide) ?_
          have u46706 := ti_rng z46701
          refine b_icmp_ne C 50 dX12_cutAll_41 (by decide) (fun h46705 => ?_) (fun h46705 => ?_)
          · have h46705 : z46701.toInt ≠ 32 := ti_ne h46705
            refine g_iload_n C dX12_cutAll_50 rfl 3 rfl ?_
            refine g_istore (lv' := [(4, .int v17_2), (3, .int z46701), (0, .ref a0), (1, .int v17_1), (2, .int v17_2)]) C dX12_cutAll_51 (by decide) rfl ?_
            refine g_lconst (v := 0) C dX12_cutAll_53 (by decide) ?_
            refine g_lstore (lv' := [(5, .long 0), (4, .int v17_2), (3, .int z46701), (0, .ref a0), (1, .int v17_1), (2, .int v17_2)]) C dX12_cutAll_54 (by decide) rfl ?_
            refine g_aload_n C dX12_cutAll_56 rfl 3 rfl ?_
            obtain ⟨b46707, e46708, h46709⟩ := I17.fld (h46463) 5 13 1002 rfl
            refine g_getR C fi_X12_27 rfl e46708 (h46463).1 (h46463).2 dX12_cutAll_57 ?_
            refine g_iload_n C dX12_cutAll_60 rfl 4 rfl ?_
            refine g_iload_n C dX12_cutAll_61 rfl 5 rfl ?_
            refine g_iast (j := (v17_1.toInt.toNat)) C h46709.1 h46709.2.1 (ix_in h46709.2.2 (by omega)) dX12_cutAll_62 ?_
            refine gqW (ks := [5]) (I17.setA e46708 h46709 (by decide) (arOk.of rfl (by omega))) (EM.setA I17 e46708 rfl (by decide)) (fun Y46710 Iy46711 Xy46712 w46713 => ?_)
            have w46713 : (pI Y46710 b46707 (v17_1.toInt.toNat)).toInt = v17_2.toInt := w46713
            have q46714 := Xy46712.keepF 2 (by decide)
            have q46715 := Xy46712.keepF 3 (by decide)
            have q46716 := Xy46712.keepA e46699 (by decide) rfl (v17_2.toInt.toNat)
            have W46717 := W17.keep I17 Xy46712 (by decide) (by decide) (by decide)
            have Xz46718 : EM [2, 3, 4, 5, 7, 8] a0 P Y46710 := EM.tr ha0 X17 (Xy46712.mono (by decide))
            have e46719 := Xy46712.ref h46463 (by decide) e46699
            have e46720 := Xy46712.ref h46463 (by decide) e46708
            have h46721 := Xy46712.at h46463
            have h46722 := Xy46712.ar h46700
            have h46723 := Xy46712.ar h46709
            refine g_iload_n C dX12_cutAll_63 rfl 2 rfl ?_
            refine g_callSI (b := 0) (ci := 0) (rest := []) C ms_X12_136 [.int z46701] (s_X12_isLetter Iy46711.1) rfl rfl (by decide) (Nat.le_of_ble_eq_true rfl) (by decide) dX12_cutAll_64 (fun r46724 Y46725 h46726 => ?_)
            obtain ⟨rfl, h46726⟩ := h46726
            obtain ⟨h46726, hi46727, hi46728⟩ := h46726
            have hi46727 : r46724.toInt = 0 ∨ (((97 : Int) ≤ z46701.toInt ∧ z46701.toInt ≤ (122 : Int))) := hi46727
            have hi46728 : r46724.toInt ≠ 0 ∨ z46701.toInt < 97 ∨ 122 < z46701.toInt := hi46728
            have h46726 : 0 ≤ r46724.toInt ∧ r46724.toInt ≤ 1 := h46726
            refine b_if_eq C 152 dX12_cutAll_67 (by decide) (fun h46729 => ?_) (fun h46729 => ?_)
            · have h46729 : r46724.toInt = 0 := congrArg Int32.toInt h46729
              clear hi46727
              refine g_iload_n C dX12_cutAll_152 rfl 2 rfl ?_
              refine g_callSI (b := 0) (ci := 0) (rest := []) C ms_X12_149 [.int z46701] (s_X12_isDigit Iy46711.1) rfl rfl (by decide) (Nat.le_of_ble_eq_true rfl) (by decide) dX12_cutAll_153 (fun r46730 Y46731 h46732 => ?_)
              obtain ⟨rfl, h46732⟩ := h46732
              obtain ⟨h46732, hi46733, hi46734⟩ := h46732
              have hi46733 : r46730.toInt = 0 ∨ (((48 : Int) ≤ z46701.toInt ∧ z46701.toInt ≤ (57 : Int))) := hi46733
              have hi46734 : r46730.toInt ≠ 0 ∨ z46701.toInt < 48 ∨ 57 < z46701.toInt := hi46734
              have h46732 : 0 ≤ r46730.toInt ∧ r46730.toInt ≤ 1 := h46732
              refine b_if_eq C 240 dX12_cutAll_156 (by decide) (fun h46735 => ?_) (fun h46735 => ?_)
              · have h46735 : r46730.toInt = 0 := congrArg Int32.toInt h46735
                clear hi46733
                refine g_iload_n C dX12_cutAll_240 rfl 2 rfl ?_
                refine a_i2l C dX12_cutAll_241 (fun l46736 => ?_)
                refine g_lstore (lv' := [(5, .long l46736), (4, .int v17_2), (3, .int z46701), (0, .ref a0), (1, .int v17_1), (2, .int v17_2)]) C dX12_cutAll_242 (by decide) rfl ?_
                refine g_aload_n C dX12_cutAll_244 rfl 3 rfl ?_
                obtain ⟨b46737, e46738, h46739⟩ := Iy46711.fld (h46721) 4 13 1002 rfl
                refine g_getR C fi_X12_24 rfl e46738 (h46721).1 (h46721).2 dX12_cutAll_245 ?_
                refine g_iload_n C dX12_cutAll_248 rfl 4 rfl ?_
                refine g_iload_n C dX12_cutAll_249 rfl 2 rfl ?_
                refine g_callSI (b := 0) (ci := 0) (rest := [.int v17_1, .ref b46737]) C ms_X12_156 [.int z46701] (s_X12_isSignOf Iy46711.1) rfl rfl (by decide) (Nat.le_of_ble_eq_true rfl) (by decide) dX12_cutAll_250 (fun r46740 Y46741 h46742 => ?_)
                obtain ⟨rfl, h46742⟩ := h46742
                obtain ⟨h46742, hi46743⟩ := h46742
                have hi46743 : r46740.toInt = 0 ∨ (((59 : Int) ≤ z46701.toInt ∧ z46701.toInt ≤ (59 : Int))) := hi46743
                have h46742 : 0 ≤ r46740.toInt ∧ r46740.toInt ≤ 1 := h46742
                refine b_if_eq C 260 dX12_cutAll_253 (by decide) (fun h46744 => ?_) (fun h46744 => ?_)
                · have h46744 : r46740.toInt = 0 := congrArg Int32.toInt h46744
                  clear hi46743
                  refine g_iconst (v := 4) C dX12_cutAll_260 (by decide) ?_
                  refine g_lv (lv' := [(0, .ref a0), (1, .int v17_1), (2, .int v17_2), (5, .long l46736)]) [3, 4, 5, 0] rfl ?_
                  exact J261 Y46710 l46736 4 b46737 Iy46711 Xz46718 W46717 (by omega) (by decide) h46739 e46738 (by omega) (by omega) (fun b9 e9 => by rw [e46720] at e9; cases e9; omega) (by show v17_1.toInt ≤ v17_2.toInt; omega) (by show v17_2.toInt = v17_2.toInt; omega)
                · have h46744 : r46740.toInt ≠ 0 := ti_ne h46744
                  replace hi46743 := hi46743.resolve_left (by omega)
                  refine g_iconst (v := 3) C dX12_cutAll_256 (by decide) ?_
                  refine g_goto C 261 dX12_cutAll_257 (by decide) ?_
                  refine g_lv (lv' := [(0, .ref a0), (1, .int v17_1), (2, .int v17_2), (5, .long l46736)]) [3, 4, 5, 0] rfl ?_
                  exact J261 Y46710 l46736 3 b46737 Iy46711 Xz46718 W46717 (by omega) (by decide) h46739 e46738 (by omega) (by omega) (fun b9 e9 => by rw [e46720] at e9; cases e9; omega) (by show v17_1.toInt ≤ v17_2.toInt; omega) (by show v17_2.toInt = v17_2.toInt; omega)
              · have h46735 : r46730.toInt ≠ 0 := ti_ne h46735
                replace hi46733 := hi46733.resolve_left (by omega)
                refine g_lv (lv' := [(0, .ref a0), (1, .int v17_1), (2, .int v17_2), (4, .int v17_2), (5, .long 0)]) [3, 4, 5, 1, 0] rfl ?_
                exact J159 _ Y46710 v17_2 0 (Nat.lt_succ_self _) Iy46711 Xz46718 W46717 (by omega) (by omega) (by omega) (by omega) (fun b9 e9 => by rw [e46720] at e9; cases e9; omega) (by show v17_1.toInt ≤ v17_2.toInt; omega) (by intro b91 e91; rw [e46719] at e91; cases e91; show v17_2.toInt < v17_2.toInt ∨ (v17_2.toInt = v17_2.toInt ∧ v17_2.toInt < (pI Y46710 a0 3).toInt ∧ 48 ≤ (pI Y46710 b46698 (v17_2.toInt.toNat)).toInt ∧ (pI Y46710 b46698 (v17_2.toInt.toNat)).toInt ≤ 57); omega) (by show v17_2.toInt = v17_2.toInt; omega)
            · have h46729 : r46724.toInt ≠ 0 := ti_ne h46729
              replace hi46727 := hi46727.resolve_left (by omega)
              refine g_lv (lv' := [(0, .ref a0), (1, .int v17_1), (2, .int v17_2), (4, .int v17_2), (5, .long 0)]) [3, 4, 5, 1, 0] rfl ?_
              exact J70 _ Y46710 v17_2 0 (Nat.lt_succ_self _) Iy46711 Xz46718 W46717 (by omega) (by omega) (by omega) (by omega) (fun b9 e9 => by rw [e46720] at e9; cases e9; omega) (by show v17_1.toInt ≤ v17_2.toInt; omega) (by intro b91 e91; rw [e46719] at e91; cases e91; show v17_2.toInt < v17_2.toInt ∨ (v17_2.toInt = v17_2.toInt ∧ v17_2.toInt < (pI Y46710 a0 3).toInt ∧ 97 ≤ (pI Y46710 b46698 (v17_2.toInt.toNat)).toInt ∧ (pI Y46710 b46698 (v17_2.toInt.toNat)).toInt ≤ 122); omega) (by show v17_2.toInt = v17_2.toInt; omega)
          · have h46705 : z46701.toInt = 32 := congrArg Int32.toInt h46705
            refine g_lv (lv' := [(0, .ref a0), (1, .int v17_1), (2, .int v17_2)]) [1, 2, 3] rfl ?_
            exact J44 (by omega) (by omega) (by omega)
  refine g_aload_n C dX12_cutAll_0 rfl 0 rfl ?_
  refine g_aload_n C dX12_cutAll_1 rfl 0 rfl ?_
  refine g_getI C fi_X12_11 (by decide) (ha0).1 (ha0).2 dX12_cutAll_2 ?_
  have h46745 := I.rg (ha0) 2 rfl
  refine g_putI C fi_X12_140 rfl (ha0).1 (ha0).2 dX12_cutAll_5 ?_
  refine gqW (ks := [3]) (I.setI (rgOk.of rfl (by omega))) (EM.setI I (by decide)) (fun Y46746 Iy46747 Xy46748 w46749 => ?_)
  have w46749 : (pI Y46746 a0 3).toInt = (pI P a0 2).toInt := w46749
  have q46750 := Xy46748.keepF 2 (by decide)
  have W46751 := hW.keep I Xy46748 (by decide) (by decide) (by decide)
  have Xz46752 : EM [2, 3, 4, 5, 7, 8] a0 P Y46746 := Xy46748.mono (by decide)
  have h46753 := Xy46748.at ha0
  refine g_aload_n C dX12_cutAll_8 rfl 0 rfl ?_
  refine g_iconst (v := 0) C dX12_cutAll_9 (by decide) ?_
  refine g_putI C fi_X12_11 rfl (h46753).1 (h46753).2 dX12_cutAll_10 ?_
  refine gqW (ks := [2]) (Iy46747.setI (rgOk.of rfl (by decide))) (EM.setI Iy46747 (by decide)) (fun Y46754 Iy46755 Xy46756 w46757 => ?_)
  have w46757 : (pI Y46754 a0 2).toInt = 0 := w46757
  have q46758 := Xy46756.keepF 3 (by decide)
  have W46759 := W46751.keep Iy46747 Xy46756 (by decide) (by decide) (by decide)
  have Xz46760 : EM [2, 3, 4, 5, 7, 8] a0 P Y46754 := EM.tr ha0 Xz46752 (Xy46756.mono (by decide))
  have h46761 := Xy46756.at h46753
  refine g_iconst (v := 0) C dX12_cutAll_13 (by decide) ?_
  refine g_istore_n (lv' := [(1, .int 0), (0, .ref a0)]) C dX12_cutAll_14 rfl (by decide) rfl ?_
  refine g_iconst (v := 0) C dX12_cutAll_15 (by decide) ?_
  refine g_istore_n (lv' := [(2, .int 0), (1, .int 0), (0, .ref a0)]) C dX12_cutAll_16 rfl (by decide) rfl ?_
  refine g_lv (lv' := [(0, .ref a0), (1, .int 0), (2, .int 0)]) [2, 1, 0] rfl ?_
  exact J17 _ Y46754 0 0 (Nat.lt_succ_self _) Iy46755 Xz46760 W46759 (by decide) (by decide) (by omega) (by show 0 ≤ 0; omega)
theorem dX12_degree_0 : decode cX12_degree 0 = .ok (.aload_n 0, 1) := by decide +kernel
theorem dX12_degree_1 : decode cX12_degree 1 = .ok (.iconst 0, 1) := by decide +kernel
theorem dX12_degree_2 : decode cX12_degree 2 = .ok (.putfield 1, 3) := by decide +kernel
theorem dX12_degree_5 : decode cX12_degree 5 = .ok (.aload_n 0, 1) := by decide +kernel
theorem dX12_degree_6 : decode cX12_degree 6 = .ok (.iload_n 1, 1) := by decide +kernel
theorem dX12_degree_7 : decode cX12_degree 7 = .ok (.iload_n 2, 1) := by decide +kernel
theorem dX12_degree_8 : decode cX12_degree 8 = .ok (.iload 4, 2) := by decide +kernel
theorem dX12_degree_10 : decode cX12_degree 10 = .ok (.invokevirtual 377, 3) := by decide +kernel
theorem dX12_degree_13 : decode cX12_degree 13 = .ok (.ifCond .eq 12, 3) := by decide +kernel
theorem dX12_degree_16 : decode cX12_degree 16 = .ok (.iload_n 3, 1) := by decide +kernel
theorem dX12_degree_17 : decode cX12_degree 17 = .ok (.iconst 0, 1) := by decide +kernel
theorem dX12_degree_18 : decode cX12_degree 18 = .ok (.iload_n 2, 1) := by decide +kernel
theorem dX12_degree_19 : decode cX12_degree 19 = .ok (.invokestatic 178, 3) := by decide +kernel
theorem dX12_degree_22 : decode cX12_degree 22 = .ok (.ifCond .ne 5, 3) := by decide +kernel
theorem dX12_degree_25 : decode cX12_degree 25 = .ok (.iconst (-1), 1) := by decide +kernel
theorem dX12_degree_26 : decode cX12_degree 26 = .ok (.ireturn, 1) := by decide +kernel
theorem dX12_degree_27 : decode cX12_degree 27 = .ok (.iconst 0, 1) := by decide +kernel
theorem dX12_degree_28 : decode cX12_degree 28 = .ok (.istore 5, 2) := by decide +kernel
theorem dX12_degree_30 : decode cX12_degree 30 = .ok (.iload 5, 2) := by decide +kernel
theorem dX12_degree_32 : decode cX12_degree 32 = .ok (.bipush 21, 2) := by decide +kernel
theorem dX12_degree_34 : decode cX12_degree 34 = .ok (.if_icmp .ge 41, 3) := by decide +kernel
theorem dX12_degree_37 : decode cX12_degree 37 = .ok (.aload_n 0, 1) := by decide +kernel
theorem dX12_degree_38 : decode cX12_degree 38 = .ok (.getfield 124, 3) := by decide +kernel
theorem dX12_degree_41 : decode cX12_degree 41 = .ok (.iload 5, 2) := by decide +kernel
theorem dX12_degree_43 : decode cX12_degree 43 = .ok (.aload_n 0, 1) := by decide +kernel
theorem dX12_degree_44 : decode cX12_degree 44 = .ok (.getfield 51, 3) := by decide +kernel
theorem dX12_degree_47 : decode cX12_degree 47 = .ok (.bipush 21, 2) := by decide +kernel
theorem dX12_degree_49 : decode cX12_degree 49 = .ok (.iload_n 1, 1) := by decide +kernel
theorem dX12_degree_50 : decode cX12_degree 50 = .ok (.imul, 1) := by decide +kernel
theorem dX12_degree_51 : decode cX12_degree 51 = .ok (.iload 5, 2) := by decide +kernel
theorem dX12_degree_53 : decode cX12_degree 53 = .ok (.iadd, 1) := by decide +kernel
theorem dX12_degree_54 : decode cX12_degree 54 = .ok (.iaload, 1) := by decide +kernel
theorem dX12_degree_55 : decode cX12_degree 55 = .ok (.iastore, 1) := by decide +kernel
theorem dX12_degree_56 : decode cX12_degree 56 = .ok (.aload_n 0, 1) := by decide +kernel
theorem dX12_degree_57 : decode cX12_degree 57 = .ok (.getfield 51, 3) := by decide +kernel
theorem dX12_degree_60 : decode cX12_degree 60 = .ok (.bipush 21, 2) := by decide +kernel
theorem dX12_degree_62 : decode cX12_degree 62 = .ok (.iload_n 1, 1) := by decide +kernel
theorem dX12_degree_63 : decode cX12_degree 63 = .ok (.imul, 1) := by decide +kernel
theorem dX12_degree_64 : decode cX12_degree 64 = .ok (.iload 5, 2) := by decide +kernel
theorem dX12_degree_66 : decode cX12_degree 66 = .ok (.iadd, 1) := by decide +kernel
theorem dX12_degree_67 : decode cX12_degree 67 = .ok (.iconst (-1), 1) := by decide +kernel
theorem dX12_degree_68 : decode cX12_degree 68 = .ok (.iastore, 1) := by decide +kernel
theorem dX12_degree_69 : decode cX12_degree 69 = .ok (.iinc 5 1, 3) := by decide +kernel
theorem dX12_degree_72 : decode cX12_degree 72 = .ok (.goto (-42), 3) := by decide +kernel
theorem dX12_degree_75 : decode cX12_degree 75 = .ok (.iconst (-1), 1) := by decide +kernel
theorem dX12_degree_76 : decode cX12_degree 76 = .ok (.istore 5, 2) := by decide +kernel
theorem dX12_degree_78 : decode cX12_degree 78 = .ok (.iconst (-1), 1) := by decide +kernel
theorem dX12_degree_79 : decode cX12_degree 79 = .ok (.istore 6, 2) := by decide +kernel
theorem dX12_degree_81 : decode cX12_degree 81 = .ok (.iconst 1, 1) := by decide +kernel
theorem dX12_degree_82 : decode cX12_degree 82 = .ok (.istore 7, 2) := by decide +kernel
theorem dX12_degree_84 : decode cX12_degree 84 = .ok (.iload 7, 2) := by decide +kernel
theorem dX12_degree_86 : decode cX12_degree 86 = .ok (.aload_n 0, 1) := by decide +kernel
theorem dX12_degree_87 : decode cX12_degree 87 = .ok (.iload_n 1, 1) := by decide +kernel
theorem dX12_degree_88 : decode cX12_degree 88 = .ok (.invokevirtual 238, 3) := by decide +kernel
theorem dX12_degree_91 : decode cX12_degree 91 = .ok (.if_icmp .gt 67, 3) := by decide +kernel
theorem dX12_degree_94 : decode cX12_degree 94 = .ok (.aload_n 0, 1) := by decide +kernel
theorem dX12_degree_95 : decode cX12_degree 95 = .ok (.getfield 51, 3) := by decide +kernel
theorem dX12_degree_98 : decode cX12_degree 98 = .ok (.bipush 21, 2) := by decide +kernel
theorem dX12_degree_100 : decode cX12_degree 100 = .ok (.iload_n 1, 1) := by decide +kernel
theorem dX12_degree_101 : decode cX12_degree 101 = .ok (.imul, 1) := by decide +kernel
theorem dX12_degree_102 : decode cX12_degree 102 = .ok (.iload 7, 2) := by decide +kernel
theorem dX12_degree_104 : decode cX12_degree 104 = .ok (.iadd, 1) := by decide +kernel
theorem dX12_degree_105 : decode cX12_degree 105 = .ok (.iconst 1, 1) := by decide +kernel
theorem dX12_degree_106 : decode cX12_degree 106 = .ok (.iastore, 1) := by decide +kernel
theorem dX12_degree_107 : decode cX12_degree 107 = .ok (.aload_n 0, 1) := by decide +kernel
theorem dX12_degree_108 : decode cX12_degree 108 = .ok (.iload_n 1, 1) := by decide +kernel
theorem dX12_degree_109 : decode cX12_degree 109 = .ok (.iload_n 2, 1) := by decide +kernel
theorem dX12_degree_110 : decode cX12_degree 110 = .ok (.invokevirtual 380, 3) := by decide +kernel
theorem dX12_degree_113 : decode cX12_degree 113 = .ok (.aload_n 0, 1) := by decide +kernel
theorem dX12_degree_114 : decode cX12_degree 114 = .ok (.iload_n 1, 1) := by decide +kernel
theorem dX12_degree_115 : decode cX12_degree 115 = .ok (.iload_n 2, 1) := by decide +kernel
theorem dX12_degree_116 : decode cX12_degree 116 = .ok (.iload_n 3, 1) := by decide +kernel
theorem dX12_degree_117 : decode cX12_degree 117 = .ok (.iload 4, 2) := by decide +kernel
theorem dX12_degree_119 : decode cX12_degree 119 = .ok (.invokevirtual 383, 3) := by decide +kernel
theorem dX12_degree_122 : decode cX12_degree 122 = .ok (.istore 8, 2) := by decide +kernel
theorem dX12_degree_124 : decode cX12_degree 124 = .ok (.aload_n 0, 1) := by decide +kernel
theorem dX12_degree_125 : decode cX12_degree 125 = .ok (.getfield 51, 3) := by decide +kernel
theorem dX12_degree_128 : decode cX12_degree 128 = .ok (.bipush 21, 2) := by decide +kernel
theorem dX12_degree_130 : decode cX12_degree 130 = .ok (.iload_n 1, 1) := by decide +kernel
theorem dX12_degree_131 : decode cX12_degree 131 = .ok (.imul, 1) := by decide +kernel
theorem dX12_degree_132 : decode cX12_degree 132 = .ok (.iload 7, 2) := by decide +kernel
theorem dX12_degree_134 : decode cX12_degree 134 = .ok (.iadd, 1) := by decide +kernel
theorem dX12_degree_135 : decode cX12_degree 135 = .ok (.iconst (-1), 1) := by decide +kernel
theorem dX12_degree_136 : decode cX12_degree 136 = .ok (.iastore, 1) := by decide +kernel
theorem dX12_degree_137 : decode cX12_degree 137 = .ok (.iload 8, 2) := by decide +kernel
theorem dX12_degree_139 : decode cX12_degree 139 = .ok (.iload 6, 2) := by decide +kernel
theorem dX12_degree_141 : decode cX12_degree 141 = .ok (.if_icmp .le 11, 3) := by decide +kernel
theorem dX12_degree_144 : decode cX12_degree 144 = .ok (.iload 8, 2) := by decide +kernel
theorem dX12_degree_146 : decode cX12_degree 146 = .ok (.istore 6, 2) := by decide +kernel
theorem dX12_degree_148 : decode cX12_degree 148 = .ok (.iload 7, 2) := by decide +kernel
theorem dX12_degree_150 : decode cX12_degree 150 = .ok (.istore 5, 2) := by decide +kernel
theorem dX12_degree_152 : decode cX12_degree 152 = .ok (.iinc 7 1, 3) := by decide +kernel
theorem dX12_degree_155 : decode cX12_degree 155 = .ok (.goto (-71), 3) := by decide +kernel
theorem dX12_degree_158 : decode cX12_degree 158 = .ok (.iconst 0, 1) := by decide +kernel
theorem dX12_degree_159 : decode cX12_degree 159 = .ok (.istore 7, 2) := by decide +kernel
theorem dX12_degree_161 : decode cX12_degree 161 = .ok (.iload 7, 2) := by decide +kernel
theorem dX12_degree_163 : decode cX12_degree 163 = .ok (.bipush 21, 2) := by decide +kernel
theorem dX12_degree_165 : decode cX12_degree 165 = .ok (.if_icmp .ge 28, 3) := by decide +kernel
theorem dX12_degree_168 : decode cX12_degree 168 = .ok (.aload_n 0, 1) := by decide +kernel
theorem dX12_degree_169 : decode cX12_degree 169 = .ok (.getfield 51, 3) := by decide +kernel
theorem dX12_degree_172 : decode cX12_degree 172 = .ok (.bipush 21, 2) := by decide +kernel
theorem dX12_degree_174 : decode cX12_degree 174 = .ok (.iload_n 1, 1) := by decide +kernel
theorem dX12_degree_175 : decode cX12_degree 175 = .ok (.imul, 1) := by decide +kernel
theorem dX12_degree_176 : decode cX12_degree 176 = .ok (.iload 7, 2) := by decide +kernel
theorem dX12_degree_178 : decode cX12_degree 178 = .ok (.iadd, 1) := by decide +kernel
theorem dX12_degree_179 : decode cX12_degree 179 = .ok (.aload_n 0, 1) := by decide +kernel
theorem dX12_degree_180 : decode cX12_degree 180 = .ok (.getfield 124, 3) := by decide +kernel
theorem dX12_degree_183 : decode cX12_degree 183 = .ok (.iload 7, 2) := by decide +kernel
theorem dX12_degree_185 : decode cX12_degree 185 = .ok (.iaload, 1) := by decide +kernel
theorem dX12_degree_186 : decode cX12_degree 186 = .ok (.iastore, 1) := by decide +kernel
theorem dX12_degree_187 : decode cX12_degree 187 = .ok (.iinc 7 1, 3) := by decide +kernel
theorem dX12_degree_190 : decode cX12_degree 190 = .ok (.goto (-29), 3) := by decide +kernel
theorem dX12_degree_193 : decode cX12_degree 193 = .ok (.iload 5, 2) := by decide +kernel
theorem dX12_degree_195 : decode cX12_degree 195 = .ok (.ireturn, 1) := by decide +kernel
set_option maxHeartbeats 4000000 in
set_option maxRecDepth 100000 in
theorem s_X12_degree {P : PP} {a0 : Nat} {a1 : Int32} {a2 : Int32} {a3 : Int32} {a4 : Int32} (I : IM P a0) (hW : MW P a0) : CtrI yX12_degree cX12_degree 9 (some Jvm.ClassFile.FieldType.int) ({ frames := 5, cells := 0, slots := 0, locals := 320 } : Room) 0 0 P [.ref a0, .int a1, .int a2, .int a3, .int a4] (fun r P2 => IM P2 a0 ∧ EM [0, 12, 28, 29, 30, 31, 33, 34, 35, 36, 37, 38, 43, 44] a0 P P2 ∧ MW P2 a0 ∧ (-1 ≤ r.toInt ∧ r.toInt ≤ 20)) := by
  refine enI (lv := [(0, .ref a0), (1, .int a1), (2, .int a2), (3, .int a3), (4, .int a4)]) (by decide) (Nat.le_of_ble_eq_true rfl) rfl (fun E D cy C Ci0 ret => ?_)
  have ha0 := I.2.1
  have J161 : ∀ (n161 : Nat) (P161 : PP) (v161_5 : Int32) (v161_7 : Int32), (21 - v161_7.toInt).toNat < n161 → (IM P161 a0) → (EM [0, 12, 28, 29, 30, 31, 33, 34, 35, 36, 37, 38, 43, 44] a0 P P161) → (MW P161 a0) → (0 ≤ a1.toInt ∧ a1.toInt ≤ 1) → (-1 ≤ v161_5.toInt ∧ v161_5.toInt ≤ 20) → (0 ≤ v161_7.toInt ∧ v161_7.toInt ≤ 21) → (0 ≤ (pI P161 a0 0).toInt ∧ (pI P161 a0 0).toInt ≤ 0) → (∀ b, pR P161 a0 10 = some b → 1 ≤ (pI P161 b (a1.toInt.toNat)).toInt ∧ (pI P161 b (a1.toInt.toNat)).toInt ≤ 16) → G E ({ frames := 5, cells := 0, slots := 0, locals := 320 } : Room) D cy 9 P161 0 0 161 [(0, .ref a0), (1, .int a1), (5, .int v161_5), (7, .int v161_7)] [] := by
    intro n161
    induction n161 with
    | zero => intro P161 v161_5 v161_7 hm161 I161 X161 W161 hv161_1 hv161_5 hv161_7 hq161_0 hq161_1; omega
    | succ n161 ih161 =>
      intro P161 v161_5 v161_7 hm161 I161 X161 W161 hv161_1 hv161_5 hv161_7 hq161_0 hq161_1
      have h49527 := X161.at ha0
      obtain ⟨b49528, e49529, h49530⟩ := I161.fld (h49527) 10 13 2 rfl
      have hq161_1 := hq161_1 b49528 e49529
      refine g_iload C dX12_degree_161 3 rfl ?_
      refine g_bipush (v := 21) C dX12_degree_163 (by decide) ?_
      refine b_icmp_ge C 193 dX12_degree_165 (by decide) (fun h49531 => ?_) (fun h49531 => ?_)
      · have h49531 : 21 ≤ v161_7.toInt := h49531
        refine g_iload C dX12_degree_193 2 rfl ?_
        exact ret _ _ _ _ _ _ dX12_degree_195 rfl (by decide) (by decide) ⟨I161, X161, W161, (by omega)⟩
      · have h49531 : v161_7.toInt < 21 := h49531
        refine g_aload_n C dX12_degree_168 rfl 0 rfl ?_
        obtain ⟨b49532, e49533, h49534⟩ := I161.fld (h49527) 12 13 63 rfl
        refine g_getR C fi_X12_51 rfl e49533 (h49527).1 (h49527).2 dX12_degree_169 ?_
        refine g_bipush (v := 21) C dX12_degree_172 (by decide) ?_
        refine g_iload_n C dX12_degree_174 rfl 1 rfl ?_
        refine s_imul C dX12_degree_175 (by show -2147483648 ≤ 21 * a1.toInt ∧ 21 * a1.toInt ≤ 2147483647; omega) (fun z49535 h49536 => ?_)
        have h49536 : z49535.toInt = 21 * a1.toInt := h49536
        refine g_iload C dX12_degree_176 3 rfl ?_
        refine s_iadd C dX12_degree_178 (by show -2147483648 ≤ z49535.toInt + v161_7.toInt ∧ z49535.toInt + v161_7.toInt ≤ 2147483647; omega) (fun z49537 h49538 => ?_)
        have h49538 : z49537.toInt = z49535.toInt + v161_7.toInt := h49538
        refine g_aload_n C dX12_degree_179 rfl 0 rfl ?_
        obtain ⟨b49539, e49540, h49541⟩ := I161.fld (h49527) 44 13 21 rfl
        refine g_getR C fi_X12_124 rfl e49540 (h49527).1 (h49527).2 dX12_degree_180 ?_
        refine g_iload C dX12_degree_183 3 rfl ?_
        refine g_iald (j := (v161_7.toInt.toNat)) C h49541.1 h49541.2.1 (ix_in h49541.2.2 (by omega)) dX12_degree_185 ?_
        have h49542 := I161.arr e49540 rfl (v161_7.toInt.toNat)
        refine g_iast (j := (z49537.toInt.toNat)) C h49534.1 h49534.2.1 (ix_in h49534.2.2 (by omega)) dX12_degree_186 ?_
        refine gqW (ks := [12]) (I161.setA e49533 h49534 (by decide) (arOk.of rfl (by omega))) (EM.setA I161 e49533 rfl (by decide)) (fun Y49543 Iy49544 Xy49545 w49546 => ?_)
        have w49546 : (pI Y49543 b49532 (z49537.toInt.toNat)).toInt = (pI P161 b49539 (v161_7.toInt.toNat)).toInt := w49546
        have q49547 := Xy49545.keepF 0 (by decide)
        have q49548 := Xy49545.keepA e49529 (by decide) rfl (a1.toInt.toNat)
        have q49549 := Xy49545.keepA e49540 (by decide) rfl (v161_7.toInt.toNat)
        have W49550 := W161.keep I161 Xy49545 (by decide) (by decide) (by decide)
        have Xz49551 : EM [0, 12, 28, 29, 30, 31, 33, 34, 35, 36, 37, 38, 43, 44] a0 P Y49543 := EM.tr ha0 X161 (Xy49545.mono (by decide))
        have e49552 := Xy49545.ref h49527 (by decide) e49529
        have e49553 := Xy49545.ref h49527 (by decide) e49533
        have e49554 := Xy49545.ref h49527 (by decide) e49540
        have h49555 := Xy49545.at h49527
        have h49556 := Xy49545.ar h49530
        have h49557 := Xy49545.ar h49534
        have h49558 := Xy49545.ar h49541
        refine s_iinc (lv0 := [(0, .ref a0), (1, .int a1), (5, .int v161_5)]) (m := 1) C dX12_degree_187 3 rfl (by decide) rfl (by decide) (by omega) (fun z49559 h49560 => ?_)
        have h49560 : z49559.toInt = v161_7.toInt + 1 := h49560
        refine g_goto C 161 dX12_degree_190 (by decide) ?_
        refine g_lv (lv' := [(0, .ref a0), (1, .int a1), (5, .int v161_5), (7, .int z49559)]) [1, 2, 3, 0] rfl ?_
        exact ih161 Y49543 v161_5 z49559 (by omega) Iy49544 Xz49551 W49550 (by omega) (by omega) (by omega) (by omega) (fun b9 e9 => by rw [e49552] at e9; cases e9; omega)
  have J84 : ∀ (n84 : Nat) (P84 : PP) (v84_5 : Int32) (v84_6 : Int32) (v84_7 : Int32), (21 - v84_7.toInt).toNat < n84 → (IM P84 a0) → (EM [0, 12, 28, 29, 30, 31, 33, 34, 35, 36, 37, 38, 43, 44] a0 P P84) → (MW P84 a0) → (0 ≤ a1.toInt ∧ a1.toInt ≤ 1) → (1 ≤ a2.toInt ∧ a2.toInt ≤ 11) → (0 ≤ a3.toInt ∧ a3.toInt ≤ 11) → (0 ≤ a4.toInt ∧ a4.toInt ≤ 1) → (-1 ≤ v84_5.toInt ∧ v84_5.toInt ≤ 20) → (-1 ≤ v84_6.toInt) → (1 ≤ v84_7.toInt ∧ v84_7.toInt ≤ 21) → (0 ≤ (pI P84 a0 0).toInt ∧ (pI P84 a0 0).toInt ≤ 0) → (∀ b, pR P84 a0 10 = some b → 1 ≤ (pI P84 b (a1.toInt.toNat)).toInt ∧ (pI P84 b (a1.toInt.toNat)).toInt ≤ 16) → G E ({ frames := 5, cells := 0, slots := 0, locals := 320 } : Room) D cy 9 P84 0 0 84 [(0, .ref a0), (1, .int a1), (2, .int a2), (3, .int a3), (4, .int a4), (5, .int v84_5), (6, .int v84_6), (7, .int v84_7)] [] := by
    intro n84
    induction n84 with
    | zero => intro P84 v84_5 v84_6 v84_7 hm84 I84 X84 W84 hv84_1 hv84_2 hv84_3 hv84_4 hv84_5 hv84_6 hv84_7 hq84_0 hq84_1; omega
    | succ n84 ih84 =>
      intro P84 v84_5 v84_6 v84_7 hm84 I84 X84 W84 hv84_1 hv84_2 hv84_3 hv84_4 hv84_5 hv84_6 hv84_7 hq84_0 hq84_1
      have h49561 := X84.at ha0
      obtain ⟨b49562, e49563, h49564⟩ := I84.fld (h49561) 10 13 2 rfl
      have hq84_1 := hq84_1 b49562 e49563
      have J152 : ∀ (P152 : PP) (v152_5 : Int32) (v152_6 : Int32), (IM P152 a0) → (EM [0, 12, 28, 29, 30, 31, 33, 34, 35, 36, 37, 38, 43, 44] a0 P P152) → (MW P152 a0) → (0 ≤ a1.toInt ∧ a1.toInt ≤ 1) → (1 ≤ a2.toInt ∧ a2.toInt ≤ 11) → (0 ≤ a3.toInt ∧ a3.toInt ≤ 11) → (0 ≤ a4.toInt ∧ a4.toInt ≤ 1) → (-1 ≤ v152_5.toInt ∧ v152_5.toInt ≤ 20) → (-1 ≤ v152_6.toInt) → (1 ≤ v84_7.toInt ∧ v84_7.toInt ≤ 20) → (0 ≤ (pI P152 a0 0).toInt ∧ (pI P152 a0 0).toInt ≤ 0) → (∀ b, pR P152 a0 10 = some b → 1 ≤ (pI P152 b (a1.toInt.toNat)).toInt ∧ (pI P152 b (a1.toInt.toNat)).toInt ≤ 16) → G E ({ frames := 5, cells := 0, slots := 0, locals := 320 } : Room) D cy 9 P152 0 0 152 [(0, .ref a0), (1, .int a1), (2, .int a2), (3, .int a3), (4, .int a4), (5, .int v152_5), (6, .int v152_6), (7, .int v84_7)] [] := by
        intro P152 v152_5 v152_6 I152 X152 W152 hv152_1 hv152_2 hv152_3 hv152_4 hv152_5 hv152_6 hv152_7 hq152_0 hq152_1
        have h49565 := X152.at ha0
        obtain ⟨b49566, e49567, h49568⟩ := I152.fld (h49565) 10 13 2 rfl
        have hq152_1 := hq152_1 b49566 e49567
        refine s_iinc (lv0 := [(0, .ref a0), (1, .int a1), (2, .int a2), (3, .int a3), (4, .int a4), (5, .int v152_5), (6, .int v152_6)]) (m := 1) C dX12_degree_152 7 rfl (by decide) rfl (by decide) (by omega) (fun z49569 h49570 => ?_)
        have h49570 : z49569.toInt = v84_7.toInt + 1 := h49570
        refine g_goto C 84 dX12_degree_155 (by decide) ?_
        refine g_lv (lv' := [(0, .ref a0), (1, .int a1), (2, .int a2), (3, .int a3), (4, .int a4), (5, .int v152_5), (6, .int v152_6), (7, .int z49569)]) [1, 2, 3, 4, 5, 6, 7, 0] rfl ?_
        exact ih84 P152 v152_5 v152_6 z49569 (by omega) I152 X152 W152 (by omega) (by omega) (by omega) (by omega) (by omega) (by omega) (by omega) (by omega) (fun b9 e9 => by rw [e49567] at e9; cases e9; omega)
      refine g_iload C dX12_degree_84 7 rfl ?_
      refine g_aload_n C dX12_degree_86 rfl 0 rfl ?_
      refine g_iload_n C dX12_degree_87 rfl 1 rfl ?_
      refine g_callVI (rest := [.int v84_7]) C mv_X12_238 [.int a1] (s_X12_allOf I84 (by omega) W84) (h49561).1 (h49561).2 rfl rfl (by decide) (Nat.le_of_ble_eq_true rfl) (by decide) dX12_degree_88 (fun r49571 Y49572 h49573 => ?_)
      obtain ⟨rfl, h49573⟩ := h49573
      obtain ⟨h49573, hi49574⟩ := h49573
      obtain ⟨b49575, e49576, h49577⟩ := I84.fld (h49561) 15 13 3 rfl
      have hi49574 : (r49571.toInt = 0 ∧ (pI P84 b49562 (a1.toInt.toNat)).toInt = 0) ∨ r49571.toInt = (pI P84 b49562 (a1.toInt.toNat)).toInt + (pI P84 b49575 (a1.toInt.toNat)).toInt := hi49574 b49562 b49575 e49563 e49576
      have h49578 := I84.arr e49576 rfl (a1.toInt.toNat)
      have h49573 : 0 ≤ r49571.toInt ∧ r49571.toInt ≤ 20 := h49573
      refine b_icmp_gt C 158 dX12_degree_91 (by decide) (fun h49579 => ?_) (fun h49579 => ?_)
      · have h49579 : r49571.toInt < v84_7.toInt := h49579
        refine g_iconst (v := 0) C dX12_degree_158 (by decide) ?_
        refine g_istore (lv' := [(7, .int 0), (0, .ref a0), (1, .int a1), (2, .int a2), (3, .int a3), (4, .int a4), (5, .int v84_5), (6, .int v84_6)]) C dX12_degree_159 (by decide) rfl ?_
        refine g_lv (lv' := [(0, .ref a0), (1, .int a1), (5, .int v84_5), (7, .int 0)]) [1, 2, 6, 0] rfl ?_
        exact J161 _ P84 v84_5 0 (Nat.lt_succ_self _) I84 X84 W84 (by omega) (by omega) (by decide) (by omega) (fun b9 e9 => by rw [e49563] at e9; cases e9; omega)
      · have h49579 : v84_7.toInt ≤ r49571.toInt := h49579
        refine g_aload_n C dX12_degree_94 rfl 0 rfl ?_
        obtain ⟨b49580, e49581, h49582⟩ := I84.fld (h49561) 12 13 63 rfl
        refine g_getR C fi_X12_51 rfl e49581 (h49561).1 (h49561).2 dX12_degree_95 ?_
        refine g_bipush (v := 21) C dX12_degree_98 (by decide) ?_
        refine g_iload_n C dX12_degree_100 rfl 1 rfl ?_
        refine s_imul C dX12_degree_101 (by show -2147483648 ≤ 21 * a1.toInt ∧ 21 * a1.toInt ≤ 2147483647; omega) (fun z49583 h49584 => ?_)
        have h49584 : z49583.toInt = 21 * a1.toInt := h49584
        refine g_iload C dX12_degree_102 7 rfl ?_
        refine s_iadd C dX12_degree_104 (by show -2147483648 ≤ z49583.toInt + v84_7.toInt ∧ z49583.toInt + v84_7.toInt ≤ 2147483647; omega) (fun z49585 h49586 => ?_)
        have h49586 : z49585.toInt = z49583.toInt + v84_7.toInt := h49586
        refine g_iconst (v := 1) C dX12_degree_105 (by decide) ?_
        refine g_iast (j := (z49585.toInt.toNat)) C h49582.1 h49582.2.1 (ix_in h49582.2.2 (by omega)) dX12_degree_106 ?_
        refine gqW (ks := [12]) (I84.setA e49581 h49582 (by decide) (arOk.of rfl (by decide))) (EM.setA I84 e49581 rfl (by decide)) (fun Y49587 Iy49588 Xy49589 w49590 => ?_)
        have w49590 : (pI Y49587 b49580 (z49585.toInt.toNat)).toInt = 1 := w49590
        have q49591 := Xy49589.keepF 0 (by decide)
        have q49592 := Xy49589.keepA e49563 (by decide) rfl (a1.toInt.toNat)
        have q49593 := Xy49589.keepA e49576 (by decide) rfl (a1.toInt.toNat)
        have W49594 := W84.keep I84 Xy49589 (by decide) (by decide) (by decide)
        have Xz49595 : EM [0, 12, 28, 29, 30, 31, 33, 34, 35, 36, 37, 38, 43, 44] a0 P Y49587 := EM.tr ha0 X84 (Xy49589.mono (by decide))
        have e49596 := Xy49589.ref h49561 (by decide) e49563
        have e49597 := Xy49589.ref h49561 (by decide) e49576
        have e49598 := Xy49589.ref h49561 (by decide) e49581
        have h49599 := Xy49589.at h49561
        have h49600 := Xy49589.ar h49564
        have h49601 := Xy49589.ar h49577
        have h49602 := Xy49589.ar h49582
        refine g_aload_n C dX12_degree_107 rfl 0 rfl ?_
        refine g_iload_n C dX12_degree_108 rfl 1 rfl ?_
        refine g_iload_n C dX12_degree_109 rfl 2 rfl ?_
        refine g_callVV (rest := []) C mv_X12_380 [.int a1, .int a2] (s_X12_keepsSets Iy49588 (by omega) (by omega) (fun b9 e9 => by rw [e49596] at e9; cases e9; show 1 ≤ (pI Y49587 b49562 (a1.toInt.toNat)).toInt ∧ (pI Y49587 b49562 (a1.toInt.toNat)).toInt ≤ 16; omega) W49594) (h49599).1 (h49599).2 rfl rfl (by decide) (Nat.le_of_ble_eq_true rfl) (by decide) dX12_degree_110 (fun Y49604 h49605 => ?_)
        obtain ⟨Iy49606, Xy49607, W49608⟩ := h49605
        have q49609 := Xy49607.keepF 0 (by decide)
        have q49610 := Xy49607.keepA e49596 (by decide) rfl (a1.toInt.toNat)
        have q49611 := Xy49607.keepA e49597 (by decide) rfl (a1.toInt.toNat)
        have q49612 := Xy49607.keepA e49598 (by decide) rfl (z49585.toInt.toNat)
        have Xz49613 : EM [0, 12, 28, 29, 30, 31, 33, 34, 35, 36, 37, 38, 43, 44] a0 P Y49604 := EM.tr ha0 Xz49595 (Xy49607.mono (by decide))
        have e49614 := Xy49607.ref h49599 (by decide) e49596
        have e49615 := Xy49607.ref h49599 (by decide) e49597
        have e49616 := Xy49607.ref h49599 (by decide) e49598
        have h49617 := Xy49607.at h49599
        have h49618 := Xy49607.ar h49600
        have h49619 := Xy49607.ar h49601
        have h49620 := Xy49607.ar h49602
        refine g_aload_n C dX12_degree_113 rfl 0 rfl ?_
        refine g_iload_n C dX12_degree_114 rfl 1 rfl ?_
        refine g_iload_n C dX12_degree_115 rfl 2 rfl ?_
        refine g_iload_n C dX12_degree_116 rfl 3 rfl ?_
        refine g_iload C dX12_degree_117 4 rfl ?_
        refine g_callVI (rest := []) C mv_X12_383 [.int a1, .int a2, .int a3, .int a4] (s_X12_chancesOf Iy49606 (by omega) (by omega) (fun b9 e9 => by rw [e49614] at e9; cases e9; show 1 ≤ (pI Y49604 b49562 (a1.toInt.toNat)).toInt ∧ (pI Y49604 b49562 (a1.toInt.toNat)).toInt ≤ 16; omega) W49608) (h49617).1 (h49617).2 rfl rfl (by decide) (Nat.le_of_ble_eq_true rfl) (by decide) dX12_degree_119 (fun r49621 Y49622 h49623 => ?_)
        obtain ⟨Iy49624, Xy49625, W49626, h49623⟩ := h49623
        have q49627 := Xy49625.keepF 0 (by decide)
        have q49628 := Xy49625.keepA e49614 (by decide) rfl (a1.toInt.toNat)
        have q49629 := Xy49625.keepA e49615 (by decide) rfl (a1.toInt.toNat)
        have q49630 := Xy49625.keepA e49616 (by decide) rfl (z49585.toInt.toNat)
        have Xz49631 : EM [0, 12, 28, 29, 30, 31, 33, 34, 35, 36, 37, 38, 43, 44] a0 P Y49622 := EM.tr ha0 Xz49613 (Xy49625.mono (by decide))
        have e49632 := Xy49625.ref h49617 (by decide) e49614
        have e49633 := Xy49625.ref h49617 (by decide) e49615
        have e49634 := Xy49625.ref h49617 (by decide) e49616
        have h49635 := Xy49625.at h49617
        have h49636 := Xy49625.ar h49618
        have h49637 := Xy49625.ar h49619
        have h49638 := Xy49625.ar h49620
        have h49623 : True := h49623
        refine g_istore (lv' := [(8, .int r49621), (0, .ref a0), (1, .int a1), (2, .int a2), (3, .int a3), (4, .int a4), (5, .int v84_5), (6, .int v84_6), (7, .int v84_7)]) C dX12_degree_122 (by decide) rfl ?_
        refine g_aload_n C dX12_degree_124 rfl 1 rfl ?_
        refine g_getR C fi_X12_51 rfl e49634 (h49635).1 (h49635).2 dX12_degree_125 ?_
        refine g_bipush (v := 21) C dX12_degree_128 (by decide) ?_
        refine g_iload_n C dX12_degree_130 rfl 2 rfl ?_
        refine s_imul C dX12_degree_131 (by show -2147483648 ≤ 21 * a1.toInt ∧ 21 * a1.toInt ≤ 2147483647; omega) (fun z49639 h49640 => ?_)
        have h49640 : z49639.toInt = 21 * a1.toInt := h49640
        refine g_iload C dX12_degree_132 8 rfl ?_
        refine s_iadd C dX12_degree_134 (by show -2147483648 ≤ z49639.toInt + v84_7.toInt ∧ z49639.toInt + v84_7.toInt ≤ 2147483647; omega) (fun z49641 h49642 => ?_)
        have h49642 : z49641.toInt = z49639.toInt + v84_7.toInt := h49642
        refine g_iconst (v := (-1)) C dX12_degree_135 (by decide) ?_
        refine g_iast (j := (z49641.toInt.toNat)) C h49638.1 h49638.2.1 (ix_in h49638.2.2 (by omega)) dX12_degree_136 ?_
        refine gqW (ks := [12]) (Iy49624.setA e49634 h49638 (by decide) (arOk.of rfl (by decide))) (EM.setA Iy49624 e49634 rfl (by decide)) (fun Y49643 Iy49644 Xy49645 w49646 => ?_)
        have w49646 : (pI Y49643 b49580 (z49641.toInt.toNat)).toInt = (-1) := w49646
        have q49647 := Xy49645.keepF 0 (by decide)
        have q49648 := Xy49645.keepA e49632 (by decide) rfl (a1.toInt.toNat)
        have q49649 := Xy49645.keepA e49633 (by decide) rfl (a1.toInt.toNat)
        have W49650 := W49626.keep Iy49624 Xy49645 (by decide) (by decide) (by decide)
        have Xz49651 : EM [0, 12, 28, 29, 30, 31, 33, 34, 35, 36, 37, 38, 43, 44] a0 P Y49643 := EM.tr ha0 Xz49631 (Xy49645.mono (by decide))
        have e49652 := Xy49645.ref h49635 (by decide) e49632
        have e49653 := Xy49645.ref h49635 (by decide) e49633
        have e49654 := Xy49645.ref h49635 (by decide) e49634
        have h49655 := Xy49645.at h49635
        have h49656 := Xy49645.ar h49636
        have h49657 := Xy49645.ar h49637
        have h49658 := Xy49645.ar h49638
        refine g_iload C dX12_degree_137 0 rfl ?_
        refine g_iload C dX12_degree_139 7 rfl ?_
        have u49660 := ti_rng r49621
        have u49661 := ti_rng v84_6
        refine b_icmp_le C 152 dX12_degree_141 (by decide) (fun h49659 => ?_) (fun h49659 => ?_)
        · have h49659 : r49621.toInt ≤ v84_6.toInt := h49659
          refine g_lv (lv' := [(0, .ref a0), (1, .int a1), (2, .int a2), (3, .int a3), (4, .int a4), (5, .int v84_5), (6, .int v84_6), (7, .int v84_7)]) [1, 2, 3, 4, 5, 6, 7, 8] rfl ?_
          exact J152 Y49643 v84_5 v84_6 Iy49644 Xz49651 W49650 (by omega) (by omega) (by omega) (by omega) (by omega) (by omega) (by omega) (by omega) (fun b9 e9 => by rw [e49652] at e9; cases e9; omega)
        · have h49659 : v84_6.toInt < r49621.toInt := h49659
          refine g_iload C dX12_degree_144 0 rfl ?_
          refine g_istore (lv' := [(6, .int r49621), (8, .int r49621), (0, .ref a0), (1, .int a1), (2, .int a2), (3, .int a3), (4, .int a4), (5, .int v84_5), (7, .int v84_7)]) C dX12_degree_146 (by decide) rfl ?_
          refine g_iload C dX12_degree_148 8 rfl ?_
          refine g_istore (lv' := [(5, .int v84_7), (6, .int r49621), (8, .int r49621), (0, .ref a0), (1, .int a1), (2, .int a2), (3, .int a3), (4, .int a4), (7, .int v84_7)]) C dX12_degree_150 (by decide) rfl ?_
          refine g_lv (lv' := [(0, .ref a0), (1, .int a1), (2, .int a2), (3, .int a3), (4, .int a4), (5, .int v84_7), (6, .int r49621), (7, .int v84_7)]) [3, 4, 5, 6, 7, 0, 1, 8] rfl ?_
          exact J152 Y49643 v84_7 r49621 Iy49644 Xz49651 W49650 (by omega) (by omega) (by omega) (by omega) (by omega) (by omega) (by omega) (by omega) (fun b9 e9 => by rw [e49652] at e9; cases e9; omega)
  have J30 : ∀ (n30 : Nat) (P30 : PP) (v30_5 : Int32), (21 - v30_5.toInt).toNat < n30 → (IM P30 a0) → (EM [0, 12, 28, 29, 30, 31, 33, 34, 35, 36, 37, 38, 43, 44] a0 P P30) → (MW P30 a0) → (0 ≤ a1.toInt ∧ a1.toInt ≤ 1) → (1 ≤ a2.toInt ∧ a2.toInt ≤ 11) → (0 ≤ a3.toInt ∧ a3.toInt ≤ 11) → (0 ≤ a4.toInt ∧ a4.toInt ≤ 1) → (0 ≤ v30_5.toInt ∧ v30_5.toInt ≤ 21) → (0 ≤ (pI P30 a0 0).toInt ∧ (pI P30 a0 0).toInt ≤ 0) → (∀ b, pR P30 a0 10 = some b → 1 ≤ (pI P30 b (a1.toInt.toNat)).toInt ∧ (pI P30 b (a1.toInt.toNat)).toInt ≤ 16) → G E ({ frames := 5, cells := 0, slots := 0, locals := 320 } : Room) D cy 9 P30 0 0 30 [(0, .ref a0), (1, .int a1), (2, .int a2), (3, .int a3), (4, .int a4), (5, .int v30_5)] [] := by
    intro n30
    induction n30 with
    | zero => intro P30 v30_5 hm30 I30 X30 W30 hv30_1 hv30_2 hv30_3 hv30_4 hv30_5 hq30_0 hq30_1; omega
    | succ n30 ih30 =>
      intro P30 v30_5 hm30 I30 X30 W30 hv30_1 hv30_2 hv30_3 hv30_4 hv30_5 hq30_0 hq30_1
      have h49662 := X30.at ha0
      obtain ⟨b49663, e49664, h49665⟩ := I30.fld (h49662) 10 13 2 rfl
      have hq30_1 := hq30_1 b49663 e49664
      refine g_iload C dX12_degree_30 5 rfl ?_
      refine g_bipush (v := 21) C dX12_degree_32 (by decide) ?_
      refine b_icmp_ge C 75 dX12_degree_34 (by decide) (fun h49666 => ?_) (fun h49666 => ?_)
      · have h49666 : 21 ≤ v30_5.toInt := h49666
        refine g_iconst (v := (-1)) C dX12_degree_75 (by decide) ?_
        refine g_istore (lv' := [(5, .int (-1)), (0, .ref a0), (1, .int a1), (2, .int a2), (3, .int a3), (4, .int a4)]) C dX12_degree_76 (by decide) rfl ?_
        refine g_iconst (v := (-1)) C dX12_degree_78 (by decide) ?_
        refine g_istore (lv' := [(6, .int (-1)), (5, .int (-1)), (0, .ref a0), (1, .int a1), (2, .int a2), (3, .int a3), (4, .int a4)]) C dX12_degree_79 (by decide) rfl ?_
        refine g_iconst (v := 1) C dX12_degree_81 (by decide) ?_
        refine g_istore (lv' := [(7, .int 1), (6, .int (-1)), (5, .int (-1)), (0, .ref a0), (1, .int a1), (2, .int a2), (3, .int a3), (4, .int a4)]) C dX12_degree_82 (by decide) rfl ?_
        refine g_lv (lv' := [(0, .ref a0), (1, .int a1), (2, .int a2), (3, .int a3), (4, .int a4), (5, .int (-1)), (6, .int (-1)), (7, .int 1)]) [3, 4, 5, 6, 7, 2, 1, 0] rfl ?_
        exact J84 _ P30 (-1) (-1) 1 (Nat.lt_succ_self _) I30 X30 W30 (by omega) (by omega) (by omega) (by omega) (by decide) (by decide) (by decide) (by omega) (fun b9 e9 => by rw [e49664] at e9; cases e9; omega)
      · have h49666 : v30_5.toInt < 21 := h49666
        refine g_aload_n C dX12_degree_37 rfl 0 rfl ?_
        obtain ⟨b49667, e49668, h49669⟩ := I30.fld (h49662) 44 13 21 rfl
        refine g_getR C fi_X12_124 rfl e49668 (h49662).1 (h49662).2 dX12_degree_38 ?_
        refine g_iload C dX12_degree_41 5 rfl ?_
        refine g_aload_n C dX12_degree_43 rfl 0 rfl ?_
        obtain ⟨b49670, e49671, h49672⟩ := I30.fld (h49662) 12 13 63 rfl
        refine g_getR C fi_X12_51 rfl e49671 (h49662).1 (h49662).2 dX12_degree_44 ?_
        refine g_bipush (v := 21) C dX12_degree_47 (by decide) ?_
        refine g_iload_n C dX12_degree_49 rfl 1 rfl ?_
        refine s_imul C dX12_degree_50 (by show -2147483648 ≤ 21 * a1.toInt ∧ 21 * a1.toInt ≤ 2147483647; omega) (fun z49673 h49674 => ?_)
        have h49674 : z49673.toInt = 21 * a1.toInt := h49674
        refine g_iload C dX12_degree_51 5 rfl ?_
        refine s_iadd C dX12_degree_53 (by show -2147483648 ≤ z49673.toInt + v30_5.toInt ∧ z49673.toInt + v30_5.toInt ≤ 2147483647; omega) (fun z49675 h49676 => ?_)
        have h49676 : z49675.toInt = z49673.toInt + v30_5.toInt := h49676
        refine g_iald (j := (z49675.toInt.toNat)) C h49672.1 h49672.2.1 (ix_in h49672.2.2 (by omega)) dX12_degree_54 ?_
        have h49677 := I30.arr e49671 rfl (z49675.toInt.toNat)
        refine g_iast (j := (v30_5.toInt.toNat)) C h49669.1 h49669.2.1 (ix_in h49669.2.2 (by omega)) dX12_degree_55 ?_
        refine gqW (ks := [44]) (I30.setA e49668 h49669 (by decide) (arOk.of rfl (by omega))) (EM.setA I30 e49668 rfl (by decide)) (fun Y49678 Iy49679 Xy49680 w49681 => ?_)
        have w49681 : (pI Y49678 b49667 (v30_5.toInt.toNat)).toInt = (pI P30 b49670 (z49675.toInt.toNat)).toInt := w49681
        have q49682 := Xy49680.keepF 0 (by decide)
        have q49683 := Xy49680.keepA e49664 (by decide) rfl (a1.toInt.toNat)
        have q49684 := Xy49680.keepA e49671 (by decide) rfl (z49675.toInt.toNat)
        have W49685 := W30.keep I30 Xy49680 (by decide) (by decide) (by decide)
        have Xz49686 : EM [0, 12, 28, 29, 30, 31, 33, 34, 35, 36, 37, 38, 43, 44] a0 P Y49678 := EM.tr ha0 X30 (Xy49680.mono (by decide))
        have e49687 := Xy49680.ref h49662 (by decide) e49664
        have e49688 := Xy49680.ref h49662 (by decide) e49668
        have e49689 := Xy49680.ref h49662 (by decide) e49671
        have h49690 := Xy49680.at h49662
        have h49691 := Xy49680.ar h49665
        have h49692 := Xy49680.ar h49669
        have h49693 := Xy49680.ar h49672
        refine g_aload_n C dX12_degree_56 rfl 0 rfl ?_
        refine g_getR C fi_X12_51 rfl e49689 (h49690).1 (h49690).2 dX12_degree_57 ?_
        refine g_bipush (v := 21) C dX12_degree_60 (by decide) ?_
        refine g_iload_n C dX12_degree_62 rfl 1 rfl ?_
        refine s_imul C dX12_degree_63 (by show -2147483648 ≤ 21 * a1.toInt ∧ 21 * a1.toInt ≤ 2147483647; omega) (fun z49694 h49695 => ?_)
        have h49695 : z49694.toInt = 21 * a1.toInt := h49695
        refine g_iload C dX12_degree_64 5 rfl ?_
        refine s_iadd C dX12_degree_66 (by show -2147483648 ≤ z49694.toInt + v30_5.toInt ∧ z49694.toInt + v30_5.toInt ≤ 2147483647; omega) (fun z49696 h49697 => ?_)
        have h49697 : z49696.toInt = z49694.toInt + v30_5.toInt := h49697
        refine g_iconst (v := (-1)) C dX12_degree_67 (by decide) ?_
        refine g_iast (j := (z49696.toInt.toNat)) C h49693.1 h49693.2.1 (ix_in h49693.2.2 (by omega)) dX12_degree_68 ?_
        refine gqW (ks := [12]) (Iy49679.setA e49689 h49693 (by decide) (arOk.of rfl (by decide))) (EM.setA Iy49679 e49689 rfl (by decide)) (fun Y49698 Iy49699 Xy49700 w49701 => ?_)
        have w49701 : (pI Y49698 b49670 (z49696.toInt.toNat)).toInt = (-1) := w49701
        have q49702 := Xy49700.keepF 0 (by decide)
        have q49703 := Xy49700.keepA e49687 (by decide) rfl (a1.toInt.toNat)
        have q49704 := Xy49700.keepA e49688 (by decide) rfl (v30_5.toInt.toNat)
        have W49705 := W49685.keep Iy49679 Xy49700 (by decide) (by decide) (by decide)
        have Xz49706 : EM [0, 12, 28, 29, 30, 31, 33, 34, 35, 36, 37, 38, 43, 44] a0 P Y49698 := EM.tr ha0 Xz49686 (Xy49700.mono (by decide))
        have e49707 := Xy49700.ref h49690 (by decide) e49687
        have e49708 := Xy49700.ref h49690 (by decide) e49688
        have e49709 := Xy49700.ref h49690 (by decide) e49689
        have h49710 := Xy49700.at h49690
        have h49711 := Xy49700.ar h49691
        have h49712 := Xy49700.ar h49692
        have h49713 := Xy49700.ar h49693
        refine s_iinc (lv0 := [(0, .ref a0), (1, .int a1), (2, .int a2), (3, .int a3), (4, .int a4)]) (m := 1) C dX12_degree_69 5 rfl (by decide) rfl (by decide) (by omega) (fun z49714 h49715 => ?_)
        have h49715 : z49714.toInt = v30_5.toInt + 1 := h49715
        refine g_goto C 30 dX12_degree_72 (by decide) ?_
        refine g_lv (lv' := [(0, .ref a0), (1, .int a1), (2, .int a2), (3, .int a3), (4, .int a4), (5, .int z49714)]) [1, 2, 3, 4, 5, 0] rfl ?_
        exact ih30 Y49698 z49714 (by omega) Iy49699 Xz49706 W49705 (by omega) (by omega) (by omega) (by omega) (by omega) (by omega) (fun b9 e9 => by rw [e49707] at e9; cases e9; omega)
  have J25 : ∀ (P25 : PP), (IM P25 a0) → (EM [0, 12, 28, 29, 30, 31, 33, 34, 35, 36, 37, 38, 43, 44] a0 P P25) → (MW P25 a0) → (0 ≤ (pI P25 a0 0).toInt ∧ (pI P25 a0 0).toInt ≤ 0) → G E ({ frames := 5, cells := 0, slots := 0, locals := 320 } : Room) D cy 9 P25 0 0 25 [] [] := by
    intro P25 I25 X25 W25 hq25_0
    have h49716 := X25.at ha0
    refine g_iconst (v := (-1)) C dX12_degree_25 (by decide) ?_
    exact ret _ _ _ _ _ _ dX12_degree_26 rfl (by decide) (by decide) ⟨I25, X25, W25, (by decide)⟩
  refine g_aload_n C dX12_degree_0 rfl 0 rfl ?_
  refine g_iconst (v := 0) C dX12_degree_1 (by decide) ?_
  refine g_putI C fi_X12_1 rfl (ha0).1 (ha0).2 dX12_degree_2 ?_
  refine gqW (ks := [0]) (I.setI (rgOk.of rfl (by decide))) (EM.setI I (by decide)) (fun Y49717 Iy49718 Xy49719 w49720 => ?_)
  have w49720 : (pI Y49717 a0 0).toInt = 0 := w49720
  have W49721 := hW.keep I Xy49719 (by decide) (by decide) (by decide)
  have Xz49722 : EM [0, 12, 28, 29, 30, 31, 33, 34, 35, 36, 37, 38, 43, 44] a0 P Y49717 := Xy49719.mono (by decide)
  have h49723 := Xy49719.at ha0
  refine g_aload_n C dX12_degree_5 rfl 0 rfl ?_
  refine g_iload_n C dX12_degree_6 rfl 1 rfl ?_
  refine g_iload_n C dX12_degree_7 rfl 2 rfl ?_
  refine g_iload C dX12_degree_8 4 rfl ?_
  refine g_callVI (rest := []) C mv_X12_377 [.int a1, .int a2, .int a4] (s_X12_areChances Iy49718 W49721) (h49723).1 (h49723).2 rfl rfl (by decide) (Nat.le_of_ble_eq_true rfl) (by decide) dX12_degree_10 (fun r49724 Y49725 h49726 => ?_)
  obtain ⟨rfl, h49726⟩ := h49726
  obtain ⟨h49726, hi49727, hi49728⟩ := h49726
  have hi49727 : r49724.toInt = 0 ∨ (((0 : Int) ≤ a1.toInt ∧ a1.toInt ≤ (1 : Int)) ∧ ((1 : Int) ≤ a2.toInt ∧ a2.toInt ≤ (11 : Int)) ∧ ((0 : Int) ≤ a4.toInt ∧ a4.toInt ≤ (1 : Int))) := hi49727
  have h49726 : 0 ≤ r49724.toInt ∧ r49724.toInt ≤ 1 := h49726
  refine b_if_eq C 25 dX12_degree_13 (by decide) (fun h49729 => ?_) (fun h49729 => ?_)
  · have h49729 : r49724.toInt = 0 := congrArg Int32.toInt h49729
    clear hi49727
    refine g_lv (lv' := []) [] rfl ?_
    exact J25 Y49717 Iy49718 Xz49722 W49721 (by omega)
  · have h49729 : r49724.toInt ≠ 0 := ti_ne h49729
    replace hi49727 := hi49727.resolve_left (by omega)
    obtain ⟨b49730, e49731, h49732⟩ := Iy49718.fld (h49723) 10 13 2 rfl
    have hi49728 := (hi49728.resolve_left (by omega)) b49730 e49731
    have hi49728 : 0 < (pI Y49717 b49730 (a1.toInt.toNat)).toInt := hi49728
    have h49733 := Iy49718.arr e49731 rfl (a1.toInt.toNat)
    refine g_iload_n C dX12_degree_16 rfl 3 rfl ?_
    refine g_iconst (v := 0) C dX12_degree_17 (by decide) ?_
    refine g_iload_n C dX12_degree_18 rfl 2 rfl ?_
    refine g_callSI (b := 0) (ci := 0) (rest := []) C ms_X12_178 [.int a3, .int 0, .int a2] (s_X12_within Iy49718.1) rfl rfl (by decide) (Nat.le_of_ble_eq_true rfl) (by decide) dX12_degree_19 (fun r49734 Y49735 h49736 => ?_)
    obtain ⟨rfl, h49736⟩ := h49736
    obtain ⟨h49736, hi49737⟩ := h49736
    have hi49737 : r49734.toInt = 0 ∨ (0 ≤ a3.toInt ∧ a3.toInt ≤ a2.toInt) := hi49737
    have h49736 : 0 ≤ r49734.toInt ∧ r49734.toInt ≤ 1 := h49736
    refine b_if_ne C 27 dX12_degree_22 (by decide) (fun h49738 => ?_) (fun h49738 => ?_)
    · have h49738 : r49734.toInt ≠ 0 := ti_ne h49738
      replace hi49737 := hi49737.resolve_left (by omega)
      refine g_iconst (v := 0) C dX12_degree_27 (by decide) ?_
      refine g_istore (lv' := [(5, .int 0), (0, .ref a0), (1, .int a1), (2, .int a2), (3, .int a3), (4, .int a4)]) C dX12_degree_28 (by decide) rfl ?_
      refine g_lv (lv' := [(0, .ref a0), (1, .int a1), (2, .int a2), (3, .int a3), (4, .int a4), (5, .int 0)]) [1, 2, 3, 4, 5, 0] rfl ?_
      exact J30 _ Y49717 0 (Nat.lt_succ_self _) Iy49718 Xz49722 W49721 (by omega) (by omega) (by omega) (by omega) (by decide) (by omega) (fun b9 e9 => by rw [e49731] at e9; cases e9; omega)
    · have h49738 : r49734.toInt = 0 := congrArg Int32.toInt h49738
      clear hi49737
      refine g_lv (lv' := []) [] rfl ?_
      exact J25 Y49717 Iy49718 Xz49722 W49721 (by omega)
theorem dX12_doubles_0 : decode cX12_doubles 0 = .ok (.aload_n 0, 1) := by decide +kernel
theorem dX12_doubles_1 : decode cX12_doubles 1 = .ok (.iconst 0, 1) := by decide +kernel
theorem dX12_doubles_2 : decode cX12_doubles 2 = .ok (.putfield 1, 3) := by decide +kernel
theorem dX12_doubles_5 : decode cX12_doubles 5 = .ok (.aload_n 0, 1) := by decide +kernel
theorem dX12_doubles_6 : decode cX12_doubles 6 = .ok (.iload_n 1, 1) := by decide +kernel
theorem dX12_doubles_7 : decode cX12_doubles 7 = .ok (.iload_n 2, 1) := by decide +kernel
theorem dX12_doubles_8 : decode cX12_doubles 8 = .ok (.iload_n 3, 1) := by decide +kernel
theorem dX12_doubles_9 : decode cX12_doubles 9 = .ok (.invokevirtual 333, 3) := by decide +kernel
theorem dX12_isAsked_0 : decode cX12_isAsked 0 = .ok (.iload_n 1, 1) := by decide +kernel
theorem dX12_isAsked_1 : decode cX12_isAsked 1 = .ok (.invokestatic 278, 3) := by decide +kernel
theorem dX12_isAsked_4 : decode cX12_isAsked 4 = .ok (.ifCond .eq 24, 3) := by decide +kernel
theorem dX12_isAsked_7 : decode cX12_isAsked 7 = .ok (.aload_n 0, 1) := by decide +kernel
theorem dX12_isAsked_8 : decode cX12_isAsked 8 = .ok (.iload_n 2, 1) := by decide +kernel
theorem dX12_isAsked_9 : decode cX12_isAsked 9 = .ok (.invokevirtual 192, 3) := by decide +kernel
theorem dX12_isAsked_12 : decode cX12_isAsked 12 = .ok (.ifCond .eq 16, 3) := by decide +kernel
theorem dX12_isAsked_15 : decode cX12_isAsked 15 = .ok (.iload_n 3, 1) := by decide +kernel
theorem dX12_isAsked_16 : decode cX12_isAsked 16 = .ok (.iconst 0, 1) := by decide +kernel
theorem dX12_isAsked_17 : decode cX12_isAsked 17 = .ok (.iconst 1, 1) := by decide +kernel
theorem dX12_isAsked_18 : decode cX12_isAsked 18 = .ok (.invokestatic 178, 3) := by decide +kernel
theorem dX12_isAsked_21 : decode cX12_isAsked 21 = .ok (.ifCond .eq 7, 3) := by decide +kernel
theorem dX12_isAsked_24 : decode cX12_isAsked 24 = .ok (.iconst 1, 1) := by decide +kernel
theorem dX12_isAsked_25 : decode cX12_isAsked 25 = .ok (.goto 4, 3) := by decide +kernel
theorem dX12_isAsked_28 : decode cX12_isAsked 28 = .ok (.iconst 0, 1) := by decide +kernel
theorem dX12_isAsked_29 : decode cX12_isAsked 29 = .ok (.ireturn, 1) := by decide +kernel
set_option maxHeartbeats 4000000 in
set_option maxRecDepth 100000 in
theorem s_X12_isAsked {P : PP} {a0 : Nat} {a1 : Int32} {a2 : Int32} {a3 : Int32} (I : IM P a0) (hW : MW P a0) : CtrI yX12_isAsked cX12_isAsked 4 (some Jvm.ClassFile.FieldType.boolean) ({ frames := 3, cells := 0, slots := 0, locals := 192 } : Room) 0 0 P [.ref a0, .int a1, .int a2, .int a3] (fun r P2 => P = P2 ∧ (0 ≤ r.toInt ∧ r.toInt ≤ 1) ∧ (r.toInt = 0 ∨ (((0 : Int) ≤ a1.toInt ∧ a1.toInt ≤ (3 : Int)) ∧ ((0 : Int) ≤ a2.toInt ∧ a2.toInt ≤ (1 : Int)) ∧ ((0 : Int) ≤ a3.toInt ∧ a3.toInt ≤ (1 : Int)))) ∧ (r.toInt = 0 ∨ ∀ b, pR P2 a0 10 = some b → 0 < (pI P2 b (a2.toInt.toNat)).toInt)) := by
  refine enI (lv := [(0, .ref a0), (1, .int a1), (2, .int a2), (3, .int a3)]) (by decide) (Nat.le_of_ble_eq_true rfl) rfl (fun E D cy C Ci0 ret => ?_)
  have ha0 := I.2.1
  have J28 : G E ({ frames := 3, cells := 0, slots := 0, locals := 192 } : Room) D cy 4 P 0 0 28 [] [] := by
    refine g_iconst (v := 0) C dX12_isAsked_28 (by decide) ?_
    exact ret _ _ _ _ _ _ dX12_isAsked_29 rfl (by decide) (by decide) ⟨rfl, (by decide), Or.inl rfl, Or.inl rfl⟩
  refine g_iload_n C dX12_isAsked_0 rfl 1 rfl ?_
  refine g_callSI (b := 0) (ci := 0) (rest := []) C ms_X12_278 [.int a1] (s_X12_isQuarter I.1) rfl rfl (by decide) (Nat.le_of_ble_eq_true rfl) (by decide) dX12_isAsked_1 (fun r49766 Y49767 h49768 => ?_)
  obtain ⟨rfl, h49768⟩ := h49768
  obtain ⟨h49768, hi49769⟩ := h49768
  have hi49769 : r49766.toInt = 0 ∨ (((0 : Int) ≤ a1.toInt ∧ a1.toInt ≤ (3 : Int))) := hi49769
  have h49768 : 0 ≤ r49766.toInt ∧ r49766.toInt ≤ 1 := h49768
  refine b_if_eq C 28 dX12_isAsked_4 (by decide) (fun h49770 => ?_) (fun h49770 => ?_)
  · have h49770 : r49766.toInt = 0 := congrArg Int32.toInt h49770
    clear hi49769
    refine g_lv (lv' := []) [] rfl ?_
    exact J28 
  · have h49770 : r49766.toInt ≠ 0 := ti_ne h49770
    replace hi49769 := hi49769.resolve_left (by omega)
    refine g_aload_n C dX12_isAsked_7 rfl 0 rfl ?_
    refine g_iload_n C dX12_isAsked_8 rfl 2 rfl ?_
    refine g_callVI (rest := []) C mv_X12_192 [.int a2] (s_X12_isBook I hW) (ha0).1 (ha0).2 rfl rfl (by decide) (Nat.le_of_ble_eq_true rfl) (by decide) dX12_isAsked_9 (fun r49771 Y49772 h49773 => ?_)
    obtain ⟨rfl, h49773⟩ := h49773
    obtain ⟨h49773, hi49774, hi49775⟩ := h49773
    have hi49774 : r49771.toInt = 0 ∨ (((0 : Int) ≤ a2.toInt ∧ a2.toInt ≤ (1 : Int))) := hi49774
    have h49773 : 0 ≤ r49771.toInt ∧ r49771.toInt ≤ 1 := h49773
    refine b_if_eq C 28 dX12_isAsked_12 (by decide) (fun h49776 => ?_) (fun h49776 => ?_)
    · have h49776 : r49771.toInt = 0 := congrArg Int32.toInt h49776
      clear hi49774
      refine g_lv (lv' := []) [] rfl ?_
      exact J28 
    · have h49776 : r49771.toInt ≠ 0 := ti_ne h49776
      replace hi49774 := hi49774.resolve_left (by omega)
      obtain ⟨b49777, e49778, h49779⟩ := I.fld (ha0) 10 13 2 rfl
      have hi49775 := (hi49775.resolve_left (by omega)) b49777 e49778
      have hi49775 : 0 < (pI P b49777 (a2.toInt.toNat)).toInt := hi49775
      have h49780 := I.arr e49778 rfl (a2.toInt.toNat)
      refine g_iload_n C dX12_isAsked_15 rfl 3 rfl ?_
      refine g_iconst (v := 0) C dX12_isAsked_16 (by decide) ?_
      refine g_iconst (v := 1) C dX12_isAsked_17 (by decide) ?_
      refine g_callSI (b := 0) (ci := 0) (rest := []) C ms_X12_178 [.int a3, .int 0, .int 1] (s_X12_within I.1) rfl rfl (by decide) (Nat.le_of_ble_eq_true rfl) (by decide) dX12_isAsked_18 (fun r49781 Y49782 h49783 => ?_)
      obtain ⟨rfl, h49783⟩ := h49783
      obtain ⟨h49783, hi49784⟩ := h49783
      have hi49784 : r49781.toInt = 0 ∨ (0 ≤ a3.toInt ∧ a3.toInt ≤ 1) := hi49784
      have h49783 : 0 ≤ r49781.toInt ∧ r49781.toInt ≤ 1 := h49783
      refine b_if_eq C 28 dX12_isAsked_21 (by decide) (fun h49785 => ?_) (fun h49785 => ?_)
      · have h49785 : r49781.toInt = 0 := congrArg Int32.toInt h49785
        clear hi49784
        refine g_lv (lv' := []) [] rfl ?_
        exact J28 
      · have h49785 : r49781.toInt ≠ 0 := ti_ne h49785
        replace hi49784 := hi49784.resolve_left (by omega)
        refine g_iconst (v := 1) C dX12_isAsked_24 (by decide) ?_
        refine g_goto C 29 dX12_isAsked_25 (by decide) ?_
        exact ret _ _ _ _ _ _ dX12_isAsked_29 rfl (by decide) (by decide) ⟨rfl, (by decide), Or.inr (by omega), Or.inr (fun b9 e9 => by rw [e49778] at e9; cases e9; show 0 < (pI P b49777 (a2.toInt.toNat)).toInt; omega)⟩
theorem dX12_doubles_12 : decode cX12_doubles 12 = .ok (.ifCond .ne 5, 3) := by decide +kernel
theorem dX12_doubles_17 : decode cX12_doubles 17 = .ok (.aload_n 0, 1) := by decide +kernel
theorem dX12_doubles_18 : decode cX12_doubles 18 = .ok (.invokevirtual 336, 3) := by decide +kernel
theorem dX12_doubles_21 : decode cX12_doubles 21 = .ok (.aload_n 0, 1) := by decide +kernel
theorem dX12_doubles_22 : decode cX12_doubles 22 = .ok (.iload_n 1, 1) := by decide +kernel
theorem dX12_doubles_23 : decode cX12_doubles 23 = .ok (.iload_n 2, 1) := by decide +kernel
theorem dX12_doubles_24 : decode cX12_doubles 24 = .ok (.iload_n 3, 1) := by decide +kernel
theorem dX12_doubles_25 : decode cX12_doubles 25 = .ok (.aload_n 0, 1) := by decide +kernel
theorem dX12_doubles_26 : decode cX12_doubles 26 = .ok (.getfield 69, 3) := by decide +kernel
theorem dX12_doubles_29 : decode cX12_doubles 29 = .ok (.iload_n 1, 1) := by decide +kernel
theorem dX12_doubles_30 : decode cX12_doubles 30 = .ok (.iaload, 1) := by decide +kernel
theorem dX12_doubles_31 : decode cX12_doubles 31 = .ok (.invokevirtual 339, 3) := by decide +kernel
theorem dX12_gathers_0 : decode cX12_gathers 0 = .ok (.aload_n 0, 1) := by decide +kernel
theorem dX12_gathers_1 : decode cX12_gathers 1 = .ok (.iload_n 2, 1) := by decide +kernel
theorem dX12_gathers_2 : decode cX12_gathers 2 = .ok (.invokevirtual 312, 3) := by decide +kernel
theorem dX12_gathers_5 : decode cX12_gathers 5 = .ok (.iconst 0, 1) := by decide +kernel
theorem dX12_gathers_6 : decode cX12_gathers 6 = .ok (.istore 5, 2) := by decide +kernel
theorem dX12_gathers_8 : decode cX12_gathers 8 = .ok (.iload 5, 2) := by decide +kernel
theorem dX12_gathers_10 : decode cX12_gathers 10 = .ok (.iload 4, 2) := by decide +kernel
theorem dX12_gathers_12 : decode cX12_gathers 12 = .ok (.if_icmp .ge 83, 3) := by decide +kernel
theorem dX12_gathers_15 : decode cX12_gathers 15 = .ok (.bipush 40, 2) := by decide +kernel
theorem dX12_gathers_17 : decode cX12_gathers 17 = .ok (.iload_n 1, 1) := by decide +kernel
theorem dX12_gathers_18 : decode cX12_gathers 18 = .ok (.imul, 1) := by decide +kernel
theorem dX12_gathers_19 : decode cX12_gathers 19 = .ok (.iload 5, 2) := by decide +kernel
theorem dX12_gathers_21 : decode cX12_gathers 21 = .ok (.iadd, 1) := by decide +kernel
theorem dX12_gathers_22 : decode cX12_gathers 22 = .ok (.istore 6, 2) := by decide +kernel
theorem dX12_gathers_24 : decode cX12_gathers 24 = .ok (.aload_n 0, 1) := by decide +kernel
theorem dX12_gathers_25 : decode cX12_gathers 25 = .ok (.getfield 75, 3) := by decide +kernel
theorem dX12_gathers_28 : decode cX12_gathers 28 = .ok (.iload 6, 2) := by decide +kernel
theorem dX12_gathers_30 : decode cX12_gathers 30 = .ok (.iaload, 1) := by decide +kernel
theorem dX12_gathers_31 : decode cX12_gathers 31 = .ok (.iload_n 2, 1) := by decide +kernel
theorem dX12_gathers_32 : decode cX12_gathers 32 = .ok (.if_icmp .ne 57, 3) := by decide +kernel
theorem dX12_gathers_35 : decode cX12_gathers 35 = .ok (.aload_n 0, 1) := by decide +kernel
theorem dX12_gathers_36 : decode cX12_gathers 36 = .ok (.getfield 81, 3) := by decide +kernel
theorem dX12_gathers_39 : decode cX12_gathers 39 = .ok (.iload 6, 2) := by decide +kernel
theorem dX12_gathers_41 : decode cX12_gathers 41 = .ok (.iaload, 1) := by decide +kernel
theorem dX12_gathers_42 : decode cX12_gathers 42 = .ok (.iload_n 3, 1) := by decide +kernel
theorem dX12_gathers_43 : decode cX12_gathers 43 = .ok (.ishr, 1) := by decide +kernel
theorem dX12_gathers_44 : decode cX12_gathers 44 = .ok (.iconst 1, 1) := by decide +kernel
theorem dX12_gathers_45 : decode cX12_gathers 45 = .ok (.iand, 1) := by decide +kernel
theorem dX12_gathers_46 : decode cX12_gathers 46 = .ok (.iconst 1, 1) := by decide +kernel
theorem dX12_gathers_47 : decode cX12_gathers 47 = .ok (.if_icmp .ne 42, 3) := by decide +kernel
theorem dX12_gathers_50 : decode cX12_gathers 50 = .ok (.aload_n 0, 1) := by decide +kernel
theorem dX12_gathers_51 : decode cX12_gathers 51 = .ok (.getfield 100, 3) := by decide +kernel
theorem dX12_gathers_54 : decode cX12_gathers 54 = .ok (.iload 5, 2) := by decide +kernel
theorem dX12_gathers_56 : decode cX12_gathers 56 = .ok (.baload, 1) := by decide +kernel
theorem dX12_gathers_57 : decode cX12_gathers 57 = .ok (.ifCond .ne 32, 3) := by decide +kernel
theorem dX12_gathers_60 : decode cX12_gathers 60 = .ok (.aload_n 0, 1) := by decide +kernel
theorem dX12_gathers_61 : decode cX12_gathers 61 = .ok (.aload_n 0, 1) := by decide +kernel
theorem dX12_gathers_62 : decode cX12_gathers 62 = .ok (.iload_n 2, 1) := by decide +kernel
theorem dX12_gathers_63 : decode cX12_gathers 63 = .ok (.aload_n 0, 1) := by decide +kernel
theorem dX12_gathers_64 : decode cX12_gathers 64 = .ok (.getfield 72, 3) := by decide +kernel
theorem dX12_gathers_67 : decode cX12_gathers 67 = .ok (.iload 6, 2) := by decide +kernel
theorem dX12_gathers_69 : decode cX12_gathers 69 = .ok (.iaload, 1) := by decide +kernel
theorem dX12_gathers_70 : decode cX12_gathers 70 = .ok (.invokevirtual 261, 3) := by decide +kernel
theorem dX12_gathers_73 : decode cX12_gathers 73 = .ok (.aload_n 0, 1) := by decide +kernel
theorem dX12_gathers_74 : decode cX12_gathers 74 = .ok (.getfield 78, 3) := by decide +kernel
theorem dX12_gathers_77 : decode cX12_gathers 77 = .ok (.iload 6, 2) := by decide +kernel
theorem dX12_gathers_79 : decode cX12_gathers 79 = .ok (.iaload, 1) := by decide +kernel
theorem dX12_gathers_80 : decode cX12_gathers 80 = .ok (.iload_n 3, 1) := by decide +kernel
theorem dX12_gathers_81 : decode cX12_gathers 81 = .ok (.invokestatic 315, 3) := by decide +kernel
theorem dX12_gathers_84 : decode cX12_gathers 84 = .ok (.iload 5, 2) := by decide +kernel
theorem dX12_gathers_86 : decode cX12_gathers 86 = .ok (.invokevirtual 308, 3) := by decide +kernel
theorem dX12_gathers_89 : decode cX12_gathers 89 = .ok (.iinc 5 1, 3) := by decide +kernel
theorem dX12_gathers_92 : decode cX12_gathers 92 = .ok (.goto (-84), 3) := by decide +kernel
theorem dX12_gathers_95 : decode cX12_gathers 95 = .ok (.return_, 1) := by decide +kernel
set_option maxHeartbeats 4000000 in
set_option maxRecDepth 100000 in
theorem s_X12_gathers {P : PP} {a0 : Nat} {a1 : Int32} {a2 : Int32} {a3 : Int32} {a4 : Int32} (I : IM P a0) (ha1 : 0 ≤ a1.toInt ∧ a1.toInt ≤ 3) (ha2 : 0 ≤ a2.toInt ∧ a2.toInt ≤ 1) (ha4 : 0 ≤ a4.toInt ∧ a4.toInt ≤ 40) (hf0 : ∀ b, pR P a0 10 = some b → 1 ≤ (pI P b (a2.toInt.toNat)).toInt ∧ (pI P b (a2.toInt.toNat)).toInt ≤ 16) (hW : MW P a0) : CtrV yX12_gathers cX12_gathers 7 none ({ frames := 4, cells := 0, slots := 0, locals := 256 } : Room) 0 0 P [.ref a0, .int a1, .int a2, .int a3, .int a4] (fun P2 => IM P2 a0 ∧ EM [28, 29, 30, 31] a0 P P2 ∧ MW P2 a0 ∧ ((pI P2 a0 28).toInt ≤ 4 + a4.toInt)) := by
  refine enV (lv := [(0, .ref a0), (1, .int a1), (2, .int a2), (3, .int a3), (4, .int a4)]) (by decide) (Nat.le_of_ble_eq_true rfl) rfl (fun E D cy C Ci0 ret => ?_)
  have ha0 := I.2.1
  have J8 : ∀ (n8 : Nat) (P8 : PP) (v8_5 : Int32), (40 - v8_5.toInt).toNat < n8 → (IM P8 a0) → (EM [28, 29, 30, 31] a0 P P8) → (MW P8 a0) → (0 ≤ v8_5.toInt ∧ v8_5.toInt ≤ 40) → (∀ b, pR P8 a0 10 = some b → 1 ≤ (pI P8 b (a2.toInt.toNat)).toInt ∧ (pI P8 b (a2.toInt.toNat)).toInt ≤ 16) → ((pI P8 a0 28).toInt ≤ 4 + v8_5.toInt) → (v8_5.toInt ≤ a4.toInt) → G E ({ frames := 4, cells := 0, slots := 0, locals := 256 } : Room) D cy 7 P8 0 0 8 [(0, .ref a0), (1, .int a1), (2, .int a2), (3, .int a3), (4, .int a4), (5, .int v8_5)] [] := by
    intro n8
    induction n8 with
    | zero => intro P8 v8_5 hm8 I8 X8 W8 hv8_5 hq8_0 rel8_0 rel8_1; omega
    | succ n8 ih8 =>
      intro P8 v8_5 hm8 I8 X8 W8 hv8_5 hq8_0 rel8_0 rel8_1
      have h51332 := X8.at ha0
      obtain ⟨b51333, e51334, h51335⟩ := I8.fld (h51332) 10 13 2 rfl
      have hq8_0 := hq8_0 b51333 e51334
      have h51336 := I8.rg h51332 28 rfl
      have J89 : ∀ (P89 : PP), (IM P89 a0) → (EM [28, 29, 30, 31] a0 P P89) → (MW P89 a0) → (1 ≤ a4.toInt ∧ a4.toInt ≤ 40) → (0 ≤ v8_5.toInt ∧ v8_5.toInt ≤ 39) → (∀ b, pR P89 a0 10 = some b → 1 ≤ (pI P89 b (a2.toInt.toNat)).toInt ∧ (pI P89 b (a2.toInt.toNat)).toInt ≤ 16) → ((pI P89 a0 28).toInt ≤ 5 + v8_5.toInt) → (v8_5.toInt < a4.toInt) → G E ({ frames := 4, cells := 0, slots := 0, locals := 256 } : Room) D cy 7 P89 0 0 89 [(0, .ref a0), (1, .int a1), (2, .int a2), (3, .int a3), (4, .int a4), (5, .int v8_5)] [] := by
        intro P89 I89 X89 W89 hv89_4 hv89_5 hq89_0 rel89_0 rel89_1
        have h51337 := X89.at ha0
        obtain ⟨b51338, e51339, h51340⟩ := I89.fld (h51337) 10 13 2 rfl
        have hq89_0 := hq89_0 b51338 e51339
        have h51341 := I89.rg h51337 28 rfl
        refine s_iinc (lv0 := [(0, .ref a0), (1, .int a1), (2, .int a2), (3, .int a3), (4, .int a4)]) (m := 1) C dX12_gathers_89 5 rfl (by decide) rfl (by decide) (by omega) (fun z51342 h51343 => ?_)
        have h51343 : z51342.toInt = v8_5.toInt + 1 := h51343
        refine g_goto C 8 dX12_gathers_92 (by decide) ?_
        refine g_lv (lv' := [(0, .ref a0), (1, .int a1), (2, .int a2), (3, .int a3), (4, .int a4), (5, .int z51342)]) [1, 2, 3, 4, 5, 0] rfl ?_
        exact ih8 P89 z51342 (by omega) I89 X89 W89 (by omega) (fun b9 e9 => by rw [e51339] at e9; cases e9; omega) (by show (pI P89 a0 28).toInt ≤ 4 + z51342.toInt; omega) (by show z51342.toInt ≤ a4.toInt; omega)
      refine g_iload C dX12_gathers_8 5 rfl ?_
      refine g_iload C dX12_gathers_10 4 rfl ?_
      refine b_icmp_ge C 95 dX12_gathers_12 (by decide) (fun h51344 => ?_) (fun h51344 => ?_)
      · have h51344 : a4.toInt ≤ v8_5.toInt := h51344
        exact ret _ _ _ _ _ dX12_gathers_95 (by decide) (by decide) ⟨I8, X8, W8, (by show (pI P8 a0 28).toInt ≤ 4 + a4.toInt; omega)⟩
      · have h51344 : v8_5.toInt < a4.toInt := h51344
        refine g_bipush (v := 40) C dX12_gathers_15 (by decide) ?_
        refine g_iload_n C dX12_gathers_17 rfl 1 rfl ?_
        refine s_imul C dX12_gathers_18 (by show -2147483648 ≤ 40 * a1.toInt ∧ 40 * a1.toInt ≤ 2147483647; omega) (fun z51345 h51346 => ?_)
        have h51346 : z51345.toInt = 40 * a1.toInt := h51346
        refine g_iload C dX12_gathers_19 5 rfl ?_
        refine s_iadd C dX12_gathers_21 (by show -2147483648 ≤ z51345.toInt + v8_5.toInt ∧ z51345.toInt + v8_5.toInt ≤ 2147483647; omega) (fun z51347 h51348 => ?_)
        have h51348 : z51347.toInt = z51345.toInt + v8_5.toInt := h51348
        refine g_istore (lv' := [(6, .int z51347), (0, .ref a0), (1, .int a1), (2, .int a2), (3, .int a3), (4, .int a4), (5, .int v8_5)]) C dX12_gathers_22 (by decide) rfl ?_
        refine g_aload_n C dX12_gathers_24 rfl 1 rfl ?_
        obtain ⟨b51349, e51350, h51351⟩ := I8.fld (h51332) 22 13 800 rfl
        refine g_getR C fi_X12_75 rfl e51350 (h51332).1 (h51332).2 dX12_gathers_25 ?_
        refine g_iload C dX12_gathers_28 0 rfl ?_
        refine g_iald (j := (z51347.toInt.toNat)) C h51351.1 h51351.2.1 (ix_in h51351.2.2 (by omega)) dX12_gathers_30 ?_
        have h51352 := I8.arr e51350 rfl (z51347.toInt.toNat)
        refine g_iload_n C dX12_gathers_31 rfl 3 rfl ?_
        refine b_icmp_ne C 89 dX12_gathers_32 (by decide) (fun h51353 => ?_) (fun h51353 => ?_)
        · have h51353 : (pI P8 b51349 (z51347.toInt.toNat)).toInt ≠ a2.toInt := ti_ne h51353
          refine g_lv (lv' := [(0, .ref a0), (1, .int a1), (2, .int a2), (3, .int a3), (4, .int a4), (5, .int v8_5)]) [1, 2, 3, 4, 5, 6] rfl ?_
          exact J89 P8 I8 X8 W8 (by omega) (by omega) (fun b9 e9 => by rw [e51334] at e9; cases e9; omega) (by show (pI P8 a0 28).toInt ≤ 5 + v8_5.toInt; omega) (by show v8_5.toInt < a4.toInt; omega)
        · have h51353 : (pI P8 b51349 (z51347.toInt.toNat)).toInt = a2.toInt := congrArg Int32.toInt h51353
          refine g_aload_n C dX12_gathers_35 rfl 1 rfl ?_
          obtain ⟨b51354, e51355, h51356⟩ := I8.fld (h51332) 24 13 800 rfl
          refine g_getR C fi_X12_81 rfl e51355 (h51332).1 (h51332).2 dX12_gathers_36 ?_
          refine g_iload C dX12_gathers_39 0 rfl ?_
          refine g_iald (j := (z51347.toInt.toNat)) C h51356.1 h51356.2.1 (ix_in h51356.2.2 (by omega)) dX12_gathers_41 ?_
          refine g_iload_n C dX12_gathers_42 rfl 4 rfl ?_
          refine a_ishr C dX12_gathers_43 (fun z51357 => ?_)
          refine g_iconst (v := 1) C dX12_gathers_44 (by decide) ?_
          refine s_iand C dX12_gathers_45 (by show 0 ≤ 1; omega) (fun z51359 h51360 => ?_)
          have h51360 : 0 ≤ z51359.toInt ∧ z51359.toInt ≤ 1 := h51360
          refine g_iconst (v := 1) C dX12_gathers_46 (by decide) ?_
          refine b_icmp_ne C 89 dX12_gathers_47 (by decide) (fun h51361 => ?_) (fun h51361 => ?_)
          · have h51361 : z51359.toInt ≠ 1 := ti_ne h51361
            refine g_lv (lv' := [(0, .ref a0), (1, .int a1), (2, .int a2), (3, .int a3), (4, .int a4), (5, .int v8_5)]) [1, 2, 3, 4, 5, 6] rfl ?_
            exact J89 P8 I8 X8 W8 (by omega) (by omega) (fun b9 e9 => by rw [e51334] at e9; cases e9; omega) (by show (pI P8 a0 28).toInt ≤ 5 + v8_5.toInt; omega) (by show v8_5.toInt < a4.toInt; omega)
          · have h51361 : z51359.toInt = 1 := congrArg Int32.toInt h51361
            refine g_aload_n C dX12_gathers_50 rfl 1 rfl ?_
            obtain ⟨b51362, e51363, h51364⟩ := I8.fld (h51332) 32 15 40 rfl
            refine g_getR C fi_X12_100 rfl e51363 (h51332).1 (h51332).2 dX12_gathers_51 ?_
            refine g_iload C dX12_gathers_54 6 rfl ?_
            refine g_zald (j := (v8_5.toInt.toNat)) C h51364.1 h51364.2.1 (ix_in h51364.2.2 (by omega)) dX12_gathers_56 ?_
            have u51366 := ti_rng (pI P8 b51362 (v8_5.toInt.toNat))
            refine b_if_ne C 89 dX12_gathers_57 (by decide) (fun h51365 => ?_) (fun h51365 => ?_)
            · have h51365 : (pI P8 b51362 (v8_5.toInt.toNat)).toInt ≠ 0 := ti_ne h51365
              refine g_lv (lv' := [(0, .ref a0), (1, .int a1), (2, .int a2), (3, .int a3), (4, .int a4), (5, .int v8_5)]) [1, 2, 3, 4, 5, 6] rfl ?_
              exact J89 P8 I8 X8 W8 (by omega) (by omega) (fun b9 e9 => by rw [e51334] at e9; cases e9; omega) (by show (pI P8 a0 28).toInt ≤ 5 + v8_5.toInt; omega) (by show v8_5.toInt < a4.toInt; omega)
            · have h51365 : (pI P8 b51362 (v8_5.toInt.toNat)).toInt = 0 := congrArg Int32.toInt h51365
              refine g_aload_n C dX12_gathers_60 rfl 1 rfl ?_
              refine g_aload_n C dX12_gathers_61 rfl 1 rfl ?_
              refine g_iload_n C dX12_gathers_62 rfl 3 rfl ?_
              refine g_aload_n C dX12_gathers_63 rfl 1 rfl ?_
              obtain ⟨b51367, e51368, h51369⟩ := I8.fld (h51332) 21 13 800 rfl
              refine g_getR C fi_X12_72 rfl e51368 (h51332).1 (h51332).2 dX12_gathers_64 ?_
              refine g_iload C dX12_gathers_67 0 rfl ?_
              refine g_iald (j := (z51347.toInt.toNat)) C h51369.1 h51369.2.1 (ix_in h51369.2.2 (by omega)) dX12_gathers_69 ?_
              refine g_callVI (rest := [.ref a0]) C mv_X12_261 [.int a2, .int (pI P8 b51367 (z51347.toInt.toNat))] (s_X12_setOf I8 (by omega) (fun b9 e9 => by rw [e51334] at e9; cases e9; show 1 ≤ (pI P8 b51333 (a2.toInt.toNat)).toInt ∧ (pI P8 b51333 (a2.toInt.toNat)).toInt ≤ 16; omega) W8) (h51332).1 (h51332).2 rfl rfl (by decide) (Nat.le_of_ble_eq_true rfl) (by decide) dX12_gathers_70 (fun r51370 Y51371 h51372 => ?_)
              obtain ⟨Iy51373, Xy51374, W51375, h51372⟩ := h51372
              have q51376 := Xy51374.keepA e51334 (by decide) rfl (a2.toInt.toNat)
              have q51377 := Xy51374.keepF 28 (by decide)
              have q51378 := Xy51374.keepA e51350 (by decide) rfl (z51347.toInt.toNat)
              have q51379 := Xy51374.keepA e51363 (by decide) rfl (v8_5.toInt.toNat)
              have Xz51380 : EM [28, 29, 30, 31] a0 P Y51371 := EM.tr ha0 X8 (Xy51374.mono (by decide))
              have e51381 := Xy51374.ref h51332 (by decide) e51334
              have e51382 := Xy51374.ref h51332 (by decide) e51350
              have e51383 := Xy51374.ref h51332 (by decide) e51363
              have h51384 := Xy51374.at h51332
              have h51385 := Xy51374.ar h51335
              have h51386 := Xy51374.ar h51351
              have h51387 := Xy51374.ar h51364
              have h51372 : True := h51372
              refine g_aload_n C dX12_gathers_73 rfl 1 rfl ?_
              obtain ⟨b51388, e51389, h51390⟩ := Iy51373.fld (h51384) 23 13 800 rfl
              refine g_getR C fi_X12_78 rfl e51389 (h51384).1 (h51384).2 dX12_gathers_74 ?_
              refine g_iload C dX12_gathers_77 0 rfl ?_
              refine g_iald (j := (z51347.toInt.toNat)) C h51390.1 h51390.2.1 (ix_in h51390.2.2 (by omega)) dX12_gathers_79 ?_
              refine g_iload_n C dX12_gathers_80 rfl 4 rfl ?_
              refine g_callSI (b := 0) (ci := 0) (rest := [.int r51370, .ref a0]) C ms_X12_315 [.int (pI Y51371 b51388 (z51347.toInt.toNat)), .int a3] (s_X12_byteOf Iy51373.1) rfl rfl (by decide) (Nat.le_of_ble_eq_true rfl) (by decide) dX12_gathers_81 (fun r51391 Y51392 h51393 => ?_)
              obtain ⟨rfl, h51393⟩ := h51393
              have h51393 : 0 ≤ r51391.toInt ∧ r51391.toInt ≤ 255 := h51393
              refine g_iload C dX12_gathers_84 6 rfl ?_
              refine g_callVV (rest := []) C mv_X12_308 [.int r51370, .int r51391, .int v8_5] (s_X12_adds Iy51373 (by omega) W51375) (h51384).1 (h51384).2 rfl rfl (by decide) (Nat.le_of_ble_eq_true rfl) (by decide) dX12_gathers_86 (fun Y51395 h51396 => ?_)
              obtain ⟨Iy51397, Xy51398, W51399, p51400⟩ := h51396
              have p51400 : (pI Y51395 a0 28).toInt = (pI Y51371 a0 28).toInt + 1 := p51400
              have q51401 := Xy51398.keepA e51381 (by decide) rfl (a2.toInt.toNat)
              have q51402 := Xy51398.keepA e51382 (by decide) rfl (z51347.toInt.toNat)
              have q51403 := Xy51398.keepA e51383 (by decide) rfl (v8_5.toInt.toNat)
              have Xz51404 : EM [28, 29, 30, 31] a0 P Y51395 := EM.tr ha0 Xz51380 (Xy51398.mono (by decide))
              have e51405 := Xy51398.ref h51384 (by decide) e51381
              have e51406 := Xy51398.ref h51384 (by decide) e51382
              have e51407 := Xy51398.ref h51384 (by decide) e51383
              have h51408 := Xy51398.at h51384
              have h51409 := Xy51398.ar h51385
              have h51410 := Xy51398.ar h51386
              have h51411 := Xy51398.ar h51387
              have h51412 := Iy51397.rg h51408 28 rfl
              refine g_lv (lv' := [(0, .ref a0), (1, .int a1), (2, .int a2), (3, .int a3), (4, .int a4), (5, .int v8_5)]) [1, 2, 3, 4, 5, 6] rfl ?_
              exact J89 Y51395 Iy51397 Xz51404 W51399 (by omega) (by omega) (fun b9 e9 => by rw [e51405] at e9; cases e9; omega) (by show (pI Y51395 a0 28).toInt ≤ 5 + v8_5.toInt; omega) (by show v8_5.toInt < a4.toInt; omega)
  obtain ⟨b51413, e51414, h51415⟩ := I.fld (ha0) 10 13 2 rfl
  have hf0 := hf0 b51413 e51414
  refine g_aload_n C dX12_gathers_0 rfl 0 rfl ?_
  refine g_iload_n C dX12_gathers_1 rfl 2 rfl ?_
  refine g_callVV (rest := []) C mv_X12_312 [.int a2] (s_X12_begins I (by omega) hW) (ha0).1 (ha0).2 rfl rfl (by decide) (Nat.le_of_ble_eq_true rfl) (by decide) dX12_gathers_2 (fun Y51417 h51418 => ?_)
  obtain ⟨Iy51419, Xy51420, W51421, p51422⟩ := h51418
  have p51422 : (pI Y51417 a0 28).toInt ≤ 4 := p51422
  have q51423 := Xy51420.keepA e51414 (by decide) rfl (a2.toInt.toNat)
  have Xz51424 : EM [28, 29, 30, 31] a0 P Y51417 := Xy51420.mono (by decide)
  have e51425 := Xy51420.ref ha0 (by decide) e51414
  have h51426 := Xy51420.at ha0
  have h51427 := Xy51420.ar h51415
  have h51428 := Iy51419.rg h51426 28 rfl
  refine g_iconst (v := 0) C dX12_gathers_5 (by decide) ?_
  refine g_istore (lv' := [(5, .int 0), (0, .ref a0), (1, .int a1), (2, .int a2), (3, .int a3), (4, .int a4)]) C dX12_gathers_6 (by decide) rfl ?_
  refine g_lv (lv' := [(0, .ref a0), (1, .int a1), (2, .int a2), (3, .int a3), (4, .int a4), (5, .int 0)]) [1, 2, 3, 4, 5, 0] rfl ?_
  exact J8 _ Y51417 0 (Nat.lt_succ_self _) Iy51419 Xz51424 W51421 (by decide) (fun b9 e9 => by rw [e51425] at e9; cases e9; omega) (by show (pI Y51417 a0 28).toInt ≤ 4 + 0; omega) (by show 0 ≤ a4.toInt; omega)
