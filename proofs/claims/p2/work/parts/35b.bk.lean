set_option maxHeartbeats 4000000 in
set_option maxRecDepth 100000 in
theorem s_X11_isBook_E {P : PP} {a0 : Int32} (I : IV P) : CtrI yX11_isBook cX11_isBook 1 (some Jvm.ClassFile.FieldType.boolean) ({ frames := 1, cells := 0, slots := 0, locals := 64 } : Room) 0 0 P [.int a0] (fun r P2 => P = P2 ∧ (0 ≤ r.toInt ∧ r.toInt ≤ 1) ∧ (r.toInt = 0 ∨ (((0 : Int) ≤ a0.toInt ∧ a0.toInt ≤ (1 : Int)))) ∧ (r.toInt ≠ 0 ∨ a0.toInt < 0 ∨ 1 < a0.toInt)) := by
  refine enI (lv := [(0, .int a0)]) (by decide) (Nat.le_of_ble_eq_true rfl) rfl (fun E D cy C Ci0 ret => ?_)
  have J13 : (a0.toInt < 0 ∨ 1 < a0.toInt) → G E ({ frames := 1, cells := 0, slots := 0, locals := 64 } : Room) D cy 1 P 0 0 13 [] [] := by
    intro rel13_0
    refine g_iconst (v := 0) C dX11_isBook_13 (by decide) ?_
    exact ret _ _ _ _ _ _ dX11_isBook_14 rfl (by decide) (by decide) ⟨rfl, (by decide), Or.inl rfl, (by show (0 : Int) ≠ 0 ∨ a0.toInt < 0 ∨ 1 < a0.toInt; omega)⟩
  refine g_iload_n C dX11_isBook_0 rfl 0 rfl ?_
  have u5518 := ti_rng a0
  refine b_if_lt C 13 dX11_isBook_1 (by decide) (fun h5517 => ?_) (fun h5517 => ?_)
  · have h5517 : a0.toInt < 0 := h5517
    refine g_lv (lv' := []) [] rfl ?_
    exact J13 (by show a0.toInt < 0 ∨ 1 < a0.toInt; omega)
  · have h5517 : 0 ≤ a0.toInt := h5517
    refine g_iload_n C dX11_isBook_4 rfl 0 rfl ?_
    refine g_iconst (v := 2) C dX11_isBook_5 (by decide) ?_
    have u5520 := ti_rng a0
    refine b_icmp_ge C 13 dX11_isBook_6 (by decide) (fun h5519 => ?_) (fun h5519 => ?_)
    · have h5519 : 2 ≤ a0.toInt := h5519
      refine g_lv (lv' := []) [] rfl ?_
      exact J13 (by show a0.toInt < 0 ∨ 1 < a0.toInt; omega)
    · have h5519 : a0.toInt < 2 := h5519
      refine g_iconst (v := 1) C dX11_isBook_9 (by decide) ?_
      refine g_goto C 14 dX11_isBook_10 (by decide) ?_
      exact ret _ _ _ _ _ _ dX11_isBook_14 rfl (by decide) (by decide) ⟨rfl, (by decide), Or.inr (by omega), (by show (1 : Int) ≠ 0 ∨ a0.toInt < 0 ∨ 1 < a0.toInt; omega)⟩
set_option maxHeartbeats 4000000 in
set_option maxRecDepth 100000 in
theorem s_X11_book_E {P : PP} {a0 : Nat} {a1 : Int32} {a2 : Int32} (I : IV P) (ha0 : At P a0 11) : CtrI yX11_book cX11_book 4 (some Jvm.ClassFile.FieldType.boolean) ({ frames := 3, cells := 0, slots := 0, locals := 192 } : Room) 0 0 P [.ref a0, .int a1, .int a2] (fun r P2 => IV P2 ∧ EK [1, 3, 6, 13, 15] P P2 ∧ (0 ≤ r.toInt ∧ r.toInt ≤ 1) ∧ (r.toInt = 0 ∨ (((0 : Int) ≤ a1.toInt ∧ a1.toInt ≤ (1 : Int)))) ∧ ((r.toInt = 1 ∧ (0 ≤ a1.toInt ∧ a1.toInt ≤ 1 ∧ 1 ≤ a2.toInt ∧ a2.toInt ≤ 16)) ∨ (r.toInt = 0 ∧ (a1.toInt < 0 ∨ 1 < a1.toInt ∨ a2.toInt < 1 ∨ 16 < a2.toInt)))) := by
  refine enI (lv := [(0, .ref a0), (1, .int a1), (2, .int a2)]) (by decide) (Nat.le_of_ble_eq_true rfl) rfl (fun E D cy C Ci0 ret => ?_)
  have J32 : ∀ (n32 : Nat) (P32 : PP) (v32_3 : Int32), (4 - v32_3.toInt).toNat < n32 → (IV P32) → (EK [1, 3, 6, 13, 15] P P32) → (0 ≤ a1.toInt ∧ a1.toInt ≤ 1) → (0 ≤ v32_3.toInt ∧ v32_3.toInt ≤ 4) → ((0 ≤ a1.toInt ∧ a1.toInt ≤ 1 ∧ 1 ≤ a2.toInt ∧ a2.toInt ≤ 16)) → G E ({ frames := 3, cells := 0, slots := 0, locals := 192 } : Room) D cy 4 P32 0 0 32 [(0, .ref a0), (1, .int a1), (3, .int v32_3)] [] := by
    intro n32
    induction n32 with
    | zero => intro P32 v32_3 hm32 I32 X32 hv32_1 hv32_3 rel32_0; omega
    | succ n32 ih32 =>
      intro P32 v32_3 hm32 I32 X32 hv32_1 hv32_3 rel32_0
      have h5751 := X32.at ha0
      refine g_iload_n C dX11_book_32 rfl 2 rfl ?_
      refine g_iconst (v := 4) C dX11_book_33 (by decide) ?_
      refine b_icmp_ge C 53 dX11_book_34 (by decide) (fun h5752 => ?_) (fun h5752 => ?_)
      · have h5752 : 4 ≤ v32_3.toInt := h5752
        refine g_aload_n C dX11_book_53 rfl 0 rfl ?_
        refine g_callVV (rest := []) C mv_X11_94 [] (s_X11_forgetMarks I32 h5751) (h5751).1 (h5751).2 rfl rfl (by decide) (Nat.le_of_ble_eq_true rfl) (by decide) dX11_book_54 (fun Y5754 h5755 => ?_)
        obtain ⟨Iy5756, Xy5757⟩ := h5755
        have Xz5758 : EK [1, 3, 6, 13, 15] P Y5754 := X32.tr (Xy5757.mono (by decide))
        have h5759 := Xy5757.at h5751
        refine g_iconst (v := 1) C dX11_book_57 (by decide) ?_
        exact ret _ _ _ _ _ _ dX11_book_58 rfl (by decide) (by decide) ⟨Iy5756, Xz5758, (by decide), Or.inr (by omega), (by show ((1 : Int) = 1 ∧ (0 ≤ a1.toInt ∧ a1.toInt ≤ 1 ∧ 1 ≤ a2.toInt ∧ a2.toInt ≤ 16)) ∨ ((1 : Int) = 0 ∧ (a1.toInt < 0 ∨ 1 < a1.toInt ∨ a2.toInt < 1 ∨ 16 < a2.toInt)); omega)⟩
      · have h5752 : v32_3.toInt < 4 := h5752
        refine g_aload_n C dX11_book_37 rfl 0 rfl ?_
        obtain ⟨b5760, e5761, h5762⟩ := I32.fld (h5751) 1 19 4 rfl
        refine g_getR C fi_X11_17 rfl e5761 (h5751).1 (h5751).2 dX11_book_38 ?_
        refine g_iload_n C dX11_book_41 rfl 2 rfl ?_
        obtain ⟨b5763, e5764, h5765⟩ := I32.elm h5762 (by decide) (v32_3.toInt.toNat) (by omega)
        refine g_aldR C h5762.1 h5762.2.1 (by decide) (ix_in h5762.2.2 (by omega)) e5764 dX11_book_42 ?_
        refine g_iload_n C dX11_book_43 rfl 1 rfl ?_
        refine g_callVV (rest := []) C mv_X11_91 [.int a1] (s_X6_dropTouching I32 h5765) (h5765).1 (h5765).2 rfl rfl (by decide) (Nat.le_of_ble_eq_true rfl) (by decide) dX11_book_44 (fun Y5767 h5768 => ?_)
        obtain ⟨Iy5769, Xy5770⟩ := h5768
        have Xz5771 : EK [1, 3, 6, 13, 15] P Y5767 := X32.tr (Xy5770.mono (by decide))
        have h5772 := Xy5770.at h5751
        refine s_iinc (lv0 := [(0, .ref a0), (1, .int a1)]) (m := 1) C dX11_book_47 2 rfl (by decide) rfl (by decide) (by omega) (fun z5773 h5774 => ?_)
        have h5774 : z5773.toInt = v32_3.toInt + 1 := h5774
        refine g_goto C 32 dX11_book_50 (by decide) ?_
        refine g_lv (lv' := [(0, .ref a0), (1, .int a1), (3, .int z5773)]) [1, 2, 0] rfl ?_
        exact ih32 Y5767 z5773 (by omega) Iy5769 Xz5771 (by omega) (by omega) (by show (0 ≤ a1.toInt ∧ a1.toInt ≤ 1 ∧ 1 ≤ a2.toInt ∧ a2.toInt ≤ 16); omega)
  have J18 : (a1.toInt < 0 ∨ 1 < a1.toInt ∨ a2.toInt < 1 ∨ 16 < a2.toInt) → G E ({ frames := 3, cells := 0, slots := 0, locals := 192 } : Room) D cy 4 P 0 0 18 [] [] := by
    intro rel18_0
    refine g_iconst (v := 0) C dX11_book_18 (by decide) ?_
    exact ret _ _ _ _ _ _ dX11_book_19 rfl (by decide) (by decide) ⟨I, EK.rf, (by decide), Or.inl rfl, (by show ((0 : Int) = 1 ∧ (0 ≤ a1.toInt ∧ a1.toInt ≤ 1 ∧ 1 ≤ a2.toInt ∧ a2.toInt ≤ 16)) ∨ ((0 : Int) = 0 ∧ (a1.toInt < 0 ∨ 1 < a1.toInt ∨ a2.toInt < 1 ∨ 16 < a2.toInt)); omega)⟩
  refine g_iload_n C dX11_book_0 rfl 1 rfl ?_
  refine g_callSI (b := 0) (ci := 0) (rest := []) C ms_X11_84 [.int a1] (s_X11_isBook_E I) rfl rfl (by decide) (Nat.le_of_ble_eq_true rfl) (by decide) dX11_book_1 (fun r5775 Y5776 h5777 => ?_)
  obtain ⟨rfl, h5777⟩ := h5777
  obtain ⟨h5777, hi5778, hi5779⟩ := h5777
  have hi5778 : r5775.toInt = 0 ∨ (((0 : Int) ≤ a1.toInt ∧ a1.toInt ≤ (1 : Int))) := hi5778
  have hi5779 : r5775.toInt ≠ 0 ∨ a1.toInt < 0 ∨ 1 < a1.toInt := hi5779
  have h5777 : 0 ≤ r5775.toInt ∧ r5775.toInt ≤ 1 := h5777
  refine b_if_eq C 18 dX11_book_4 (by decide) (fun h5780 => ?_) (fun h5780 => ?_)
  · have h5780 : r5775.toInt = 0 := congrArg Int32.toInt h5780
    clear hi5778
    refine g_lv (lv' := []) [] rfl ?_
    exact J18 (by show a1.toInt < 0 ∨ 1 < a1.toInt ∨ a2.toInt < 1 ∨ 16 < a2.toInt; omega)
  · have h5780 : r5775.toInt ≠ 0 := ti_ne h5780
    replace hi5778 := hi5778.resolve_left (by omega)
    refine g_iload_n C dX11_book_7 rfl 2 rfl ?_
    refine g_iconst (v := 1) C dX11_book_8 (by decide) ?_
    have u5782 := ti_rng a2
    refine b_icmp_lt C 18 dX11_book_9 (by decide) (fun h5781 => ?_) (fun h5781 => ?_)
    · have h5781 : a2.toInt < 1 := h5781
      refine g_lv (lv' := []) [] rfl ?_
      exact J18 (by show a1.toInt < 0 ∨ 1 < a1.toInt ∨ a2.toInt < 1 ∨ 16 < a2.toInt; omega)
    · have h5781 : 1 ≤ a2.toInt := h5781
      refine g_iload_n C dX11_book_12 rfl 2 rfl ?_
      refine g_bipush (v := 16) C dX11_book_13 (by decide) ?_
      have u5784 := ti_rng a2
      refine b_icmp_le C 20 dX11_book_15 (by decide) (fun h5783 => ?_) (fun h5783 => ?_)
      · have h5783 : a2.toInt ≤ 16 := h5783
        refine g_aload_n C dX11_book_20 rfl 0 rfl ?_
        obtain ⟨b5785, e5786, h5787⟩ := I.fld (ha0) 0 17 2 rfl
        refine g_getR C fi_X11_11 rfl e5786 (ha0).1 (ha0).2 dX11_book_21 ?_
        refine g_iload_n C dX11_book_24 rfl 1 rfl ?_
        obtain ⟨b5788, e5789, h5790⟩ := I.elm h5787 (by decide) (a1.toInt.toNat) (by omega)
        refine g_aldR C h5787.1 h5787.2.1 (by decide) (ix_in h5787.2.2 (by omega)) e5789 dX11_book_25 ?_
        refine g_iload_n C dX11_book_26 rfl 2 rfl ?_
        refine g_callVV (rest := []) C mv_X11_88 [.int a2] (s_X1_tell I h5790 (by omega)) (h5790).1 (h5790).2 rfl rfl (by decide) (Nat.le_of_ble_eq_true rfl) (by decide) dX11_book_27 (fun Y5792 h5793 => ?_)
        obtain ⟨Iy5794, Xy5795⟩ := h5793
        have Xz5796 : EK [1, 3, 6, 13, 15] P Y5792 := Xy5795.mono (by decide)
        have h5797 := Xy5795.at ha0
        refine g_iconst (v := 0) C dX11_book_30 (by decide) ?_
        refine g_istore_n (lv' := [(3, .int 0), (0, .ref a0), (1, .int a1), (2, .int a2)]) C dX11_book_31 rfl (by decide) rfl ?_
        refine g_lv (lv' := [(0, .ref a0), (1, .int a1), (3, .int 0)]) [1, 2, 0] rfl ?_
        exact J32 _ Y5792 0 (Nat.lt_succ_self _) Iy5794 Xz5796 (by omega) (by decide) (by show (0 ≤ a1.toInt ∧ a1.toInt ≤ 1 ∧ 1 ≤ a2.toInt ∧ a2.toInt ≤ 16); omega)
      · have h5783 : 16 < a2.toInt := h5783
        refine g_lv (lv' := []) [] rfl ?_
        exact J18 (by show a1.toInt < 0 ∨ 1 < a1.toInt ∨ a2.toInt < 1 ∨ 16 < a2.toInt; omega)
set_option maxHeartbeats 4000000 in
set_option maxRecDepth 100000 in
theorem s_X12_within_E {P : PP} {a0 : Int32} {a1 : Int32} {a2 : Int32} (I : IV P) : CtrI yX12_within cX12_within 3 (some Jvm.ClassFile.FieldType.boolean) ({ frames := 1, cells := 0, slots := 0, locals := 64 } : Room) 0 0 P [.int a0, .int a1, .int a2] (fun r P2 => P = P2 ∧ (0 ≤ r.toInt ∧ r.toInt ≤ 1) ∧ (r.toInt = 0 ∨ (a1.toInt ≤ a0.toInt ∧ a0.toInt ≤ a2.toInt)) ∧ (r.toInt ≠ 0 ∨ a0.toInt < a1.toInt ∨ a2.toInt < a0.toInt)) := by
  refine enI (lv := [(0, .int a0), (1, .int a1), (2, .int a2)]) (by decide) (Nat.le_of_ble_eq_true rfl) rfl (fun E D cy C Ci0 ret => ?_)
  have J14 : (a0.toInt < a1.toInt ∨ a2.toInt < a0.toInt) → G E ({ frames := 1, cells := 0, slots := 0, locals := 64 } : Room) D cy 3 P 0 0 14 [] [] := by
    intro rel14_0
    refine g_iconst (v := 0) C dX12_within_14 (by decide) ?_
    exact ret _ _ _ _ _ _ dX12_within_15 rfl (by decide) (by decide) ⟨rfl, (by decide), Or.inl rfl, (by show (0 : Int) ≠ 0 ∨ a0.toInt < a1.toInt ∨ a2.toInt < a0.toInt; omega)⟩
  refine g_iload_n C dX12_within_0 rfl 0 rfl ?_
  refine g_iload_n C dX12_within_1 rfl 1 rfl ?_
  have u5805 := ti_rng a0
  have u5806 := ti_rng a1
  refine b_icmp_lt C 14 dX12_within_2 (by decide) (fun h5804 => ?_) (fun h5804 => ?_)
  · have h5804 : a0.toInt < a1.toInt := h5804
    refine g_lv (lv' := []) [] rfl ?_
    exact J14 (by show a0.toInt < a1.toInt ∨ a2.toInt < a0.toInt; omega)
  · have h5804 : a1.toInt ≤ a0.toInt := h5804
    refine g_iload_n C dX12_within_5 rfl 0 rfl ?_
    refine g_iload_n C dX12_within_6 rfl 2 rfl ?_
    have u5808 := ti_rng a0
    have u5809 := ti_rng a2
    refine b_icmp_gt C 14 dX12_within_7 (by decide) (fun h5807 => ?_) (fun h5807 => ?_)
    · have h5807 : a2.toInt < a0.toInt := h5807
      refine g_lv (lv' := []) [] rfl ?_
      exact J14 (by show a0.toInt < a1.toInt ∨ a2.toInt < a0.toInt; omega)
    · have h5807 : a0.toInt ≤ a2.toInt := h5807
      refine g_iconst (v := 1) C dX12_within_10 (by decide) ?_
      refine g_goto C 15 dX12_within_11 (by decide) ?_
      exact ret _ _ _ _ _ _ dX12_within_15 rfl (by decide) (by decide) ⟨rfl, (by decide), Or.inr (by omega), (by show (1 : Int) ≠ 0 ∨ a0.toInt < a1.toInt ∨ a2.toInt < a0.toInt; omega)⟩
set_option maxHeartbeats 4000000 in
set_option maxRecDepth 100000 in
theorem s_X12_book_E {P : PP} {a0 : Nat} {a1 : Int32} {a2 : Int32} (I : IM P a0) (hW : MW P a0) : CtrI yX12_book cX12_book 5 (some Jvm.ClassFile.FieldType.boolean) ({ frames := 3, cells := 0, slots := 0, locals := 192 } : Room) 0 0 P [.ref a0, .int a1, .int a2] (fun r P2 => IM P2 a0 ∧ EM [0, 10, 11, 12, 13, 14, 15, 17, 20, 21, 22, 23, 24, 25, 26] a0 P P2 ∧ MW P2 a0 ∧ (0 ≤ r.toInt ∧ r.toInt ≤ 1) ∧ (r.toInt = 0 ∨ (((0 : Int) ≤ a1.toInt ∧ a1.toInt ≤ (1 : Int)))) ∧ ((r.toInt = 1 ∧ (0 ≤ a1.toInt ∧ a1.toInt ≤ 1 ∧ 1 ≤ a2.toInt ∧ a2.toInt ≤ 16)) ∨ (r.toInt = 0 ∧ (a1.toInt < 0 ∨ 1 < a1.toInt ∨ a2.toInt < 1 ∨ 16 < a2.toInt)))) := by
  refine enI (lv := [(0, .ref a0), (1, .int a1), (2, .int a2)]) (by decide) (Nat.le_of_ble_eq_true rfl) rfl (fun E D cy C Ci0 ret => ?_)
  have ha0 := I.2.1
  have J66 : ∀ (n66 : Nat) (P66 : PP) (v66_3 : Int32), (4 - v66_3.toInt).toNat < n66 → (IM P66 a0) → (EM [0, 10, 11, 12, 13, 14, 15, 17, 20, 21, 22, 23, 24, 25, 26] a0 P P66) → (MW P66 a0) → (0 ≤ a1.toInt ∧ a1.toInt ≤ 1) → (0 ≤ v66_3.toInt ∧ v66_3.toInt ≤ 4) → (0 ≤ (pI P66 a0 0).toInt ∧ (pI P66 a0 0).toInt ≤ 0) → (∀ b, pR P66 a0 10 = some b → 1 ≤ (pI P66 b (a1.toInt.toNat)).toInt ∧ (pI P66 b (a1.toInt.toNat)).toInt ≤ 16) → ((0 ≤ a1.toInt ∧ a1.toInt ≤ 1 ∧ 1 ≤ a2.toInt ∧ a2.toInt ≤ 16)) → G E ({ frames := 3, cells := 0, slots := 0, locals := 192 } : Room) D cy 5 P66 0 0 66 [(0, .ref a0), (1, .int a1), (3, .int v66_3)] [] := by
    intro n66
    induction n66 with
    | zero => intro P66 v66_3 hm66 I66 X66 W66 hv66_1 hv66_3 hq66_0 hq66_1 rel66_0; omega
    | succ n66 ih66 =>
      intro P66 v66_3 hm66 I66 X66 W66 hv66_1 hv66_3 hq66_0 hq66_1 rel66_0
      have h7116 := X66.at ha0
      obtain ⟨b7117, e7118, h7119⟩ := I66.fld (h7116) 10 13 2 rfl
      have hq66_1 := hq66_1 b7117 e7118
      have J81 : ∀ (n81 : Nat) (P81 : PP) (v81_4 : Int32), (v81_4.toInt - (-1)).toNat < n81 → (IM P81 a0) → (EM [0, 10, 11, 12, 13, 14, 15, 17, 20, 21, 22, 23, 24, 25, 26] a0 P P81) → (MW P81 a0) → (0 ≤ a1.toInt ∧ a1.toInt ≤ 1) → (0 ≤ v66_3.toInt ∧ v66_3.toInt ≤ 3) → (-1 ≤ v81_4.toInt ∧ v81_4.toInt ≤ 39) → (0 ≤ (pI P81 a0 0).toInt ∧ (pI P81 a0 0).toInt ≤ 0) → (∀ b, pR P81 a0 10 = some b → 1 ≤ (pI P81 b (a1.toInt.toNat)).toInt ∧ (pI P81 b (a1.toInt.toNat)).toInt ≤ 16) → (∀ b920, pR P81 a0 20 = some b920 → v81_4.toInt < (pI P81 b920 (v66_3.toInt.toNat)).toInt) → ((0 ≤ a1.toInt ∧ a1.toInt ≤ 1 ∧ 1 ≤ a2.toInt ∧ a2.toInt ≤ 16)) → G E ({ frames := 3, cells := 0, slots := 0, locals := 192 } : Room) D cy 5 P81 0 0 81 [(0, .ref a0), (1, .int a1), (3, .int v66_3), (4, .int v81_4)] [] := by
        intro n81
        induction n81 with
        | zero => intro P81 v81_4 hm81 I81 X81 W81 hv81_1 hv81_3 hv81_4 hq81_0 hq81_1 rel81_0 rel81_1; omega
        | succ n81 ih81 =>
          intro P81 v81_4 hm81 I81 X81 W81 hv81_1 hv81_3 hv81_4 hq81_0 hq81_1 rel81_0 rel81_1
          have h7120 := X81.at ha0
          obtain ⟨b7121, e7122, h7123⟩ := I81.fld (h7120) 10 13 2 rfl
          have hq81_1 := hq81_1 b7121 e7122
          obtain ⟨b7124, e7125, h7126⟩ := I81.fld (h7120) 20 13 20 rfl
          have rel81_0 := rel81_0 b7124 e7125
          have h7127 := I81.arr e7125 rfl (v66_3.toInt.toNat)
          have J124 : ∀ (P124 : PP), (IM P124 a0) → (EM [0, 10, 11, 12, 13, 14, 15, 17, 20, 21, 22, 23, 24, 25, 26] a0 P P124) → (MW P124 a0) → (0 ≤ a1.toInt ∧ a1.toInt ≤ 1) → (0 ≤ v66_3.toInt ∧ v66_3.toInt ≤ 3) → (0 ≤ v81_4.toInt ∧ v81_4.toInt ≤ 39) → (0 ≤ (pI P124 a0 0).toInt ∧ (pI P124 a0 0).toInt ≤ 0) → (∀ b, pR P124 a0 10 = some b → 1 ≤ (pI P124 b (a1.toInt.toNat)).toInt ∧ (pI P124 b (a1.toInt.toNat)).toInt ≤ 16) → (∀ b920, pR P124 a0 20 = some b920 → v81_4.toInt ≤ (pI P124 b920 (v66_3.toInt.toNat)).toInt) → ((0 ≤ a1.toInt ∧ a1.toInt ≤ 1 ∧ 1 ≤ a2.toInt ∧ a2.toInt ≤ 16)) → G E ({ frames := 3, cells := 0, slots := 0, locals := 192 } : Room) D cy 5 P124 0 0 124 [(0, .ref a0), (1, .int a1), (3, .int v66_3), (4, .int v81_4)] [] := by
            intro P124 I124 X124 W124 hv124_1 hv124_3 hv124_4 hq124_0 hq124_1 rel124_0 rel124_1
            have h7128 := X124.at ha0
            obtain ⟨b7129, e7130, h7131⟩ := I124.fld (h7128) 10 13 2 rfl
            have hq124_1 := hq124_1 b7129 e7130
            obtain ⟨b7132, e7133, h7134⟩ := I124.fld (h7128) 20 13 20 rfl
            have rel124_0 := rel124_0 b7132 e7133
            have h7135 := I124.arr e7133 rfl (v66_3.toInt.toNat)
            refine s_iinc (lv0 := [(0, .ref a0), (1, .int a1), (3, .int v66_3)]) (m := -1) C dX12_book_124 3 rfl (by decide) rfl (by decide) (by omega) (fun z7136 h7137 => ?_)
            have h7137 : z7136.toInt = v81_4.toInt + (-1) := h7137
            refine g_goto C 81 dX12_book_127 (by decide) ?_
            refine g_lv (lv' := [(0, .ref a0), (1, .int a1), (3, .int v66_3), (4, .int z7136)]) [1, 2, 3, 0] rfl ?_
            exact ih81 P124 z7136 (by omega) I124 X124 W124 (by omega) (by omega) (by omega) (by omega) (fun b9 e9 => by rw [e7130] at e9; cases e9; omega) (by intro b920 e920; rw [e7133] at e920; cases e920; show z7136.toInt < (pI P124 b7132 (v66_3.toInt.toNat)).toInt; omega) (by show (0 ≤ a1.toInt ∧ a1.toInt ≤ 1 ∧ 1 ≤ a2.toInt ∧ a2.toInt ≤ 16); omega)
          have J117 : (0 ≤ a1.toInt ∧ a1.toInt ≤ 1) → (0 ≤ v66_3.toInt ∧ v66_3.toInt ≤ 3) → (0 ≤ v81_4.toInt ∧ v81_4.toInt ≤ 39) → (0 ≤ (pI P81 a0 0).toInt ∧ (pI P81 a0 0).toInt ≤ 0) → (∀ b, pR P81 a0 10 = some b → 1 ≤ (pI P81 b (a1.toInt.toNat)).toInt ∧ (pI P81 b (a1.toInt.toNat)).toInt ≤ 16) → (∀ b920, pR P81 a0 20 = some b920 → v81_4.toInt < (pI P81 b920 (v66_3.toInt.toNat)).toInt) → ((0 ≤ a1.toInt ∧ a1.toInt ≤ 1 ∧ 1 ≤ a2.toInt ∧ a2.toInt ≤ 16)) → G E ({ frames := 3, cells := 0, slots := 0, locals := 192 } : Room) D cy 5 P81 0 0 117 [(0, .ref a0), (1, .int a1), (3, .int v66_3), (4, .int v81_4)] [] := by
            intro hv117_1 hv117_3 hv117_4 hq117_0 hq117_1 rel117_0 rel117_1
            have h7138 := X81.at ha0
            obtain ⟨b7139, e7140, h7141⟩ := I81.fld (h7138) 10 13 2 rfl
            have hq117_1 := hq117_1 b7139 e7140
            obtain ⟨b7142, e7143, h7144⟩ := I81.fld (h7138) 20 13 20 rfl
            have rel117_0 := rel117_0 b7142 e7143
            have h7145 := I81.arr e7143 rfl (v66_3.toInt.toNat)
            refine g_aload_n C dX12_book_117 rfl 0 rfl ?_
            refine g_iload_n C dX12_book_118 rfl 2 rfl ?_
            refine g_iload C dX12_book_119 3 rfl ?_
            refine g_callVV (rest := []) C mv_X12_185 [.int v66_3, .int v81_4] (s_X12_takesOut I81 (by omega) (by omega) (fun b9 e9 => by rw [e7143] at e9; cases e9; show 1 ≤ (pI P81 b7142 (v66_3.toInt.toNat)).toInt ∧ (pI P81 b7142 (v66_3.toInt.toNat)).toInt ≤ 40; omega) W81) (h7138).1 (h7138).2 rfl rfl (by decide) (Nat.le_of_ble_eq_true rfl) (by decide) dX12_book_121 (fun Y7147 h7148 => ?_)
            obtain ⟨Iy7149, Xy7150, W7151, p7152⟩ := h7148
            have p7152 := p7152 b7142 e7143
            have p7152 : (pI Y7147 b7142 (v66_3.toInt.toNat)).toInt = (pI P81 b7142 (v66_3.toInt.toNat)).toInt - 1 := p7152
            have q7153 := Xy7150.keepF 0 (by decide)
            have q7154 := Xy7150.keepA e7140 (by decide) rfl (a1.toInt.toNat)
            have Xz7155 : EM [0, 10, 11, 12, 13, 14, 15, 17, 20, 21, 22, 23, 24, 25, 26] a0 P Y7147 := EM.tr ha0 X81 (Xy7150.mono (by decide))
            have e7156 := Xy7150.ref h7138 (by decide) e7140
            have e7157 := Xy7150.ref h7138 (by decide) e7143
            have h7158 := Xy7150.at h7138
            have h7159 := Xy7150.ar h7141
            have h7160 := Xy7150.ar h7144
            exact J124 Y7147 Iy7149 Xz7155 W7151 (by omega) (by omega) (by omega) (by omega) (fun b9 e9 => by rw [e7156] at e9; cases e9; omega) (by intro b920 e920; rw [e7157] at e920; cases e920; show v81_4.toInt ≤ (pI Y7147 b7142 (v66_3.toInt.toNat)).toInt; omega) (by show (0 ≤ a1.toInt ∧ a1.toInt ≤ 1 ∧ 1 ≤ a2.toInt ∧ a2.toInt ≤ 16); omega)
          refine g_iload C dX12_book_81 3 rfl ?_
          refine b_if_lt C 130 dX12_book_83 (by decide) (fun h7161 => ?_) (fun h7161 => ?_)
          · have h7161 : v81_4.toInt < 0 := h7161
            refine s_iinc (lv0 := [(0, .ref a0), (1, .int a1), (4, .int v81_4)]) (m := 1) C dX12_book_130 2 rfl (by decide) rfl (by decide) (by omega) (fun z7162 h7163 => ?_)
            have h7163 : z7162.toInt = v66_3.toInt + 1 := h7163
            refine g_goto C 66 dX12_book_133 (by decide) ?_
            refine g_lv (lv' := [(0, .ref a0), (1, .int a1), (3, .int z7162)]) [1, 2, 0] rfl ?_
            exact ih66 P81 z7162 (by omega) I81 X81 W81 (by omega) (by omega) (by omega) (fun b9 e9 => by rw [e7122] at e9; cases e9; omega) (by show (0 ≤ a1.toInt ∧ a1.toInt ≤ 1 ∧ 1 ≤ a2.toInt ∧ a2.toInt ≤ 16); omega)
          · have h7161 : 0 ≤ v81_4.toInt := h7161
            refine g_aload_n C dX12_book_86 rfl 0 rfl ?_
            obtain ⟨b7164, e7165, h7166⟩ := I81.fld (h7120) 22 13 800 rfl
            refine g_getR C fi_X12_75 rfl e7165 (h7120).1 (h7120).2 dX12_book_87 ?_
            refine g_bipush (v := 40) C dX12_book_90 (by decide) ?_
            refine g_iload_n C dX12_book_92 rfl 2 rfl ?_
            refine s_imul C dX12_book_93 (by show -2147483648 ≤ 40 * v66_3.toInt ∧ 40 * v66_3.toInt ≤ 2147483647; omega) (fun z7167 h7168 => ?_)
            have h7168 : z7167.toInt = 40 * v66_3.toInt := h7168
            refine g_iload C dX12_book_94 3 rfl ?_
            refine s_iadd C dX12_book_96 (by show -2147483648 ≤ z7167.toInt + v81_4.toInt ∧ z7167.toInt + v81_4.toInt ≤ 2147483647; omega) (fun z7169 h7170 => ?_)
            have h7170 : z7169.toInt = z7167.toInt + v81_4.toInt := h7170
            refine g_iald (j := (z7169.toInt.toNat)) C h7166.1 h7166.2.1 (ix_in h7166.2.2 (by omega)) dX12_book_97 ?_
            have h7171 := I81.arr e7165 rfl (z7169.toInt.toNat)
            refine g_iload_n C dX12_book_98 rfl 1 rfl ?_
            refine b_icmp_eq C 117 dX12_book_99 (by decide) (fun h7172 => ?_) (fun h7172 => ?_)
            · have h7172 : (pI P81 b7164 (z7169.toInt.toNat)).toInt = a1.toInt := congrArg Int32.toInt h7172
              exact J117 (by omega) (by omega) (by omega) (by omega) (fun b9 e9 => by rw [e7122] at e9; cases e9; omega) (by intro b920 e920; rw [e7125] at e920; cases e920; show v81_4.toInt < (pI P81 b7124 (v66_3.toInt.toNat)).toInt; omega) (by show (0 ≤ a1.toInt ∧ a1.toInt ≤ 1 ∧ 1 ≤ a2.toInt ∧ a2.toInt ≤ 16); omega)
            · have h7172 : (pI P81 b7164 (z7169.toInt.toNat)).toInt ≠ a1.toInt := ti_ne h7172
              refine g_aload_n C dX12_book_102 rfl 0 rfl ?_
              refine g_getR C fi_X12_75 rfl e7165 (h7120).1 (h7120).2 dX12_book_103 ?_
              refine g_bipush (v := 40) C dX12_book_106 (by decide) ?_
              refine g_iload_n C dX12_book_108 rfl 2 rfl ?_
              refine s_imul C dX12_book_109 (by show -2147483648 ≤ 40 * v66_3.toInt ∧ 40 * v66_3.toInt ≤ 2147483647; omega) (fun z7173 h7174 => ?_)
              have h7174 : z7173.toInt = 40 * v66_3.toInt := h7174
              refine g_iload C dX12_book_110 3 rfl ?_
              refine s_iadd C dX12_book_112 (by show -2147483648 ≤ z7173.toInt + v81_4.toInt ∧ z7173.toInt + v81_4.toInt ≤ 2147483647; omega) (fun z7175 h7176 => ?_)
              have h7176 : z7175.toInt = z7173.toInt + v81_4.toInt := h7176
              refine g_iald (j := (z7175.toInt.toNat)) C h7166.1 h7166.2.1 (ix_in h7166.2.2 (by omega)) dX12_book_113 ?_
              have h7177 := I81.arr e7165 rfl (z7175.toInt.toNat)
              refine b_if_ge C 124 dX12_book_114 (by decide) (fun h7178 => ?_) (fun h7178 => ?_)
              · have h7178 : 0 ≤ (pI P81 b7164 (z7175.toInt.toNat)).toInt := h7178
                exact J124 P81 I81 X81 W81 (by omega) (by omega) (by omega) (by omega) (fun b9 e9 => by rw [e7122] at e9; cases e9; omega) (by intro b920 e920; rw [e7125] at e920; cases e920; show v81_4.toInt ≤ (pI P81 b7124 (v66_3.toInt.toNat)).toInt; omega) (by show (0 ≤ a1.toInt ∧ a1.toInt ≤ 1 ∧ 1 ≤ a2.toInt ∧ a2.toInt ≤ 16); omega)
              · have h7178 : (pI P81 b7164 (z7175.toInt.toNat)).toInt < 0 := h7178
                exact J117 (by omega) (by omega) (by omega) (by omega) (fun b9 e9 => by rw [e7122] at e9; cases e9; omega) (by intro b920 e920; rw [e7125] at e920; cases e920; show v81_4.toInt < (pI P81 b7124 (v66_3.toInt.toNat)).toInt; omega) (by show (0 ≤ a1.toInt ∧ a1.toInt ≤ 1 ∧ 1 ≤ a2.toInt ∧ a2.toInt ≤ 16); omega)
      refine g_iload_n C dX12_book_66 rfl 2 rfl ?_
      refine g_iconst (v := 4) C dX12_book_67 (by decide) ?_
      refine b_icmp_ge C 136 dX12_book_68 (by decide) (fun h7179 => ?_) (fun h7179 => ?_)
      · have h7179 : 4 ≤ v66_3.toInt := h7179
        refine g_aload_n C dX12_book_136 rfl 0 rfl ?_
        refine g_callVV (rest := []) C mv_X12_189 [] (s_X12_forgetsMarks I66 W66) (h7116).1 (h7116).2 rfl rfl (by decide) (Nat.le_of_ble_eq_true rfl) (by decide) dX12_book_137 (fun Y7181 h7182 => ?_)
        obtain ⟨Iy7183, Xy7184, W7185⟩ := h7182
        have q7186 := Xy7184.keepF 0 (by decide)
        have q7187 := Xy7184.keepA e7118 (by decide) rfl (a1.toInt.toNat)
        have Xz7188 : EM [0, 10, 11, 12, 13, 14, 15, 17, 20, 21, 22, 23, 24, 25, 26] a0 P Y7181 := EM.tr ha0 X66 (Xy7184.mono (by decide))
        have e7189 := Xy7184.ref h7116 (by decide) e7118
        have h7190 := Xy7184.at h7116
        have h7191 := Xy7184.ar h7119
        refine g_iconst (v := 1) C dX12_book_140 (by decide) ?_
        exact ret _ _ _ _ _ _ dX12_book_141 rfl (by decide) (by decide) ⟨Iy7183, Xz7188, W7185, (by decide), Or.inr (by omega), (by show ((1 : Int) = 1 ∧ (0 ≤ a1.toInt ∧ a1.toInt ≤ 1 ∧ 1 ≤ a2.toInt ∧ a2.toInt ≤ 16)) ∨ ((1 : Int) = 0 ∧ (a1.toInt < 0 ∨ 1 < a1.toInt ∨ a2.toInt < 1 ∨ 16 < a2.toInt)); omega)⟩
      · have h7179 : v66_3.toInt < 4 := h7179
        refine g_aload_n C dX12_book_71 rfl 0 rfl ?_
        obtain ⟨b7192, e7193, h7194⟩ := I66.fld (h7116) 20 13 20 rfl
        refine g_getR C fi_X12_69 rfl e7193 (h7116).1 (h7116).2 dX12_book_72 ?_
        refine g_iload_n C dX12_book_75 rfl 2 rfl ?_
        refine g_iald (j := (v66_3.toInt.toNat)) C h7194.1 h7194.2.1 (ix_in h7194.2.2 (by omega)) dX12_book_76 ?_
        have h7195 := I66.arr e7193 rfl (v66_3.toInt.toNat)
        refine g_iconst (v := 1) C dX12_book_77 (by decide) ?_
        refine s_isub C dX12_book_78 (by show -2147483648 ≤ (pI P66 b7192 (v66_3.toInt.toNat)).toInt - 1 ∧ (pI P66 b7192 (v66_3.toInt.toNat)).toInt - 1 ≤ 2147483647; omega) (fun z7196 h7197 => ?_)
        have h7197 : z7196.toInt = (pI P66 b7192 (v66_3.toInt.toNat)).toInt - 1 := h7197
        refine g_istore (lv' := [(4, .int z7196), (0, .ref a0), (1, .int a1), (3, .int v66_3)]) C dX12_book_79 (by decide) rfl ?_
        refine g_lv (lv' := [(0, .ref a0), (1, .int a1), (3, .int v66_3), (4, .int z7196)]) [1, 2, 3, 0] rfl ?_
        exact J81 _ P66 z7196 (Nat.lt_succ_self _) I66 X66 W66 (by omega) (by omega) (by omega) (by omega) (fun b9 e9 => by rw [e7118] at e9; cases e9; omega) (by intro b920 e920; rw [e7193] at e920; cases e920; show z7196.toInt < (pI P66 b7192 (v66_3.toInt.toNat)).toInt; omega) (by show (0 ≤ a1.toInt ∧ a1.toInt ≤ 1 ∧ 1 ≤ a2.toInt ∧ a2.toInt ≤ 16); omega)
  have J35 : ∀ (n35 : Nat) (P35 : PP) (v35_3 : Int32), (16 - v35_3.toInt).toNat < n35 → (IM P35 a0) → (EM [0, 10, 11, 12, 13, 14, 15, 17, 20, 21, 22, 23, 24, 25, 26] a0 P P35) → (MX P35 a0 (a1.toInt.toNat)) → (0 ≤ a1.toInt ∧ a1.toInt ≤ 1) → (0 ≤ v35_3.toInt ∧ v35_3.toInt ≤ 16) → (0 ≤ (pI P35 a0 0).toInt ∧ (pI P35 a0 0).toInt ≤ 0) → (∀ b, pR P35 a0 10 = some b → 1 ≤ (pI P35 b (a1.toInt.toNat)).toInt ∧ (pI P35 b (a1.toInt.toNat)).toInt ≤ 16) → ((0 ≤ a1.toInt ∧ a1.toInt ≤ 1 ∧ 1 ≤ a2.toInt ∧ a2.toInt ≤ 16)) → G E ({ frames := 3, cells := 0, slots := 0, locals := 192 } : Room) D cy 5 P35 0 0 35 [(0, .ref a0), (1, .int a1), (3, .int v35_3)] [] := by
    intro n35
    induction n35 with
    | zero => intro P35 v35_3 hm35 I35 X35 W35 hv35_1 hv35_3 hq35_0 hq35_1 rel35_0; omega
    | succ n35 ih35 =>
      intro P35 v35_3 hm35 I35 X35 W35 hv35_1 hv35_3 hq35_0 hq35_1 rel35_0
      have h7198 := X35.at ha0
      obtain ⟨b7199, e7200, h7201⟩ := I35.fld (h7198) 10 13 2 rfl
      have hq35_1 := hq35_1 b7199 e7200
      refine g_iload_n C dX12_book_35 rfl 2 rfl ?_
      refine g_bipush (v := 16) C dX12_book_36 (by decide) ?_
      refine b_icmp_ge C 59 dX12_book_38 (by decide) (fun h7202 => ?_) (fun h7202 => ?_)
      · have h7202 : 16 ≤ v35_3.toInt := h7202
        refine g_aload_n C dX12_book_59 rfl 0 rfl ?_
        refine g_iload_n C dX12_book_60 rfl 1 rfl ?_
        refine g_callVV (rest := []) C mv_X12_182 [.int a1] (s_X12_forgetsDrawx I35 (by omega) W35) (h7198).1 (h7198).2 rfl rfl (by decide) (Nat.le_of_ble_eq_true rfl) (by decide) dX12_book_61 (fun Y7204 h7205 => ?_)
        obtain ⟨Iy7206, Xy7207, W7208, p7209⟩ := h7205
        obtain ⟨b7210, e7211, h7212⟩ := I35.fld (h7198) 14 13 3 rfl
        have p7209 := p7209 b7210 e7211
        have p7209 : (pI Y7204 b7210 (a1.toInt.toNat)).toInt = 1 := p7209
        have h7213 := I35.arr e7211 rfl (a1.toInt.toNat)
        have q7214 := Xy7207.keepF 0 (by decide)
        have q7215 := Xy7207.keepA e7200 (by decide) rfl (a1.toInt.toNat)
        have Xz7216 : EM [0, 10, 11, 12, 13, 14, 15, 17, 20, 21, 22, 23, 24, 25, 26] a0 P Y7204 := EM.tr ha0 X35 (Xy7207.mono (by decide))
        have e7217 := Xy7207.ref h7198 (by decide) e7200
        have e7218 := Xy7207.ref h7198 (by decide) e7211
        have h7219 := Xy7207.at h7198
        have h7220 := Xy7207.ar h7201
        have h7221 := Xy7207.ar h7212
        have W7222 := W7208.back (fun c9 f9 => by rw [e7218] at f9; cases f9; omega)
        refine g_iconst (v := 0) C dX12_book_64 (by decide) ?_
        refine g_istore_n (lv' := [(3, .int 0), (0, .ref a0), (1, .int a1)]) C dX12_book_65 rfl (by decide) rfl ?_
        refine g_lv (lv' := [(0, .ref a0), (1, .int a1), (3, .int 0)]) [1, 2, 0] rfl ?_
        exact J66 _ Y7204 0 (Nat.lt_succ_self _) Iy7206 Xz7216 W7222 (by omega) (by decide) (by omega) (fun b9 e9 => by rw [e7217] at e9; cases e9; omega) (by show (0 ≤ a1.toInt ∧ a1.toInt ≤ 1 ∧ 1 ≤ a2.toInt ∧ a2.toInt ≤ 16); omega)
      · have h7202 : v35_3.toInt < 16 := h7202
        refine g_aload_n C dX12_book_41 rfl 0 rfl ?_
        obtain ⟨b7223, e7224, h7225⟩ := I35.fld (h7198) 11 13 32 rfl
        refine g_getR C fi_X12_48 rfl e7224 (h7198).1 (h7198).2 dX12_book_42 ?_
        refine g_bipush (v := 16) C dX12_book_45 (by decide) ?_
        refine g_iload_n C dX12_book_47 rfl 1 rfl ?_
        refine s_imul C dX12_book_48 (by show -2147483648 ≤ 16 * a1.toInt ∧ 16 * a1.toInt ≤ 2147483647; omega) (fun z7226 h7227 => ?_)
        have h7227 : z7226.toInt = 16 * a1.toInt := h7227
        refine g_iload_n C dX12_book_49 rfl 2 rfl ?_
        refine s_iadd C dX12_book_50 (by show -2147483648 ≤ z7226.toInt + v35_3.toInt ∧ z7226.toInt + v35_3.toInt ≤ 2147483647; omega) (fun z7228 h7229 => ?_)
        have h7229 : z7228.toInt = z7226.toInt + v35_3.toInt := h7229
        refine g_iconst (v := 0) C dX12_book_51 (by decide) ?_
        refine g_iast (j := (z7228.toInt.toNat)) C h7225.1 h7225.2.1 (ix_in h7225.2.2 (by omega)) dX12_book_52 ?_
        refine gqW (ks := [11]) (I35.setA e7224 h7225 (by decide) (arOk.none rfl)) (EM.setA I35 e7224 rfl (by decide)) (fun Y7230 Iy7231 Xy7232 w7233  => ?_)
        have w7233 : (pI Y7230 b7223 (z7228.toInt.toNat)).toInt = 0 := w7233
        have q7234 := Xy7232.keepF 0 (by decide)
        have q7235 := Xy7232.keepA e7200 (by decide) rfl (a1.toInt.toNat)
        have W7236 := W35.keep I35 Xy7232 (by decide) (by decide) (by decide) (by decide)
        have Xz7237 : EM [0, 10, 11, 12, 13, 14, 15, 17, 20, 21, 22, 23, 24, 25, 26] a0 P Y7230 := EM.tr ha0 X35 (Xy7232.mono (by decide))
        have e7238 := Xy7232.ref h7198 (by decide) e7200
        have e7239 := Xy7232.ref h7198 (by decide) e7224
        have h7240 := Xy7232.at h7198
        have h7241 := Xy7232.ar h7201
        have h7242 := Xy7232.ar h7225
        refine s_iinc (lv0 := [(0, .ref a0), (1, .int a1)]) (m := 1) C dX12_book_53 2 rfl (by decide) rfl (by decide) (by omega) (fun z7243 h7244 => ?_)
        have h7244 : z7243.toInt = v35_3.toInt + 1 := h7244
        refine g_goto C 35 dX12_book_56 (by decide) ?_
        refine g_lv (lv' := [(0, .ref a0), (1, .int a1), (3, .int z7243)]) [1, 2, 0] rfl ?_
        exact ih35 Y7230 z7243 (by omega) Iy7231 Xz7237 W7236 (by omega) (by omega) (by omega) (fun b9 e9 => by rw [e7238] at e9; cases e9; omega) (by show (0 ≤ a1.toInt ∧ a1.toInt ≤ 1 ∧ 1 ≤ a2.toInt ∧ a2.toInt ≤ 16); omega)
  have J24 : ∀ (P24 : PP), (IM P24 a0) → (EM [0, 10, 11, 12, 13, 14, 15, 17, 20, 21, 22, 23, 24, 25, 26] a0 P P24) → (MW P24 a0) → (0 ≤ (pI P24 a0 0).toInt ∧ (pI P24 a0 0).toInt ≤ 0) → (a1.toInt < 0 ∨ 1 < a1.toInt ∨ a2.toInt < 1 ∨ 16 < a2.toInt) → G E ({ frames := 3, cells := 0, slots := 0, locals := 192 } : Room) D cy 5 P24 0 0 24 [] [] := by
    intro P24 I24 X24 W24 hq24_0 rel24_0
    have h7245 := X24.at ha0
    refine g_iconst (v := 0) C dX12_book_24 (by decide) ?_
    exact ret _ _ _ _ _ _ dX12_book_25 rfl (by decide) (by decide) ⟨I24, X24, W24, (by decide), Or.inl rfl, (by show ((0 : Int) = 1 ∧ (0 ≤ a1.toInt ∧ a1.toInt ≤ 1 ∧ 1 ≤ a2.toInt ∧ a2.toInt ≤ 16)) ∨ ((0 : Int) = 0 ∧ (a1.toInt < 0 ∨ 1 < a1.toInt ∨ a2.toInt < 1 ∨ 16 < a2.toInt)); omega)⟩
  refine g_aload_n C dX12_book_0 rfl 0 rfl ?_
  refine g_iconst (v := 0) C dX12_book_1 (by decide) ?_
  refine g_putI C fi_X12_1 rfl (ha0).1 (ha0).2 dX12_book_2 ?_
  refine gqW (ks := [0]) (I.setI (rgOk.of rfl (by decide))) (EM.setI I (by decide)) (fun Y7246 Iy7247 Xy7248 w7249  => ?_)
  have w7249 : (pI Y7246 a0 0).toInt = 0 := w7249
  have W7250 := hW.keep I Xy7248 (by decide) (by decide) (by decide) (by decide)
  have Xz7251 : EM [0, 10, 11, 12, 13, 14, 15, 17, 20, 21, 22, 23, 24, 25, 26] a0 P Y7246 := Xy7248.mono (by decide)
  have h7252 := Xy7248.at ha0
  refine g_iload_n C dX12_book_5 rfl 1 rfl ?_
  refine g_iconst (v := 0) C dX12_book_6 (by decide) ?_
  refine g_iconst (v := 1) C dX12_book_7 (by decide) ?_
  refine g_callSI (b := 0) (ci := 0) (rest := []) C ms_X12_178 [.int a1, .int 0, .int 1] (s_X12_within_E Iy7247.1) rfl rfl (by decide) (Nat.le_of_ble_eq_true rfl) (by decide) dX12_book_8 (fun r7253 Y7254 h7255 => ?_)
  obtain ⟨rfl, h7255⟩ := h7255
  obtain ⟨h7255, hi7256, hi7257⟩ := h7255
  have hi7256 : r7253.toInt = 0 ∨ (0 ≤ a1.toInt ∧ a1.toInt ≤ 1) := hi7256
  have hi7257 : r7253.toInt ≠ 0 ∨ a1.toInt < 0 ∨ 1 < a1.toInt := hi7257
  have h7255 : 0 ≤ r7253.toInt ∧ r7253.toInt ≤ 1 := h7255
  refine b_if_eq C 24 dX12_book_11 (by decide) (fun h7258 => ?_) (fun h7258 => ?_)
  · have h7258 : r7253.toInt = 0 := congrArg Int32.toInt h7258
    clear hi7256
    refine g_lv (lv' := []) [] rfl ?_
    exact J24 Y7246 Iy7247 Xz7251 W7250 (by omega) (by show a1.toInt < 0 ∨ 1 < a1.toInt ∨ a2.toInt < 1 ∨ 16 < a2.toInt; omega)
  · have h7258 : r7253.toInt ≠ 0 := ti_ne h7258
    replace hi7256 := hi7256.resolve_left (by omega)
    refine g_iload_n C dX12_book_14 rfl 2 rfl ?_
    refine g_iconst (v := 1) C dX12_book_15 (by decide) ?_
    refine g_bipush (v := 16) C dX12_book_16 (by decide) ?_
    refine g_callSI (b := 0) (ci := 0) (rest := []) C ms_X12_178 [.int a2, .int 1, .int 16] (s_X12_within_E Iy7247.1) rfl rfl (by decide) (Nat.le_of_ble_eq_true rfl) (by decide) dX12_book_18 (fun r7259 Y7260 h7261 => ?_)
    obtain ⟨rfl, h7261⟩ := h7261
    obtain ⟨h7261, hi7262, hi7263⟩ := h7261
    have hi7262 : r7259.toInt = 0 ∨ (1 ≤ a2.toInt ∧ a2.toInt ≤ 16) := hi7262
    have hi7263 : r7259.toInt ≠ 0 ∨ a2.toInt < 1 ∨ 16 < a2.toInt := hi7263
    have h7261 : 0 ≤ r7259.toInt ∧ r7259.toInt ≤ 1 := h7261
    refine b_if_ne C 26 dX12_book_21 (by decide) (fun h7264 => ?_) (fun h7264 => ?_)
    · have h7264 : r7259.toInt ≠ 0 := ti_ne h7264
      replace hi7262 := hi7262.resolve_left (by omega)
      refine g_aload_n C dX12_book_26 rfl 0 rfl ?_
      obtain ⟨b7265, e7266, h7267⟩ := Iy7247.fld (h7252) 10 13 2 rfl
      refine g_getR C fi_X12_45 rfl e7266 (h7252).1 (h7252).2 dX12_book_27 ?_
      refine g_iload_n C dX12_book_30 rfl 1 rfl ?_
      refine g_iload_n C dX12_book_31 rfl 2 rfl ?_
      refine g_iast (j := (a1.toInt.toNat)) C h7267.1 h7267.2.1 (ix_in h7267.2.2 (by omega)) dX12_book_32 ?_
      refine gqX (ks := [10]) (W := (fun Y9 => MX Y9 a0 (a1.toInt.toNat))) (Iy7247.setA e7266 h7267 (by decide) (arOk.of rfl (by omega))) (EM.setA Iy7247 e7266 rfl (by decide)) (W7250.set10 Iy7247 e7266 (by omega)) (fun Y7268 Iy7269 Xy7270 w7271 W7272 => ?_)
      have w7271 : (pI Y7268 b7265 (a1.toInt.toNat)).toInt = a2.toInt := w7271
      have q7273 := Xy7270.keepF 0 (by decide)
      have Xz7274 : EM [0, 10, 11, 12, 13, 14, 15, 17, 20, 21, 22, 23, 24, 25, 26] a0 P Y7268 := EM.tr ha0 Xz7251 (Xy7270.mono (by decide))
      have e7275 := Xy7270.ref h7252 (by decide) e7266
      have h7276 := Xy7270.at h7252
      have h7277 := Xy7270.ar h7267
      refine g_iconst (v := 0) C dX12_book_33 (by decide) ?_
      refine g_istore_n (lv' := [(3, .int 0), (0, .ref a0), (1, .int a1), (2, .int a2)]) C dX12_book_34 rfl (by decide) rfl ?_
      refine g_lv (lv' := [(0, .ref a0), (1, .int a1), (3, .int 0)]) [1, 2, 0] rfl ?_
      exact J35 _ Y7268 0 (Nat.lt_succ_self _) Iy7269 Xz7274 W7272 (by omega) (by decide) (by omega) (fun b9 e9 => by rw [e7275] at e9; cases e9; omega) (by show (0 ≤ a1.toInt ∧ a1.toInt ≤ 1 ∧ 1 ≤ a2.toInt ∧ a2.toInt ≤ 16); omega)
    · have h7264 : r7259.toInt = 0 := congrArg Int32.toInt h7264
      clear hi7262
      refine g_lv (lv' := []) [] rfl ?_
      exact J24 Y7246 Iy7247 Xz7251 W7250 (by omega) (by show a1.toInt < 0 ∨ 1 < a1.toInt ∨ a2.toInt < 1 ∨ 16 < a2.toInt; omega)
