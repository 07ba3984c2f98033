def KA (P P2 : PP) (a c : Nat) : Prop := ∃ I2 : Nat → Nat → Int32, P2 = pWI P I2 (pJ P) ∧ ∀ b, b ≠ a → b ≠ c → I2 b = pI P b
theorem KA.rf {P : PP} {a c : Nat} : KA P P a c := ⟨_, rfl, fun _ _ _ => rfl⟩
theorem KA.set {P P2 : PP} {a c b k : Nat} {v : Int32} (h : KA P P2 a c) (hb : b = a ∨ b = c) : KA P (pSI P2 b k v) a c := by
  obtain ⟨I2, rfl, h⟩ := h
  refine ⟨va_up I2 b (va_up (I2 b) k v), rfl, fun e h1 h2 => ?_⟩
  rw [up_ne (fun q => by rcases hb with z | z <;> subst z <;> first | exact h1 q | exact h2 q)]; exact h e h1 h2
set_option maxHeartbeats 4000000 in
set_option maxRecDepth 100000 in
theorem c_X3_clearA {P : PP} {a : Nat} (ha : a ∈ pL P) (haK : pK P a = 3) (oka : xOk P a) : CtrV yX3_clear cX3_clear 2 none ({ frames := 1, cells := 0, slots := 0, locals := 64 } : Room) 0 0 P [.ref a] (fun P2 => ∃ c, pR P a 0 = some c ∧ KA P P2 a c) := by
  refine enV (lv := [(0, .ref a)]) (by decide) (Nat.le_of_ble_eq_true rfl) rfl (fun E D cy C Ci0 ret => ?_)
  obtain ⟨ar, har⟩ := xFd.at oka haK 0 13 21 rfl
  refine g_iconst (v := 0) C dX3_clear_0 (by decide) ?_
  refine g_istore_n (lv' := [(1, .int 0), (0, .ref a)]) C dX3_clear_1 rfl (by decide) rfl ?_
  have lp806 : ∀ (n808 i801 : Nat), i801 + n808 = 21 → ∀ (I802 : Nat → Nat → Int32), (KA P (pWI P I802 (pJ P)) a ar) → G E ({ frames := 1, cells := 0, slots := 0, locals := 64 } : Room) D cy 2 (pWI P I802 (pJ P)) 0 0 2 [(1, .int (nI i801)), (0, .ref a)] [] := by
    intro n808
    induction n808 with
    | zero =>
      intro i801 hi803 I802 hv804
      have ei805 : (nI i801).toInt = (i801 : Int) := ti_nI (by omega)
      refine g_iload_n C dX3_clear_2 rfl 0 rfl ?_
      refine g_bipush (v := 20) C dX3_clear_3 (by decide) ?_
      refine b_icmp_gt C 21 dX3_clear_5 (by decide) (fun h809 => ?_) (fun h809 => ?_)
      · have h809 : 20 < (nI i801).toInt := h809
        refine g_aload_n C dX3_clear_21 rfl 1 rfl ?_
        refine g_iconst (v := 0) C dX3_clear_22 (by decide) ?_
        refine g_putI C fi_X3_21 rfl ha haK dX3_clear_23 ?_
        have k810 := KA.set (a := a) (c := ar) (b := a) (k := 2) (v := 0) hv804 (by first | exact Or.inl rfl | exact Or.inr rfl)
        refine g_aload_n C dX3_clear_26 rfl 1 rfl ?_
        refine g_iconst (v := 0) C dX3_clear_27 (by decide) ?_
        refine g_putI C fi_X3_25 rfl ha haK dX3_clear_28 ?_
        have k811 := KA.set (a := a) (c := ar) (b := a) (k := 3) (v := 0) k810 (by first | exact Or.inl rfl | exact Or.inr rfl)
        refine g_aload_n C dX3_clear_31 rfl 1 rfl ?_
        refine g_iconst (v := 0) C dX3_clear_32 (by decide) ?_
        refine g_putI C fi_X3_28 rfl ha haK dX3_clear_33 ?_
        have k812 := KA.set (a := a) (c := ar) (b := a) (k := 4) (v := 0) k811 (by first | exact Or.inl rfl | exact Or.inr rfl)
        refine g_aload_n C dX3_clear_36 rfl 1 rfl ?_
        refine g_iconst (v := 0) C dX3_clear_37 (by decide) ?_
        refine g_putI C fi_X3_31 rfl ha haK dX3_clear_38 ?_
        have k813 := KA.set (a := a) (c := ar) (b := a) (k := 5) (v := 0) k812 (by first | exact Or.inl rfl | exact Or.inr rfl)
        exact ret _ _ _ _ _ dX3_clear_41 (by decide) (by decide) (⟨ar, har.1, k813⟩)
      · have h809 : (nI i801).toInt ≤ 20 := h809
        omega
    | succ n808 ih807 =>
      intro i801 hi803 I802 hv804
      have ei805 : (nI i801).toInt = (i801 : Int) := ti_nI (by omega)
      refine g_iload_n C dX3_clear_2 rfl 0 rfl ?_
      refine g_bipush (v := 20) C dX3_clear_3 (by decide) ?_
      refine b_icmp_gt C 21 dX3_clear_5 (by decide) (fun h814 => ?_) (fun h814 => ?_)
      · have h814 : 20 < (nI i801).toInt := h814
        omega
      · have h814 : (nI i801).toInt ≤ 20 := h814
        refine g_aload_n C dX3_clear_8 rfl 1 rfl ?_
        refine g_getR C fi_X3_9 rfl (har.1) ha haK dX3_clear_9 ?_
        refine g_iload_n C dX3_clear_12 rfl 0 rfl ?_
        refine g_iconst (v := (-1)) C dX3_clear_13 (by decide) ?_
        refine g_iast (j := i801) C har.2.1 har.2.2.1 (IX.inn har.2.2.2 (by omega) (by decide)) dX3_clear_14 ?_
        have k815 := KA.set (a := a) (c := ar) (b := ar) (k := i801) (v := (-1)) hv804 (by first | exact Or.inl rfl | exact Or.inr rfl)
        refine g_iinc (v := (nI (i801 + 1))) (lv' := [(1, .int (nI (i801 + 1))), (0, .ref a)]) C dX3_clear_15 0 rfl (nI_1 _) (by decide) rfl ?_
        refine g_goto C 2 dX3_clear_18 (by decide) ?_
        exact ih807 (i801 + 1) (by omega) _ (k815)
  exact lp806 21 0 rfl _ (KA.rf)
theorem dX0_init_0 : decode cX0_init 0 = .ok (.aload_n 0, 1) := by decide +kernel
theorem dX0_init_1 : decode cX0_init 1 = .ok (.invokespecial 3, 3) := by decide +kernel
theorem dX0_init_4 : decode cX0_init 4 = .ok (.aload_n 0, 1) := by decide +kernel
theorem dX0_init_5 : decode cX0_init 5 = .ok (.bipush 20, 2) := by decide +kernel
theorem dX0_init_7 : decode cX0_init 7 = .ok (.newarray .int, 2) := by decide +kernel
theorem dX0_init_9 : decode cX0_init 9 = .ok (.putfield 9, 3) := by decide +kernel
theorem dX0_init_12 : decode cX0_init 12 = .ok (.aload_n 0, 1) := by decide +kernel
theorem dX0_init_13 : decode cX0_init 13 = .ok (.bipush 20, 2) := by decide +kernel
theorem dX0_init_15 : decode cX0_init 15 = .ok (.newarray .int, 2) := by decide +kernel
theorem dX0_init_17 : decode cX0_init 17 = .ok (.putfield 15, 3) := by decide +kernel
theorem dX0_init_20 : decode cX0_init 20 = .ok (.return_, 1) := by decide +kernel
set_option maxHeartbeats 4000000 in
set_option maxRecDepth 100000 in
theorem c_X0_init {P : PP} {a : Nat} {S : List Nat} (ha : a ∈ pL P) (haK : pK P a = 0) (hr : ∀ k, pR P a k = none) (hg : xAG (a :: S) P) (z : zG P)  : CtrV yX0_init cX0_init 1 none ({ frames := 2, cells := 2, slots := 40, locals := 128 } : Room) 2 40 P [.ref a] (fun P2 => xAG S P2 ∧ xExt [a] P P2 ∧ zG P2) := by
  have D0 := yDn.zero ha hg z hr
  refine enV (lv := [(0, .ref a)]) (by decide) (Nat.le_of_ble_eq_true rfl) rfl (fun E D cy C Ci0 ret => ?_)
  have Ci9 := Ci0 rfl
  refine g_aload_n C dX0_init_0 rfl 0 rfl ?_
  refine g_objInit C oi_X0_3 oi_inst oi_code (by decide) (by decide) (Nat.le_of_ble_eq_true rfl) dX0_init_1 ?_
  refine g_aload_n C dX0_init_4 rfl 0 rfl ?_
  refine g_bipush (v := 20) C dX0_init_5 (by decide) ?_
  refine g_newI (N := 20) C ac_int (by decide) rfl (by decide) (by decide) (by decide) dX0_init_7 (fun q816 h817 => ?_)
  refine g_putFR C fi_X0_9 Ci9 ⟨_, rfl, rfl⟩ rfl ((xExt.new (S := []) h817).1 _ D0.mem).1 (((xExt.new (S := []) h817).1 _ D0.mem).2.1.trans (D0.kind.trans haK)) dX0_init_9 ?_
  have D818 := D0.arr (k := 0) h817 (show shp (pK P a) 0 = some (13, 20) by rw [haK]; rfl) (by decide) (by decide)
  generalize pSR (pNw P q816 13 20) a 0 (some q816) = P819 at D818 ⊢
  refine g_aload_n C dX0_init_12 rfl 0 rfl ?_
  refine g_bipush (v := 20) C dX0_init_13 (by decide) ?_
  refine g_newI (N := 20) C ac_int (by decide) rfl (by decide) (by decide) (by decide) dX0_init_15 (fun q820 h821 => ?_)
  refine g_putFR C fi_X0_15 Ci9 ⟨_, rfl, rfl⟩ rfl ((xExt.new (S := []) h821).1 _ D818.mem).1 (((xExt.new (S := []) h821).1 _ D818.mem).2.1.trans (D818.kind.trans haK)) dX0_init_17 ?_
  have D822 := D818.arr (k := 1) h821 (show shp (pK P a) 1 = some (13, 20) by rw [haK]; rfl) (by decide) (by decide)
  generalize pSR (pNw P819 q820 13 20) a 1 (some q820) = P823 at D822 ⊢
  exact ret _ _ _ _ _ dX0_init_20 (by decide) (by decide) (D822.done haK (by decide) (kin (by decide +kernel)))
theorem dX5_init_0 : decode cX5_init 0 = .ok (.aload_n 0, 1) := by decide +kernel
theorem dX5_init_1 : decode cX5_init 1 = .ok (.invokespecial 3, 3) := by decide +kernel
theorem dX5_init_4 : decode cX5_init 4 = .ok (.aload_n 0, 1) := by decide +kernel
theorem dX5_init_5 : decode cX5_init 5 = .ok (.bipush 44, 2) := by decide +kernel
theorem dX5_init_7 : decode cX5_init 7 = .ok (.newarray .int, 2) := by decide +kernel
theorem dX5_init_9 : decode cX5_init 9 = .ok (.putfield 9, 3) := by decide +kernel
theorem dX5_init_12 : decode cX5_init 12 = .ok (.aload_n 0, 1) := by decide +kernel
theorem dX5_init_13 : decode cX5_init 13 = .ok (.bipush 44, 2) := by decide +kernel
theorem dX5_init_15 : decode cX5_init 15 = .ok (.newarray .int, 2) := by decide +kernel
theorem dX5_init_17 : decode cX5_init 17 = .ok (.putfield 15, 3) := by decide +kernel
theorem dX5_init_20 : decode cX5_init 20 = .ok (.aload_n 0, 1) := by decide +kernel
theorem dX5_init_21 : decode cX5_init 21 = .ok (.bipush 20, 2) := by decide +kernel
theorem dX5_init_23 : decode cX5_init 23 = .ok (.newarray .int, 2) := by decide +kernel
theorem dX5_init_25 : decode cX5_init 25 = .ok (.putfield 18, 3) := by decide +kernel
theorem dX5_init_28 : decode cX5_init 28 = .ok (.aload_n 0, 1) := by decide +kernel
theorem dX5_init_29 : decode cX5_init 29 = .ok (.bipush 16, 2) := by decide +kernel
theorem dX5_init_31 : decode cX5_init 31 = .ok (.newarray .long, 2) := by decide +kernel
theorem dX5_init_33 : decode cX5_init 33 = .ok (.putfield 21, 3) := by decide +kernel
theorem dX5_init_36 : decode cX5_init 36 = .ok (.return_, 1) := by decide +kernel
set_option maxHeartbeats 4000000 in
set_option maxRecDepth 100000 in
theorem c_X5_init {P : PP} {a : Nat} {S : List Nat} (ha : a ∈ pL P) (haK : pK P a = 5) (hr : ∀ k, pR P a k = none) (hg : xAG (a :: S) P) (z : zG P)  : CtrV yX5_init cX5_init 1 none ({ frames := 2, cells := 4, slots := 124, locals := 128 } : Room) 4 124 P [.ref a] (fun P2 => xAG S P2 ∧ xExt [a] P P2 ∧ zG P2) := by
  have D0 := yDn.zero ha hg z hr
  refine enV (lv := [(0, .ref a)]) (by decide) (Nat.le_of_ble_eq_true rfl) rfl (fun E D cy C Ci0 ret => ?_)
  have Ci9 := Ci0 rfl
  refine g_aload_n C dX5_init_0 rfl 0 rfl ?_
  refine g_objInit C oi_X5_3 oi_inst oi_code (by decide) (by decide) (Nat.le_of_ble_eq_true rfl) dX5_init_1 ?_
  refine g_aload_n C dX5_init_4 rfl 0 rfl ?_
  refine g_bipush (v := 44) C dX5_init_5 (by decide) ?_
  refine g_newI (N := 44) C ac_int (by decide) rfl (by decide) (by decide) (by decide) dX5_init_7 (fun q824 h825 => ?_)
  refine g_putFR C fi_X5_9 Ci9 ⟨_, rfl, rfl⟩ rfl ((xExt.new (S := []) h825).1 _ D0.mem).1 (((xExt.new (S := []) h825).1 _ D0.mem).2.1.trans (D0.kind.trans haK)) dX5_init_9 ?_
  have D826 := D0.arr (k := 0) h825 (show shp (pK P a) 0 = some (13, 44) by rw [haK]; rfl) (by decide) (by decide)
  generalize pSR (pNw P q824 13 44) a 0 (some q824) = P827 at D826 ⊢
  refine g_aload_n C dX5_init_12 rfl 0 rfl ?_
  refine g_bipush (v := 44) C dX5_init_13 (by decide) ?_
  refine g_newI (N := 44) C ac_int (by decide) rfl (by decide) (by decide) (by decide) dX5_init_15 (fun q828 h829 => ?_)
  refine g_putFR C fi_X5_15 Ci9 ⟨_, rfl, rfl⟩ rfl ((xExt.new (S := []) h829).1 _ D826.mem).1 (((xExt.new (S := []) h829).1 _ D826.mem).2.1.trans (D826.kind.trans haK)) dX5_init_17 ?_
  have D830 := D826.arr (k := 1) h829 (show shp (pK P a) 1 = some (13, 44) by rw [haK]; rfl) (by decide) (by decide)
  generalize pSR (pNw P827 q828 13 44) a 1 (some q828) = P831 at D830 ⊢
  refine g_aload_n C dX5_init_20 rfl 0 rfl ?_
  refine g_bipush (v := 20) C dX5_init_21 (by decide) ?_
  refine g_newI (N := 20) C ac_int (by decide) rfl (by decide) (by decide) (by decide) dX5_init_23 (fun q832 h833 => ?_)
  refine g_putFR C fi_X5_18 Ci9 ⟨_, rfl, rfl⟩ rfl ((xExt.new (S := []) h833).1 _ D830.mem).1 (((xExt.new (S := []) h833).1 _ D830.mem).2.1.trans (D830.kind.trans haK)) dX5_init_25 ?_
  have D834 := D830.arr (k := 2) h833 (show shp (pK P a) 2 = some (13, 20) by rw [haK]; rfl) (by decide) (by decide)
  generalize pSR (pNw P831 q832 13 20) a 2 (some q832) = P835 at D834 ⊢
  refine g_aload_n C dX5_init_28 rfl 0 rfl ?_
  refine g_bipush (v := 16) C dX5_init_29 (by decide) ?_
  refine g_newJ (N := 16) C ac_long (by decide) rfl (by decide) (by decide) (by decide) dX5_init_31 (fun q836 h837 => ?_)
  refine g_putFR C fi_X5_21 Ci9 ⟨_, rfl, rfl⟩ rfl ((xExt.new (S := []) h837).1 _ D834.mem).1 (((xExt.new (S := []) h837).1 _ D834.mem).2.1.trans (D834.kind.trans haK)) dX5_init_33 ?_
  have D838 := D834.arr (k := 3) h837 (show shp (pK P a) 3 = some (14, 16) by rw [haK]; rfl) (by decide) (by decide)
  generalize pSR (pNw P835 q836 14 16) a 3 (some q836) = P839 at D838 ⊢
  exact ret _ _ _ _ _ dX5_init_36 (by decide) (by decide) (D838.done haK (by decide) (kin (by decide +kernel)))
theorem dX6_init_0 : decode cX6_init 0 = .ok (.aload_n 0, 1) := by decide +kernel
theorem dX6_init_1 : decode cX6_init 1 = .ok (.invokespecial 3, 3) := by decide +kernel
theorem dX6_init_4 : decode cX6_init 4 = .ok (.aload_n 0, 1) := by decide +kernel
theorem dX6_init_5 : decode cX6_init 5 = .ok (.bipush 40, 2) := by decide +kernel
theorem dX6_init_7 : decode cX6_init 7 = .ok (.anewarray 9, 3) := by decide +kernel
theorem dX6_init_10 : decode cX6_init 10 = .ok (.putfield 11, 3) := by decide +kernel
theorem dX6_init_13 : decode cX6_init 13 = .ok (.return_, 1) := by decide +kernel
set_option maxHeartbeats 4000000 in
set_option maxRecDepth 100000 in
theorem c_X6_init {P : PP} {a : Nat} {S : List Nat} (ha : a ∈ pL P) (haK : pK P a = 6) (hr : ∀ k, pR P a k = none) (hg : xAG (a :: S) P) (z : zG P)  : CtrV yX6_init cX6_init 1 none ({ frames := 2, cells := 1, slots := 40, locals := 128 } : Room) 1 40 P [.ref a] (fun P2 => xAG S P2 ∧ xExt [a] P P2 ∧ zG P2) := by
  have D0 := yDn.zero ha hg z hr
  refine enV (lv := [(0, .ref a)]) (by decide) (Nat.le_of_ble_eq_true rfl) rfl (fun E D cy C Ci0 ret => ?_)
  have Ci9 := Ci0 rfl
  refine g_aload_n C dX6_init_0 rfl 0 rfl ?_
  refine g_objInit C oi_X6_3 oi_inst oi_code (by decide) (by decide) (Nat.le_of_ble_eq_true rfl) dX6_init_1 ?_
  refine g_aload_n C dX6_init_4 rfl 0 rfl ?_
  refine g_bipush (v := 40) C dX6_init_5 (by decide) ?_
  refine g_newQ (kd := 20) (N := 40) C (by decide) cl_X6_9 ao_X7 (by decide) rfl (by decide) (by decide) (by decide) dX6_init_7 (fun q840 h841 => ?_)
  refine g_putFR C fi_X6_11 Ci9 ⟨_, rfl, rfl⟩ rfl ((xExt.new (S := []) h841).1 _ D0.mem).1 (((xExt.new (S := []) h841).1 _ D0.mem).2.1.trans (D0.kind.trans haK)) dX6_init_10 ?_
  have D842 := D0.arr (k := 0) h841 (show shp (pK P a) 0 = some (20, 40) by rw [haK]; rfl) (by decide) (by decide)
  generalize pSR (pNw P q840 20 40) a 0 (some q840) = P843 at D842 ⊢
  exact ret _ _ _ _ _ dX6_init_13 (by decide) (by decide) (D842.done haK (by decide) (kin (by decide +kernel)))
theorem dX9_init_0 : decode cX9_init 0 = .ok (.aload_n 0, 1) := by decide +kernel
theorem dX9_init_1 : decode cX9_init 1 = .ok (.invokespecial 3, 3) := by decide +kernel
theorem dX9_init_4 : decode cX9_init 4 = .ok (.aload_n 0, 1) := by decide +kernel
theorem dX9_init_5 : decode cX9_init 5 = .ok (.sipush 1000, 3) := by decide +kernel
theorem dX9_init_8 : decode cX9_init 8 = .ok (.newarray .int, 2) := by decide +kernel
theorem dX9_init_10 : decode cX9_init 10 = .ok (.putfield 9, 3) := by decide +kernel
theorem dX9_init_13 : decode cX9_init 13 = .ok (.return_, 1) := by decide +kernel
set_option maxHeartbeats 4000000 in
set_option maxRecDepth 100000 in
theorem c_X9_init {P : PP} {a : Nat} {S : List Nat} (ha : a ∈ pL P) (haK : pK P a = 9) (hr : ∀ k, pR P a k = none) (hg : xAG (a :: S) P) (z : zG P)  : CtrV yX9_init cX9_init 1 none ({ frames := 2, cells := 1, slots := 1000, locals := 128 } : Room) 1 1000 P [.ref a] (fun P2 => xAG S P2 ∧ xExt [a] P P2 ∧ zG P2) := by
  have D0 := yDn.zero ha hg z hr
  refine enV (lv := [(0, .ref a)]) (by decide) (Nat.le_of_ble_eq_true rfl) rfl (fun E D cy C Ci0 ret => ?_)
  have Ci9 := Ci0 rfl
  refine g_aload_n C dX9_init_0 rfl 0 rfl ?_
  refine g_objInit C oi_X9_3 oi_inst oi_code (by decide) (by decide) (Nat.le_of_ble_eq_true rfl) dX9_init_1 ?_
  refine g_aload_n C dX9_init_4 rfl 0 rfl ?_
  refine g_sipush (v := 1000) C dX9_init_5 (by decide) ?_
  refine g_newI (N := 1000) C ac_int (by decide) rfl (by decide) (by decide) (by decide) dX9_init_8 (fun q844 h845 => ?_)
  refine g_putFR C fi_X9_9 Ci9 ⟨_, rfl, rfl⟩ rfl ((xExt.new (S := []) h845).1 _ D0.mem).1 (((xExt.new (S := []) h845).1 _ D0.mem).2.1.trans (D0.kind.trans haK)) dX9_init_10 ?_
  have D846 := D0.arr (k := 0) h845 (show shp (pK P a) 0 = some (13, 1000) by rw [haK]; rfl) (by decide) (by decide)
  generalize pSR (pNw P q844 13 1000) a 0 (some q844) = P847 at D846 ⊢
  exact ret _ _ _ _ _ dX9_init_13 (by decide) (by decide) (D846.done haK (by decide) (kin (by decide +kernel)))
theorem cl_done {S : List Nat} {P0 P P2 : PP} {a : Nat} (h : xAG S P ∧ xExt [a] P0 P ∧ zG P) (hm : a ∈ pL P) (hK : pK P a = 3) (hf : ∀ b, pR P a 0 = some b → b ∉ pL P0 ∧ b ∈ pL P ∧ pK P b = 13) (k : ∃ c, pR P a 0 = some c ∧ KA P P2 a c) : xAG S P2 ∧ xExt [a] P0 P2 ∧ zG P2 := by
  obtain ⟨c, hc, I2, rfl, k⟩ := k
  obtain ⟨h1, h2, h3⟩ := h
  obtain ⟨f1, f2, f3⟩ := hf c hc
  refine ⟨h1, ⟨h2.1, fun b hb hs => ?_⟩, fun b hb => ?_⟩
  · obtain ⟨g1, g2, g3⟩ := h2.2 b hb hs
    refine ⟨?_, g2, g3⟩
    rw [← g1]
    exact k b (fun e => hs (e ▸ List.mem_cons_self)) (fun e => f1 (e ▸ hb))
  · have e : (pK P b = 1 ∨ pK P b = 6 ∨ pK P b = 9) → I2 b = pI P b := fun q => k b (fun e => by rw [e, hK] at q; omega) (fun e => by rw [e, f3] at q; omega)
    exact ⟨fun q => by show I2 b 4 = 0; rw [e (Or.inl q)]; exact (h3 b hb).1 q, fun q => by show I2 b 1 = 0; rw [e (Or.inr (Or.inl q))]; exact (h3 b hb).2.1 q, fun q => by show I2 b 1 = 0; rw [e (Or.inr (Or.inr q))]; exact (h3 b hb).2.2 q⟩
theorem dX3_init_0 : decode cX3_init 0 = .ok (.aload_n 0, 1) := by decide +kernel
theorem dX3_init_1 : decode cX3_init 1 = .ok (.invokespecial 3, 3) := by decide +kernel
theorem dX3_init_4 : decode cX3_init 4 = .ok (.aload_n 0, 1) := by decide +kernel
theorem dX3_init_5 : decode cX3_init 5 = .ok (.bipush 21, 2) := by decide +kernel
theorem dX3_init_7 : decode cX3_init 7 = .ok (.newarray .int, 2) := by decide +kernel
theorem dX3_init_9 : decode cX3_init 9 = .ok (.putfield 9, 3) := by decide +kernel
theorem dX3_init_12 : decode cX3_init 12 = .ok (.aload_n 0, 1) := by decide +kernel
theorem dX3_init_13 : decode cX3_init 13 = .ok (.iconst 4, 1) := by decide +kernel
theorem dX3_init_14 : decode cX3_init 14 = .ok (.newarray .int, 2) := by decide +kernel
theorem dX3_init_16 : decode cX3_init 16 = .ok (.putfield 15, 3) := by decide +kernel
theorem dX3_init_19 : decode cX3_init 19 = .ok (.aload_n 0, 1) := by decide +kernel
theorem dX3_init_20 : decode cX3_init 20 = .ok (.invokevirtual 18, 3) := by decide +kernel
theorem dX3_init_23 : decode cX3_init 23 = .ok (.return_, 1) := by decide +kernel
set_option maxHeartbeats 4000000 in
set_option maxRecDepth 100000 in
theorem c_X3_init {P : PP} {a : Nat} {S : List Nat} (ha : a ∈ pL P) (haK : pK P a = 3) (hr : ∀ k, pR P a k = none) (hg : xAG (a :: S) P) (z : zG P)  : CtrV yX3_init cX3_init 1 none ({ frames := 2, cells := 2, slots := 25, locals := 128 } : Room) 2 25 P [.ref a] (fun P2 => xAG S P2 ∧ xExt [a] P P2 ∧ zG P2) := by
  have D0 := yDn.zero ha hg z hr
  refine enV (lv := [(0, .ref a)]) (by decide) (Nat.le_of_ble_eq_true rfl) rfl (fun E D cy C Ci0 ret => ?_)
  have Ci9 := Ci0 rfl
  refine g_aload_n C dX3_init_0 rfl 0 rfl ?_
  refine g_objInit C oi_X3_3 oi_inst oi_code (by decide) (by decide) (Nat.le_of_ble_eq_true rfl) dX3_init_1 ?_
  refine g_aload_n C dX3_init_4 rfl 0 rfl ?_
  refine g_bipush (v := 21) C dX3_init_5 (by decide) ?_
  refine g_newI (N := 21) C ac_int (by decide) rfl (by decide) (by decide) (by decide) dX3_init_7 (fun q848 h849 => ?_)
  refine g_putFR C fi_X3_9 Ci9 ⟨_, rfl, rfl⟩ rfl ((xExt.new (S := []) h849).1 _ D0.mem).1 (((xExt.new (S := []) h849).1 _ D0.mem).2.1.trans (D0.kind.trans haK)) dX3_init_9 ?_
  have D850 := D0.arr (k := 0) h849 (show shp (pK P a) 0 = some (13, 21) by rw [haK]; rfl) (by decide) (by decide)
  generalize pSR (pNw P q848 13 21) a 0 (some q848) = P851 at D850 ⊢
  refine g_aload_n C dX3_init_12 rfl 0 rfl ?_
  refine g_iconst (v := 4) C dX3_init_13 (by decide) ?_
  refine g_newI (N := 4) C ac_int (by decide) rfl (by decide) (by decide) (by decide) dX3_init_14 (fun q852 h853 => ?_)
  refine g_putFR C fi_X3_15 Ci9 ⟨_, rfl, rfl⟩ rfl ((xExt.new (S := []) h853).1 _ D850.mem).1 (((xExt.new (S := []) h853).1 _ D850.mem).2.1.trans (D850.kind.trans haK)) dX3_init_16 ?_
  have D854 := D850.arr (k := 1) h853 (show shp (pK P a) 1 = some (13, 4) by rw [haK]; rfl) (by decide) (by decide)
  generalize pSR (pNw P851 q852 13 4) a 1 (some q852) = P855 at D854 ⊢
  refine g_aload_n C dX3_init_19 rfl 0 rfl ?_
  refine g_callVV (rest := []) C mv_X3_18 [] (c_X3_clearA D854.mem (D854.kind.trans haK) (D854.ok haK (by decide) (kin (by decide +kernel)))) D854.mem (D854.kind.trans haK) rfl rfl (by decide) (Nat.le_of_ble_eq_true rfl) (by decide) dX3_init_20 (fun Q857 h858 => ?_)
  exact ret _ _ _ _ _ dX3_init_23 (by decide) (by decide) (cl_done (D854.done haK (by decide) (kin (by decide +kernel))) D854.mem (D854.kind.trans haK) (fun b hb => ⟨(D854.2.2.1 _ _ hb).2.1, (D854.2.2.1 _ _ hb).2.2.1, by obtain ⟨c, e1, -, e3, -⟩ := xFd.at (D854.ok haK (by decide) (kin (by decide +kernel))) (D854.kind.trans haK) 0 13 21 rfl; rw [hb] at e1; cases e1; exact e3⟩) h858)
theorem dX4_init_0 : decode cX4_init 0 = .ok (.aload_n 0, 1) := by decide +kernel
theorem dX4_init_1 : decode cX4_init 1 = .ok (.invokespecial 3, 3) := by decide +kernel
theorem dX4_init_4 : decode cX4_init 4 = .ok (.aload_n 0, 1) := by decide +kernel
theorem dX4_init_5 : decode cX4_init 5 = .ok (.new 9, 3) := by decide +kernel
theorem dX4_init_8 : decode cX4_init 8 = .ok (.dup, 1) := by decide +kernel
theorem dX4_init_9 : decode cX4_init 9 = .ok (.invokespecial 11, 3) := by decide +kernel
theorem dX4_init_12 : decode cX4_init 12 = .ok (.putfield 12, 3) := by decide +kernel
theorem dX4_init_15 : decode cX4_init 15 = .ok (.aload_n 0, 1) := by decide +kernel
theorem dX4_init_16 : decode cX4_init 16 = .ok (.new 18, 3) := by decide +kernel
theorem dX4_init_19 : decode cX4_init 19 = .ok (.dup, 1) := by decide +kernel
theorem dX4_init_20 : decode cX4_init 20 = .ok (.invokespecial 20, 3) := by decide +kernel
theorem dX4_init_23 : decode cX4_init 23 = .ok (.putfield 21, 3) := by decide +kernel
theorem dX4_init_26 : decode cX4_init 26 = .ok (.return_, 1) := by decide +kernel
set_option maxHeartbeats 4000000 in
set_option maxRecDepth 100000 in
theorem c_X4_init {P : PP} {a : Nat} {S : List Nat} (ha : a ∈ pL P) (haK : pK P a = 4) (hr : ∀ k, pR P a k = none) (hg : xAG (a :: S) P) (z : zG P)  : CtrV yX4_init cX4_init 1 none ({ frames := 3, cells := 5, slots := 1037, locals := 192 } : Room) 5 1037 P [.ref a] (fun P2 => xAG S P2 ∧ xExt [a] P P2 ∧ zG P2) := by
  have D0 := yDn.zero ha hg z hr
  refine enV (lv := [(0, .ref a)]) (by decide) (Nat.le_of_ble_eq_true rfl) rfl (fun E D cy C Ci0 ret => ?_)
  have Ci9 := Ci0 rfl
  refine g_aload_n C dX4_init_0 rfl 0 rfl ?_
  refine g_objInit C oi_X4_3 oi_inst oi_code (by decide) (by decide) (Nat.le_of_ble_eq_true rfl) dX4_init_1 ?_
  refine g_aload_n C dX4_init_4 rfl 0 rfl ?_
  refine g_new C ni_X4_9 (by decide) (by decide) dX4_init_5 (fun q859 h860 => ?_)
  refine g_dup C dX4_init_8 rfl ?_
  refine g_callNV (ci := 0) (ret := none) (rest := [.ref q859, .ref a]) C mn_X4_11 [] (c_X9_init (S := a :: S) in_new K_new (fun _ => by rw [R_new]) (D0.1.2.1.new h860) (D0.2.1.new h860)) rfl rfl (by decide) (Nat.le_of_ble_eq_true rfl) (by decide) dX4_init_9 (fun Q862 h863 => ?_)
  refine g_putFR C fi_X4_12 Ci9 ⟨_, rfl, rfl⟩ rfl (((xExt.new (S := [q859]) h860).tr h863.2.1).1 _ D0.mem).1 ((((xExt.new (S := [q859]) h860).tr h863.2.1).1 _ D0.mem).2.1.trans (D0.kind.trans haK)) dX4_init_12 ?_
  have D864 := D0.obj (k := 0) h860 (by decide) h863 (show shp (pK P a) 0 = some (9, 0) by rw [haK]; rfl)
  generalize pSR Q862 a 0 (some q859) = P865 at D864 ⊢
  refine g_aload_n C dX4_init_15 rfl 0 rfl ?_
  refine g_new C ni_X4_18 (by decide) (by decide) dX4_init_16 (fun q866 h867 => ?_)
  refine g_dup C dX4_init_19 rfl ?_
  refine g_callCV (ci := 0) (ret := none) (rest := [.ref q866, .ref a]) C mi_X4_20 [] (c_X3_init (S := a :: S) in_new K_new (fun _ => by rw [R_new]) (D864.1.2.1.new h867) (D864.2.1.new h867)) rfl rfl (by decide) (Nat.le_of_ble_eq_true rfl) (by decide) dX4_init_20 (fun Q869 h870 => ?_)
  refine g_putFR C fi_X4_21 Ci9 ⟨_, rfl, rfl⟩ rfl (((xExt.new (S := [q866]) h867).tr h870.2.1).1 _ D864.mem).1 ((((xExt.new (S := [q866]) h867).tr h870.2.1).1 _ D864.mem).2.1.trans (D864.kind.trans haK)) dX4_init_23 ?_
  have D871 := D864.obj (k := 1) h867 (by decide) h870 (show shp (pK P a) 1 = some (3, 0) by rw [haK]; rfl)
  generalize pSR Q869 a 1 (some q866) = P872 at D871 ⊢
  exact ret _ _ _ _ _ dX4_init_26 (by decide) (by decide) (D871.done haK (by decide) (kin (by decide +kernel)))
theorem dX8_init_0 : decode cX8_init 0 = .ok (.aload_n 0, 1) := by decide +kernel
theorem dX8_init_1 : decode cX8_init 1 = .ok (.invokespecial 3, 3) := by decide +kernel
theorem dX8_init_4 : decode cX8_init 4 = .ok (.aload_n 0, 1) := by decide +kernel
theorem dX8_init_5 : decode cX8_init 5 = .ok (.bipush 12, 2) := by decide +kernel
theorem dX8_init_7 : decode cX8_init 7 = .ok (.newarray .int, 2) := by decide +kernel
theorem dX8_init_9 : decode cX8_init 9 = .ok (.putfield 9, 3) := by decide +kernel
theorem dX8_init_12 : decode cX8_init 12 = .ok (.aload_n 0, 1) := by decide +kernel
theorem dX8_init_13 : decode cX8_init 13 = .ok (.bipush 11, 2) := by decide +kernel
theorem dX8_init_15 : decode cX8_init 15 = .ok (.newarray .int, 2) := by decide +kernel
theorem dX8_init_17 : decode cX8_init 17 = .ok (.putfield 15, 3) := by decide +kernel
theorem dX8_init_20 : decode cX8_init 20 = .ok (.aload_n 0, 1) := by decide +kernel
theorem dX8_init_21 : decode cX8_init 21 = .ok (.new 18, 3) := by decide +kernel
theorem dX8_init_24 : decode cX8_init 24 = .ok (.dup, 1) := by decide +kernel
theorem dX8_init_25 : decode cX8_init 25 = .ok (.invokespecial 20, 3) := by decide +kernel
theorem dX8_init_28 : decode cX8_init 28 = .ok (.putfield 21, 3) := by decide +kernel
theorem dX8_init_31 : decode cX8_init 31 = .ok (.aload_n 0, 1) := by decide +kernel
theorem dX8_init_32 : decode cX8_init 32 = .ok (.new 25, 3) := by decide +kernel
theorem dX8_init_35 : decode cX8_init 35 = .ok (.dup, 1) := by decide +kernel
theorem dX8_init_36 : decode cX8_init 36 = .ok (.invokespecial 27, 3) := by decide +kernel
theorem dX8_init_39 : decode cX8_init 39 = .ok (.putfield 28, 3) := by decide +kernel
theorem dX8_init_42 : decode cX8_init 42 = .ok (.return_, 1) := by decide +kernel
set_option maxHeartbeats 4000000 in
set_option maxRecDepth 100000 in
theorem c_X8_init {P : PP} {a : Nat} {S : List Nat} (ha : a ∈ pL P) (haK : pK P a = 8) (hr : ∀ k, pR P a k = none) (hg : xAG (a :: S) P) (z : zG P)  : CtrV yX8_init cX8_init 1 none ({ frames := 3, cells := 10, slots := 197, locals := 192 } : Room) 10 197 P [.ref a] (fun P2 => xAG S P2 ∧ xExt [a] P P2 ∧ zG P2) := by
  have D0 := yDn.zero ha hg z hr
  refine enV (lv := [(0, .ref a)]) (by decide) (Nat.le_of_ble_eq_true rfl) rfl (fun E D cy C Ci0 ret => ?_)
  have Ci9 := Ci0 rfl
  refine g_aload_n C dX8_init_0 rfl 0 rfl ?_
  refine g_objInit C oi_X8_3 oi_inst oi_code (by decide) (by decide) (Nat.le_of_ble_eq_true rfl) dX8_init_1 ?_
  refine g_aload_n C dX8_init_4 rfl 0 rfl ?_
  refine g_bipush (v := 12) C dX8_init_5 (by decide) ?_
  refine g_newI (N := 12) C ac_int (by decide) rfl (by decide) (by decide) (by decide) dX8_init_7 (fun q873 h874 => ?_)
  refine g_putFR C fi_X8_9 Ci9 ⟨_, rfl, rfl⟩ rfl ((xExt.new (S := []) h874).1 _ D0.mem).1 (((xExt.new (S := []) h874).1 _ D0.mem).2.1.trans (D0.kind.trans haK)) dX8_init_9 ?_
  have D875 := D0.arr (k := 0) h874 (show shp (pK P a) 0 = some (13, 12) by rw [haK]; rfl) (by decide) (by decide)
  generalize pSR (pNw P q873 13 12) a 0 (some q873) = P876 at D875 ⊢
  refine g_aload_n C dX8_init_12 rfl 0 rfl ?_
  refine g_bipush (v := 11) C dX8_init_13 (by decide) ?_
  refine g_newI (N := 11) C ac_int (by decide) rfl (by decide) (by decide) (by decide) dX8_init_15 (fun q877 h878 => ?_)
  refine g_putFR C fi_X8_15 Ci9 ⟨_, rfl, rfl⟩ rfl ((xExt.new (S := []) h878).1 _ D875.mem).1 (((xExt.new (S := []) h878).1 _ D875.mem).2.1.trans (D875.kind.trans haK)) dX8_init_17 ?_
  have D879 := D875.arr (k := 1) h878 (show shp (pK P a) 1 = some (13, 11) by rw [haK]; rfl) (by decide) (by decide)
  generalize pSR (pNw P876 q877 13 11) a 1 (some q877) = P880 at D879 ⊢
  refine g_aload_n C dX8_init_20 rfl 0 rfl ?_
  refine g_new C ni_X8_18 (by decide) (by decide) dX8_init_21 (fun q881 h882 => ?_)
  refine g_dup C dX8_init_24 rfl ?_
  refine g_callNV (ci := 0) (ret := none) (rest := [.ref q881, .ref a]) C mn_X8_20 [] (c_X5_init (S := a :: S) in_new K_new (fun _ => by rw [R_new]) (D879.1.2.1.new h882) (D879.2.1.new h882)) rfl rfl (by decide) (Nat.le_of_ble_eq_true rfl) (by decide) dX8_init_25 (fun Q884 h885 => ?_)
  refine g_putFR C fi_X8_21 Ci9 ⟨_, rfl, rfl⟩ rfl (((xExt.new (S := [q881]) h882).tr h885.2.1).1 _ D879.mem).1 ((((xExt.new (S := [q881]) h882).tr h885.2.1).1 _ D879.mem).2.1.trans (D879.kind.trans haK)) dX8_init_28 ?_
  have D886 := D879.obj (k := 2) h882 (by decide) h885 (show shp (pK P a) 2 = some (5, 0) by rw [haK]; rfl)
  generalize pSR Q884 a 2 (some q881) = P887 at D886 ⊢
  refine g_aload_n C dX8_init_31 rfl 0 rfl ?_
  refine g_new C ni_X8_25 (by decide) (by decide) dX8_init_32 (fun q888 h889 => ?_)
  refine g_dup C dX8_init_35 rfl ?_
  refine g_callNV (ci := 0) (ret := none) (rest := [.ref q888, .ref a]) C mn_X8_27 [] (c_X0_init (S := a :: S) in_new K_new (fun _ => by rw [R_new]) (D886.1.2.1.new h889) (D886.2.1.new h889)) rfl rfl (by decide) (Nat.le_of_ble_eq_true rfl) (by decide) dX8_init_36 (fun Q891 h892 => ?_)
  refine g_putFR C fi_X8_28 Ci9 ⟨_, rfl, rfl⟩ rfl (((xExt.new (S := [q888]) h889).tr h892.2.1).1 _ D886.mem).1 ((((xExt.new (S := [q888]) h889).tr h892.2.1).1 _ D886.mem).2.1.trans (D886.kind.trans haK)) dX8_init_39 ?_
  have D893 := D886.obj (k := 3) h889 (by decide) h892 (show shp (pK P a) 3 = some (0, 0) by rw [haK]; rfl)
  generalize pSR Q891 a 3 (some q888) = P894 at D893 ⊢
  exact ret _ _ _ _ _ dX8_init_42 (by decide) (by decide) (D893.done haK (by decide) (kin (by decide +kernel)))
theorem dX2_init_0 : decode cX2_init 0 = .ok (.aload_n 0, 1) := by decide +kernel
theorem dX2_init_1 : decode cX2_init 1 = .ok (.invokespecial 3, 3) := by decide +kernel
theorem dX2_init_4 : decode cX2_init 4 = .ok (.aload_n 0, 1) := by decide +kernel
theorem dX2_init_5 : decode cX2_init 5 = .ok (.bipush 11, 2) := by decide +kernel
theorem dX2_init_7 : decode cX2_init 7 = .ok (.newarray .int, 2) := by decide +kernel
theorem dX2_init_9 : decode cX2_init 9 = .ok (.putfield 9, 3) := by decide +kernel
theorem dX2_init_12 : decode cX2_init 12 = .ok (.aload_n 0, 1) := by decide +kernel
theorem dX2_init_13 : decode cX2_init 13 = .ok (.bipush 11, 2) := by decide +kernel
theorem dX2_init_15 : decode cX2_init 15 = .ok (.newarray .int, 2) := by decide +kernel
theorem dX2_init_17 : decode cX2_init 17 = .ok (.putfield 15, 3) := by decide +kernel
theorem dX2_init_20 : decode cX2_init 20 = .ok (.aload_n 0, 1) := by decide +kernel
theorem dX2_init_21 : decode cX2_init 21 = .ok (.new 18, 3) := by decide +kernel
theorem dX2_init_24 : decode cX2_init 24 = .ok (.dup, 1) := by decide +kernel
theorem dX2_init_25 : decode cX2_init 25 = .ok (.invokespecial 20, 3) := by decide +kernel
theorem dX2_init_28 : decode cX2_init 28 = .ok (.putfield 21, 3) := by decide +kernel
theorem dX2_init_31 : decode cX2_init 31 = .ok (.aload_n 0, 1) := by decide +kernel
theorem dX2_init_32 : decode cX2_init 32 = .ok (.new 18, 3) := by decide +kernel
theorem dX2_init_35 : decode cX2_init 35 = .ok (.dup, 1) := by decide +kernel
theorem dX2_init_36 : decode cX2_init 36 = .ok (.invokespecial 20, 3) := by decide +kernel
theorem dX2_init_39 : decode cX2_init 39 = .ok (.putfield 25, 3) := by decide +kernel
theorem dX2_init_42 : decode cX2_init 42 = .ok (.return_, 1) := by decide +kernel
set_option maxHeartbeats 4000000 in
set_option maxRecDepth 100000 in
theorem c_X2_init {P : PP} {a : Nat} {S : List Nat} (ha : a ∈ pL P) (haK : pK P a = 2) (hr : ∀ k, pR P a k = none) (hg : xAG (a :: S) P) (z : zG P)  : CtrV yX2_init cX2_init 1 none ({ frames := 3, cells := 8, slots := 110, locals := 192 } : Room) 8 110 P [.ref a] (fun P2 => xAG S P2 ∧ xExt [a] P P2 ∧ zG P2) := by
  have D0 := yDn.zero ha hg z hr
  refine enV (lv := [(0, .ref a)]) (by decide) (Nat.le_of_ble_eq_true rfl) rfl (fun E D cy C Ci0 ret => ?_)
  have Ci9 := Ci0 rfl
  refine g_aload_n C dX2_init_0 rfl 0 rfl ?_
  refine g_objInit C oi_X2_3 oi_inst oi_code (by decide) (by decide) (Nat.le_of_ble_eq_true rfl) dX2_init_1 ?_
  refine g_aload_n C dX2_init_4 rfl 0 rfl ?_
  refine g_bipush (v := 11) C dX2_init_5 (by decide) ?_
  refine g_newI (N := 11) C ac_int (by decide) rfl (by decide) (by decide) (by decide) dX2_init_7 (fun q895 h896 => ?_)
  refine g_putFR C fi_X2_9 Ci9 ⟨_, rfl, rfl⟩ rfl ((xExt.new (S := []) h896).1 _ D0.mem).1 (((xExt.new (S := []) h896).1 _ D0.mem).2.1.trans (D0.kind.trans haK)) dX2_init_9 ?_
  have D897 := D0.arr (k := 0) h896 (show shp (pK P a) 0 = some (13, 11) by rw [haK]; rfl) (by decide) (by decide)
  generalize pSR (pNw P q895 13 11) a 0 (some q895) = P898 at D897 ⊢
  refine g_aload_n C dX2_init_12 rfl 0 rfl ?_
  refine g_bipush (v := 11) C dX2_init_13 (by decide) ?_
  refine g_newI (N := 11) C ac_int (by decide) rfl (by decide) (by decide) (by decide) dX2_init_15 (fun q899 h900 => ?_)
  refine g_putFR C fi_X2_15 Ci9 ⟨_, rfl, rfl⟩ rfl ((xExt.new (S := []) h900).1 _ D897.mem).1 (((xExt.new (S := []) h900).1 _ D897.mem).2.1.trans (D897.kind.trans haK)) dX2_init_17 ?_
  have D901 := D897.arr (k := 1) h900 (show shp (pK P a) 1 = some (13, 11) by rw [haK]; rfl) (by decide) (by decide)
  generalize pSR (pNw P898 q899 13 11) a 1 (some q899) = P902 at D901 ⊢
  refine g_aload_n C dX2_init_20 rfl 0 rfl ?_
  refine g_new C ni_X2_18 (by decide) (by decide) dX2_init_21 (fun q903 h904 => ?_)
  refine g_dup C dX2_init_24 rfl ?_
  refine g_callNV (ci := 0) (ret := none) (rest := [.ref q903, .ref a]) C mn_X2_20 [] (c_X0_init (S := a :: S) in_new K_new (fun _ => by rw [R_new]) (D901.1.2.1.new h904) (D901.2.1.new h904)) rfl rfl (by decide) (Nat.le_of_ble_eq_true rfl) (by decide) dX2_init_25 (fun Q906 h907 => ?_)
  refine g_putFR C fi_X2_21 Ci9 ⟨_, rfl, rfl⟩ rfl (((xExt.new (S := [q903]) h904).tr h907.2.1).1 _ D901.mem).1 ((((xExt.new (S := [q903]) h904).tr h907.2.1).1 _ D901.mem).2.1.trans (D901.kind.trans haK)) dX2_init_28 ?_
  have D908 := D901.obj (k := 2) h904 (by decide) h907 (show shp (pK P a) 2 = some (0, 0) by rw [haK]; rfl)
  generalize pSR Q906 a 2 (some q903) = P909 at D908 ⊢
  refine g_aload_n C dX2_init_31 rfl 0 rfl ?_
  refine g_new C ni_X2_18 (by decide) (by decide) dX2_init_32 (fun q910 h911 => ?_)
  refine g_dup C dX2_init_35 rfl ?_
  refine g_callNV (ci := 0) (ret := none) (rest := [.ref q910, .ref a]) C mn_X2_20 [] (c_X0_init (S := a :: S) in_new K_new (fun _ => by rw [R_new]) (D908.1.2.1.new h911) (D908.2.1.new h911)) rfl rfl (by decide) (Nat.le_of_ble_eq_true rfl) (by decide) dX2_init_36 (fun Q913 h914 => ?_)
  refine g_putFR C fi_X2_25 Ci9 ⟨_, rfl, rfl⟩ rfl (((xExt.new (S := [q910]) h911).tr h914.2.1).1 _ D908.mem).1 ((((xExt.new (S := [q910]) h911).tr h914.2.1).1 _ D908.mem).2.1.trans (D908.kind.trans haK)) dX2_init_39 ?_
  have D915 := D908.obj (k := 3) h911 (by decide) h914 (show shp (pK P a) 3 = some (0, 0) by rw [haK]; rfl)
  generalize pSR Q913 a 3 (some q910) = P916 at D915 ⊢
  exact ret _ _ _ _ _ dX2_init_42 (by decide) (by decide) (D915.done haK (by decide) (kin (by decide +kernel)))
theorem dX1_init_0 : decode cX1_init 0 = .ok (.aload_n 0, 1) := by decide +kernel
theorem dX1_init_1 : decode cX1_init 1 = .ok (.invokespecial 3, 3) := by decide +kernel
theorem dX1_init_4 : decode cX1_init 4 = .ok (.aload_n 0, 1) := by decide +kernel
theorem dX1_init_5 : decode cX1_init 5 = .ok (.bipush 16, 2) := by decide +kernel
theorem dX1_init_7 : decode cX1_init 7 = .ok (.newarray .int, 2) := by decide +kernel
theorem dX1_init_9 : decode cX1_init 9 = .ok (.putfield 9, 3) := by decide +kernel
theorem dX1_init_12 : decode cX1_init 12 = .ok (.aload_n 0, 1) := by decide +kernel
theorem dX1_init_13 : decode cX1_init 13 = .ok (.new 15, 3) := by decide +kernel
theorem dX1_init_16 : decode cX1_init 16 = .ok (.dup, 1) := by decide +kernel
theorem dX1_init_17 : decode cX1_init 17 = .ok (.invokespecial 17, 3) := by decide +kernel
theorem dX1_init_20 : decode cX1_init 20 = .ok (.putfield 18, 3) := by decide +kernel
theorem dX1_init_23 : decode cX1_init 23 = .ok (.aload_n 0, 1) := by decide +kernel
theorem dX1_init_24 : decode cX1_init 24 = .ok (.bipush 60, 2) := by decide +kernel
theorem dX1_init_26 : decode cX1_init 26 = .ok (.newarray .int, 2) := by decide +kernel
theorem dX1_init_28 : decode cX1_init 28 = .ok (.putfield 22, 3) := by decide +kernel
theorem dX1_init_31 : decode cX1_init 31 = .ok (.aload_n 0, 1) := by decide +kernel
theorem dX1_init_32 : decode cX1_init 32 = .ok (.iload_n 1, 1) := by decide +kernel
theorem dX1_init_33 : decode cX1_init 33 = .ok (.putfield 25, 3) := by decide +kernel
theorem dX1_init_36 : decode cX1_init 36 = .ok (.return_, 1) := by decide +kernel
set_option maxHeartbeats 4000000 in
set_option maxRecDepth 100000 in
theorem c_X1_init {P : PP} {a : Nat} {i : Int32} {S : List Nat} (ha : a ∈ pL P) (haK : pK P a = 1) (hr : ∀ k, pR P a k = none) (hg : xAG (a :: S) P) (z : zG P)  : CtrV yX1_init cX1_init 2 none ({ frames := 3, cells := 5, slots := 107, locals := 192 } : Room) 5 107 P [.ref a, .int i] (fun P2 => xAG S P2 ∧ xExt [a] P P2 ∧ zG P2) := by
  have D0 := yDn.zero ha hg z hr
  refine enV (lv := [(0, .ref a), (1, .int i)]) (by decide) (Nat.le_of_ble_eq_true rfl) rfl (fun E D cy C Ci0 ret => ?_)
  have Ci9 := Ci0 rfl
  refine g_aload_n C dX1_init_0 rfl 0 rfl ?_
  refine g_objInit C oi_X1_3 oi_inst oi_code (by decide) (by decide) (Nat.le_of_ble_eq_true rfl) dX1_init_1 ?_
  refine g_aload_n C dX1_init_4 rfl 0 rfl ?_
  refine g_bipush (v := 16) C dX1_init_5 (by decide) ?_
  refine g_newI (N := 16) C ac_int (by decide) rfl (by decide) (by decide) (by decide) dX1_init_7 (fun q917 h918 => ?_)
  refine g_putFR C fi_X1_9 Ci9 ⟨_, rfl, rfl⟩ rfl ((xExt.new (S := []) h918).1 _ D0.mem).1 (((xExt.new (S := []) h918).1 _ D0.mem).2.1.trans (D0.kind.trans haK)) dX1_init_9 ?_
  have D919 := D0.arr (k := 1) h918 (show shp (pK P a) 1 = some (13, 16) by rw [haK]; rfl) (by decide) (by decide)
  generalize pSR (pNw P q917 13 16) a 1 (some q917) = P920 at D919 ⊢
  refine g_aload_n C dX1_init_12 rfl 0 rfl ?_
  refine g_new C ni_X1_15 (by decide) (by decide) dX1_init_13 (fun q921 h922 => ?_)
  refine g_dup C dX1_init_16 rfl ?_
  refine g_callCV (ci := 0) (ret := none) (rest := [.ref q921, .ref a]) C mi_X1_17 [] (c_X3_init (S := a :: S) in_new K_new (fun _ => by rw [R_new]) (D919.1.2.1.new h922) (D919.2.1.new h922)) rfl rfl (by decide) (Nat.le_of_ble_eq_true rfl) (by decide) dX1_init_17 (fun Q924 h925 => ?_)
  refine g_putFR C fi_X1_18 Ci9 ⟨_, rfl, rfl⟩ rfl (((xExt.new (S := [q921]) h922).tr h925.2.1).1 _ D919.mem).1 ((((xExt.new (S := [q921]) h922).tr h925.2.1).1 _ D919.mem).2.1.trans (D919.kind.trans haK)) dX1_init_20 ?_
  have D926 := D919.obj (k := 2) h922 (by decide) h925 (show shp (pK P a) 2 = some (3, 0) by rw [haK]; rfl)
  generalize pSR Q924 a 2 (some q921) = P927 at D926 ⊢
  refine g_aload_n C dX1_init_23 rfl 0 rfl ?_
  refine g_bipush (v := 60) C dX1_init_24 (by decide) ?_
  refine g_newI (N := 60) C ac_int (by decide) rfl (by decide) (by decide) (by decide) dX1_init_26 (fun q928 h929 => ?_)
  refine g_putFR C fi_X1_22 Ci9 ⟨_, rfl, rfl⟩ rfl ((xExt.new (S := []) h929).1 _ D926.mem).1 (((xExt.new (S := []) h929).1 _ D926.mem).2.1.trans (D926.kind.trans haK)) dX1_init_28 ?_
  have D930 := D926.arr (k := 3) h929 (show shp (pK P a) 3 = some (13, 60) by rw [haK]; rfl) (by decide) (by decide)
  generalize pSR (pNw P927 q928 13 60) a 3 (some q928) = P931 at D930 ⊢
  refine g_aload_n C dX1_init_31 rfl 0 rfl ?_
  refine g_iload_n C dX1_init_32 rfl 1 rfl ?_
  refine g_putFI C fi_X1_25 Ci9 ⟨_, rfl, rfl⟩ rfl D930.mem (D930.kind.trans haK) dX1_init_33 ?_
  exact ret _ _ _ _ _ dX1_init_36 (by decide) (by decide) ((fun h9 : xAG S P931 ∧ xExt [a] P P931 ∧ zG P931 => (⟨h9.1.setI, h9.2.1.tr (xExt.setI List.mem_cons_self), h9.2.2.setI D930.mem ⟨fun _ => by decide, fun q => by decide, fun q => by decide⟩⟩)) (D930.done haK (by decide) (kin (by decide +kernel))))
