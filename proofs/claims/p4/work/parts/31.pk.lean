def KA (P P2 : PP) (a c : Nat) : Prop := ∃ I2 : Nat → Nat → Int32, P2 = pWI P I2 (pJ P) ∧ (∀ b, b ≠ a → b ≠ c → I2 b = pI P b) ∧ ∀ k, rgOk 3 k (I2 a k)
theorem KA.rf {P : PP} {a c : Nat} (h : ∀ k, rgOk 3 k (pI P a k)) : KA P P a c := ⟨_, rfl, fun _ _ _ => rfl, h⟩
theorem KA.set {P P2 : PP} {a c b k : Nat} {v : Int32} (h : KA P P2 a c) (hb : b = a ∨ b = c) (hr : b = a → rgOk 3 k v) : KA P (pSI P2 b k v) a c := by
  obtain ⟨I2, rfl, h, hg⟩ := h
  refine ⟨va_up I2 b (va_up (I2 b) k v), rfl, fun e h1 h2 => ?_, fun j => ?_⟩
  · rw [up_ne (fun q => by rcases hb with z | z <;> subst z <;> first | exact h1 q | exact h2 q)]; exact h e h1 h2
  · by_cases e : a = b
    · subst e
      rw [up_self]
      by_cases ej : j = k
      · subst ej; rw [up_self]; exact hr rfl
      · rw [up_ne ej]; exact hg j
    · rw [up_ne e]; exact hg j
set_option maxHeartbeats 4000000 in
set_option maxRecDepth 100000 in
theorem c_X3_clearA {P : PP} {a : Nat} (ha : a ∈ pL P) (haK : pK P a = 3) (oka : xOk P a) (hrg : ∀ k, rgOk 3 k (pI P a k)) : CtrV yX3_clear cX3_clear 2 none ({ frames := 1, cells := 0, slots := 0, locals := 64 } : Room) 0 0 P [.ref a] (fun P2 => ∃ c, pR P a 0 = some c ∧ KA P P2 a c) := by
  refine enV (lv := [(0, .ref a)]) (by decide) (Nat.le_of_ble_eq_true rfl) rfl (fun E D cy C Ci0 ret => ?_)
  obtain ⟨ar, har⟩ := xFd.at oka haK 0 13 21 rfl
  refine g_iconst (v := 0) C dX3_clear_0 (by decide) ?_
  refine g_istore_n (lv' := [(1, .int 0), (0, .ref a)]) C dX3_clear_1 rfl (by decide) rfl ?_
  have lp6 : ∀ (n8 i1 : Nat), i1 + n8 = 21 → ∀ (I2 : Nat → Nat → Int32), (KA P (pWI P I2 (pJ P)) a ar) → G E ({ frames := 1, cells := 0, slots := 0, locals := 64 } : Room) D cy 2 (pWI P I2 (pJ P)) 0 0 2 [(1, .int (nI i1)), (0, .ref a)] [] := by
    intro n8
    induction n8 with
    | zero =>
      intro i1 hi3 I2 hv4
      have ei5 : (nI i1).toInt = (i1 : Int) := ti_nI (by omega)
      refine g_iload_n C dX3_clear_2 rfl 0 rfl ?_
      refine g_bipush (v := 20) C dX3_clear_3 (by decide) ?_
      refine b_icmp_gt C 21 dX3_clear_5 (by decide) (fun h9 => ?_) (fun h9 => ?_)
      · have h9 : 20 < (nI i1).toInt := h9
        refine g_aload_n C dX3_clear_21 rfl 1 rfl ?_
        refine g_iconst (v := 0) C dX3_clear_22 (by decide) ?_
        refine g_putI C fi_X3_21 rfl ha haK dX3_clear_23 ?_
        have k10 := KA.set (a := a) (c := ar) (b := a) (k := 2) (v := 0) hv4 (by first | exact Or.inl rfl | exact Or.inr rfl) (by first | (intro _; exact rgOk.none rfl) | (intro _; exact rgOk.of rfl (by decide)) | (intro e9; exact absurd (show pK P a = 13 from e9 ▸ har.2.2.1) (by rw [haK]; decide)))
        refine g_aload_n C dX3_clear_26 rfl 1 rfl ?_
        refine g_iconst (v := 0) C dX3_clear_27 (by decide) ?_
        refine g_putI C fi_X3_25 rfl ha haK dX3_clear_28 ?_
        have k11 := KA.set (a := a) (c := ar) (b := a) (k := 3) (v := 0) k10 (by first | exact Or.inl rfl | exact Or.inr rfl) (by first | (intro _; exact rgOk.none rfl) | (intro _; exact rgOk.of rfl (by decide)) | (intro e9; exact absurd (show pK P a = 13 from e9 ▸ har.2.2.1) (by rw [haK]; decide)))
        refine g_aload_n C dX3_clear_31 rfl 1 rfl ?_
        refine g_iconst (v := 0) C dX3_clear_32 (by decide) ?_
        refine g_putI C fi_X3_28 rfl ha haK dX3_clear_33 ?_
        have k12 := KA.set (a := a) (c := ar) (b := a) (k := 4) (v := 0) k11 (by first | exact Or.inl rfl | exact Or.inr rfl) (by first | (intro _; exact rgOk.none rfl) | (intro _; exact rgOk.of rfl (by decide)) | (intro e9; exact absurd (show pK P a = 13 from e9 ▸ har.2.2.1) (by rw [haK]; decide)))
        refine g_aload_n C dX3_clear_36 rfl 1 rfl ?_
        refine g_iconst (v := 0) C dX3_clear_37 (by decide) ?_
        refine g_putI C fi_X3_31 rfl ha haK dX3_clear_38 ?_
        have k13 := KA.set (a := a) (c := ar) (b := a) (k := 5) (v := 0) k12 (by first | exact Or.inl rfl | exact Or.inr rfl) (by first | (intro _; exact rgOk.none rfl) | (intro _; exact rgOk.of rfl (by decide)) | (intro e9; exact absurd (show pK P a = 13 from e9 ▸ har.2.2.1) (by rw [haK]; decide)))
        exact ret _ _ _ _ _ dX3_clear_41 (by decide) (by decide) (⟨ar, har.1, k13⟩)
      · have h9 : (nI i1).toInt ≤ 20 := h9
        omega
    | succ n8 ih7 =>
      intro i1 hi3 I2 hv4
      have ei5 : (nI i1).toInt = (i1 : Int) := ti_nI (by omega)
      refine g_iload_n C dX3_clear_2 rfl 0 rfl ?_
      refine g_bipush (v := 20) C dX3_clear_3 (by decide) ?_
      refine b_icmp_gt C 21 dX3_clear_5 (by decide) (fun h14 => ?_) (fun h14 => ?_)
      · have h14 : 20 < (nI i1).toInt := h14
        omega
      · have h14 : (nI i1).toInt ≤ 20 := h14
        refine g_aload_n C dX3_clear_8 rfl 1 rfl ?_
        refine g_getR C fi_X3_9 rfl (har.1) ha haK dX3_clear_9 ?_
        refine g_iload_n C dX3_clear_12 rfl 0 rfl ?_
        refine g_iconst (v := (-1)) C dX3_clear_13 (by decide) ?_
        refine g_iast (j := i1) C har.2.1 har.2.2.1 (IX.inn har.2.2.2 (by omega) (by decide)) dX3_clear_14 ?_
        have k15 := KA.set (a := a) (c := ar) (b := ar) (k := i1) (v := (-1)) hv4 (by first | exact Or.inl rfl | exact Or.inr rfl) (by first | (intro _; exact rgOk.none rfl) | (intro _; exact rgOk.of rfl (by decide)) | (intro e9; exact absurd (show pK P a = 13 from e9 ▸ har.2.2.1) (by rw [haK]; decide)))
        refine g_iinc (v := (nI (i1 + 1))) (lv' := [(1, .int (nI (i1 + 1))), (0, .ref a)]) C dX3_clear_15 0 rfl (nI_1 _) (by decide) rfl ?_
        refine g_goto C 2 dX3_clear_18 (by decide) ?_
        exact ih7 (i1 + 1) (by omega) _ (k15)
  exact lp6 21 0 rfl _ (KA.rf hrg)
theorem dX0_init_9 : decode cX0_init 9 = .ok (.putfield 9, 3) := by decide +kernel
theorem dX0_init_12 : decode cX0_init 12 = .ok (.aload_n 0, 1) := by decide +kernel
theorem dX0_init_13 : decode cX0_init 13 = .ok (.bipush 20, 2) := by decide +kernel
theorem dX0_init_15 : decode cX0_init 15 = .ok (.newarray .int, 2) := by decide +kernel
theorem dX0_init_17 : decode cX0_init 17 = .ok (.putfield 15, 3) := by decide +kernel
theorem dX0_init_20 : decode cX0_init 20 = .ok (.return_, 1) := by decide +kernel
set_option maxHeartbeats 4000000 in
set_option maxRecDepth 100000 in
theorem c_X0_init {P : PP} {a : Nat} {S : List Nat} (ha : a ∈ pL P) (haK : pK P a = 0) (hr : ∀ k, pR P a k = none) (hg : xAG (a :: S) P) (z : zG P)  : CtrV yX0_init cX0_init 1 none ({ frames := 2, cells := 2, slots := 40, locals := 128 } : Room) 2 40 P [.ref a] (fun P2 => xAG S P2 ∧ xExt [a] P P2 ∧ zG P2) := by
  have D0 := yDn.zero ha hg z hr
  refine enV (lv := [(0, .ref a)]) (by decide) (Nat.le_of_ble_eq_true rfl) rfl (fun E D cy C Ci0 ret => ?_)
  have Ci9 := Ci0 rfl
  refine g_aload_n C dX0_init_0 rfl 0 rfl ?_
  refine g_objInit C oi_X0_3 oi_inst oi_code (by decide) (by decide) (Nat.le_of_ble_eq_true rfl) dX0_init_1 ?_
  refine g_aload_n C dX0_init_4 rfl 0 rfl ?_
  refine g_bipush (v := 20) C dX0_init_5 (by decide) ?_
  refine g_newI (N := 20) C ac_int (by decide) rfl (by decide) (by decide) (by decide) dX0_init_7 (fun q16 h17 => ?_)
  refine g_putFR C fi_X0_9 Ci9 ⟨_, rfl, rfl⟩ rfl ((xExt.new (S := []) h17).1 _ D0.mem).1 (((xExt.new (S := []) h17).1 _ D0.mem).2.1.trans (D0.kind.trans haK)) dX0_init_9 ?_
  have D18 := D0.arr (k := 0) h17 (show shp (pK P a) 0 = some (13, 20) by rw [haK]; rfl) (by decide) (by decide)
  generalize pSR (pNw P q16 13 20) a 0 (some q16) = P19 at D18 ⊢
  refine g_aload_n C dX0_init_12 rfl 0 rfl ?_
  refine g_bipush (v := 20) C dX0_init_13 (by decide) ?_
  refine g_newI (N := 20) C ac_int (by decide) rfl (by decide) (by decide) (by decide) dX0_init_15 (fun q20 h21 => ?_)
  refine g_putFR C fi_X0_15 Ci9 ⟨_, rfl, rfl⟩ rfl ((xExt.new (S := []) h21).1 _ D18.mem).1 (((xExt.new (S := []) h21).1 _ D18.mem).2.1.trans (D18.kind.trans haK)) dX0_init_17 ?_
  have D22 := D18.arr (k := 1) h21 (show shp (pK P a) 1 = some (13, 20) by rw [haK]; rfl) (by decide) (by decide)
  generalize pSR (pNw P19 q20 13 20) a 1 (some q20) = P23 at D22 ⊢
  exact ret _ _ _ _ _ dX0_init_20 (by decide) (by decide) (D22.done haK (by decide) (kin (by decide +kernel)))
theorem dX5_init_0 : decode cX5_init 0 = .ok (.aload_n 0, 1) := by decide +kernel
theorem dX5_init_1 : decode cX5_init 1 = .ok (.invokespecial 3, 3) := by decide +kernel
theorem dX5_init_4 : decode cX5_init 4 = .ok (.aload_n 0, 1) := by decide +kernel
theorem dX5_init_5 : decode cX5_init 5 = .ok (.bipush 44, 2) := by decide +kernel
theorem dX5_init_7 : decode cX5_init 7 = .ok (.newarray .int, 2) := by decide +kernel
theorem dX5_init_9 : decode cX5_init 9 = .ok (.putfield 9, 3) := by decide +kernel
theorem dX5_init_12 : decode cX5_init 12 = .ok (.aload_n 0, 1) := by decide +kernel
theorem dX5_init_13 : decode cX5_init 13 = .ok (.bipush 44, 2) := by decide +kernel
theorem dX5_init_15 : decode cX5_init 15 = .ok (.newarray .int, 2) := by decide +kernel
theorem dX5_init_17 : decode cX5_init 17 = .ok (.putfield 15, 3) := by decide +kernel
theorem dX5_init_20 : decode cX5_init 20 = .ok (.aload_n 0, 1) := by decide +kernel
theorem dX5_init_21 : decode cX5_init 21 = .ok (.bipush 20, 2) := by decide +kernel
theorem dX5_init_23 : decode cX5_init 23 = .ok (.newarray .int, 2) := by decide +kernel
theorem dX5_init_25 : decode cX5_init 25 = .ok (.putfield 18, 3) := by decide +kernel
theorem dX5_init_28 : decode cX5_init 28 = .ok (.aload_n 0, 1) := by decide +kernel
theorem dX5_init_29 : decode cX5_init 29 = .ok (.bipush 16, 2) := by decide +kernel
theorem dX5_init_31 : decode cX5_init 31 = .ok (.newarray .long, 2) := by decide +kernel
theorem dX5_init_33 : decode cX5_init 33 = .ok (.putfield 21, 3) := by decide +kernel
theorem dX5_init_36 : decode cX5_init 36 = .ok (.return_, 1) := by decide +kernel
set_option maxHeartbeats 4000000 in
set_option maxRecDepth 100000 in
theorem c_X5_init {P : PP} {a : Nat} {S : List Nat} (ha : a ∈ pL P) (haK : pK P a = 5) (hr : ∀ k, pR P a k = none) (hg : xAG (a :: S) P) (z : zG P)  : CtrV yX5_init cX5_init 1 none ({ frames := 2, cells := 4, slots := 124, locals := 128 } : Room) 4 124 P [.ref a] (fun P2 => xAG S P2 ∧ xExt [a] P P2 ∧ zG P2) := by
  have D0 := yDn.zero ha hg z hr
  refine enV (lv := [(0, .ref a)]) (by decide) (Nat.le_of_ble_eq_true rfl) rfl (fun E D cy C Ci0 ret => ?_)
  have Ci9 := Ci0 rfl
  refine g_aload_n C dX5_init_0 rfl 0 rfl ?_
  refine g_objInit C oi_X5_3 oi_inst oi_code (by decide) (by decide) (Nat.le_of_ble_eq_true rfl) dX5_init_1 ?_
  refine g_aload_n C dX5_init_4 rfl 0 rfl ?_
  refine g_bipush (v := 44) C dX5_init_5 (by decide) ?_
  refine g_newI (N := 44) C ac_int (by decide) rfl (by decide) (by decide) (by decide) dX5_init_7 (fun q24 h25 => ?_)
  refine g_putFR C fi_X5_9 Ci9 ⟨_, rfl, rfl⟩ rfl ((xExt.new (S := []) h25).1 _ D0.mem).1 (((xExt.new (S := []) h25).1 _ D0.mem).2.1.trans (D0.kind.trans haK)) dX5_init_9 ?_
  have D26 := D0.arr (k := 0) h25 (show shp (pK P a) 0 = some (13, 44) by rw [haK]; rfl) (by decide) (by decide)
  generalize pSR (pNw P q24 13 44) a 0 (some q24) = P27 at D26 ⊢
  refine g_aload_n C dX5_init_12 rfl 0 rfl ?_
  refine g_bipush (v := 44) C dX5_init_13 (by decide) ?_
  refine g_newI (N := 44) C ac_int (by decide) rfl (by decide) (by decide) (by decide) dX5_init_15 (fun q28 h29 => ?_)
  refine g_putFR C fi_X5_15 Ci9 ⟨_, rfl, rfl⟩ rfl ((xExt.new (S := []) h29).1 _ D26.mem).1 (((xExt.new (S := []) h29).1 _ D26.mem).2.1.trans (D26.kind.trans haK)) dX5_init_17 ?_
  have D30 := D26.arr (k := 1) h29 (show shp (pK P a) 1 = some (13, 44) by rw [haK]; rfl) (by decide) (by decide)
  generalize pSR (pNw P27 q28 13 44) a 1 (some q28) = P31 at D30 ⊢
  refine g_aload_n C dX5_init_20 rfl 0 rfl ?_
  refine g_bipush (v := 20) C dX5_init_21 (by decide) ?_
  refine g_newI (N := 20) C ac_int (by decide) rfl (by decide) (by decide) (by decide) dX5_init_23 (fun q32 h33 => ?_)
  refine g_putFR C fi_X5_18 Ci9 ⟨_, rfl, rfl⟩ rfl ((xExt.new (S := []) h33).1 _ D30.mem).1 (((xExt.new (S := []) h33).1 _ D30.mem).2.1.trans (D30.kind.trans haK)) dX5_init_25 ?_
  have D34 := D30.arr (k := 2) h33 (show shp (pK P a) 2 = some (13, 20) by rw [haK]; rfl) (by decide) (by decide)
  generalize pSR (pNw P31 q32 13 20) a 2 (some q32) = P35 at D34 ⊢
  refine g_aload_n C dX5_init_28 rfl 0 rfl ?_
  refine g_bipush (v := 16) C dX5_init_29 (by decide) ?_
  refine g_newJ (N := 16) C ac_long (by decide) rfl (by decide) (by decide) (by decide) dX5_init_31 (fun q36 h37 => ?_)
  refine g_putFR C fi_X5_21 Ci9 ⟨_, rfl, rfl⟩ rfl ((xExt.new (S := []) h37).1 _ D34.mem).1 (((xExt.new (S := []) h37).1 _ D34.mem).2.1.trans (D34.kind.trans haK)) dX5_init_33 ?_
  have D38 := D34.arr (k := 3) h37 (show shp (pK P a) 3 = some (14, 16) by rw [haK]; rfl) (by decide) (by decide)
  generalize pSR (pNw P35 q36 14 16) a 3 (some q36) = P39 at D38 ⊢
  exact ret _ _ _ _ _ dX5_init_36 (by decide) (by decide) (D38.done haK (by decide) (kin (by decide +kernel)))
theorem dX6_init_0 : decode cX6_init 0 = .ok (.aload_n 0, 1) := by decide +kernel
theorem dX6_init_1 : decode cX6_init 1 = .ok (.invokespecial 3, 3) := by decide +kernel
theorem dX6_init_4 : decode cX6_init 4 = .ok (.aload_n 0, 1) := by decide +kernel
theorem dX6_init_5 : decode cX6_init 5 = .ok (.bipush 40, 2) := by decide +kernel
theorem dX6_init_7 : decode cX6_init 7 = .ok (.anewarray 9, 3) := by decide +kernel
theorem dX6_init_10 : decode cX6_init 10 = .ok (.putfield 11, 3) := by decide +kernel
theorem dX6_init_13 : decode cX6_init 13 = .ok (.return_, 1) := by decide +kernel
set_option maxHeartbeats 4000000 in
set_option maxRecDepth 100000 in
theorem c_X6_init {P : PP} {a : Nat} {S : List Nat} (ha : a ∈ pL P) (haK : pK P a = 6) (hr : ∀ k, pR P a k = none) (hg : xAG (a :: S) P) (z : zG P)  : CtrV yX6_init cX6_init 1 none ({ frames := 2, cells := 1, slots := 40, locals := 128 } : Room) 1 40 P [.ref a] (fun P2 => xAG S P2 ∧ xExt [a] P P2 ∧ zG P2) := by
  have D0 := yDn.zero ha hg z hr
  refine enV (lv := [(0, .ref a)]) (by decide) (Nat.le_of_ble_eq_true rfl) rfl (fun E D cy C Ci0 ret => ?_)
  have Ci9 := Ci0 rfl
  refine g_aload_n C dX6_init_0 rfl 0 rfl ?_
  refine g_objInit C oi_X6_3 oi_inst oi_code (by decide) (by decide) (Nat.le_of_ble_eq_true rfl) dX6_init_1 ?_
  refine g_aload_n C dX6_init_4 rfl 0 rfl ?_
  refine g_bipush (v := 40) C dX6_init_5 (by decide) ?_
  refine g_newQ (kd := 20) (N := 40) C (by decide) cl_X6_9 ao_X7 (by decide) rfl (by decide) (by decide) (by decide) dX6_init_7 (fun q40 h41 => ?_)
  refine g_putFR C fi_X6_11 Ci9 ⟨_, rfl, rfl⟩ rfl ((xExt.new (S := []) h41).1 _ D0.mem).1 (((xExt.new (S := []) h41).1 _ D0.mem).2.1.trans (D0.kind.trans haK)) dX6_init_10 ?_
  have D42 := D0.arr (k := 0) h41 (show shp (pK P a) 0 = some (20, 40) by rw [haK]; rfl) (by decide) (by decide)
  generalize pSR (pNw P q40 20 40) a 0 (some q40) = P43 at D42 ⊢
  exact ret _ _ _ _ _ dX6_init_13 (by decide) (by decide) (D42.done haK (by decide) (kin (by decide +kernel)))
theorem dX9_init_0 : decode cX9_init 0 = .ok (.aload_n 0, 1) := by decide +kernel
theorem dX9_init_1 : decode cX9_init 1 = .ok (.invokespecial 3, 3) := by decide +kernel
theorem dX9_init_4 : decode cX9_init 4 = .ok (.aload_n 0, 1) := by decide +kernel
theorem dX9_init_5 : decode cX9_init 5 = .ok (.sipush 1000, 3) := by decide +kernel
theorem dX9_init_8 : decode cX9_init 8 = .ok (.newarray .int, 2) := by decide +kernel
theorem dX9_init_10 : decode cX9_init 10 = .ok (.putfield 9, 3) := by decide +kernel
theorem dX9_init_13 : decode cX9_init 13 = .ok (.return_, 1) := by decide +kernel
set_option maxHeartbeats 4000000 in
set_option maxRecDepth 100000 in
theorem c_X9_init {P : PP} {a : Nat} {S : List Nat} (ha : a ∈ pL P) (haK : pK P a = 9) (hr : ∀ k, pR P a k = none) (hg : xAG (a :: S) P) (z : zG P)  : CtrV yX9_init cX9_init 1 none ({ frames := 2, cells := 1, slots := 1000, locals := 128 } : Room) 1 1000 P [.ref a] (fun P2 => xAG S P2 ∧ xExt [a] P P2 ∧ zG P2) := by
  have D0 := yDn.zero ha hg z hr
  refine enV (lv := [(0, .ref a)]) (by decide) (Nat.le_of_ble_eq_true rfl) rfl (fun E D cy C Ci0 ret => ?_)
  have Ci9 := Ci0 rfl
  refine g_aload_n C dX9_init_0 rfl 0 rfl ?_
  refine g_objInit C oi_X9_3 oi_inst oi_code (by decide) (by decide) (Nat.le_of_ble_eq_true rfl) dX9_init_1 ?_
  refine g_aload_n C dX9_init_4 rfl 0 rfl ?_
  refine g_sipush (v := 1000) C dX9_init_5 (by decide) ?_
  refine g_newI (N := 1000) C ac_int (by decide) rfl (by decide) (by decide) (by decide) dX9_init_8 (fun q44 h45 => ?_)
  refine g_putFR C fi_X9_9 Ci9 ⟨_, rfl, rfl⟩ rfl ((xExt.new (S := []) h45).1 _ D0.mem).1 (((xExt.new (S := []) h45).1 _ D0.mem).2.1.trans (D0.kind.trans haK)) dX9_init_10 ?_
  have D46 := D0.arr (k := 0) h45 (show shp (pK P a) 0 = some (13, 1000) by rw [haK]; rfl) (by decide) (by decide)
  generalize pSR (pNw P q44 13 1000) a 0 (some q44) = P47 at D46 ⊢
  exact ret _ _ _ _ _ dX9_init_13 (by decide) (by decide) (D46.done haK (by decide) (kin (by decide +kernel)))
theorem cl_done {S : List Nat} {P0 P P2 : PP} {a : Nat} (h : xAG S P ∧ xExt [a] P0 P ∧ zG P) (hm : a ∈ pL P) (hK : pK P a = 3) (hf : ∀ b, pR P a 0 = some b → b ∉ pL P0 ∧ b ∈ pL P ∧ pK P b = 13) (k : ∃ c, pR P a 0 = some c ∧ KA P P2 a c) : xAG S P2 ∧ xExt [a] P0 P2 ∧ zG P2 := by
  obtain ⟨c, hc, I2, rfl, k, kg⟩ := k
  obtain ⟨h1, h2, h3⟩ := h
  obtain ⟨f1, f2, f3⟩ := hf c hc
  refine ⟨h1, ⟨h2.1, fun b hb hs => ?_⟩, fun b hb => ⟨fun j => ?_, (h3 b hb).2.1, fun e9 => ?_⟩⟩
  · obtain ⟨g1, g2, g3⟩ := h2.2 b hb hs
    refine ⟨?_, g2, g3⟩
    rw [← g1]
    exact k b (fun e => hs (e ▸ List.mem_cons_self)) (fun e => f1 (e ▸ hb))
  · show rgOk (pK P b) j (I2 b j)
    by_cases e : b = a
    · rw [e, hK]; exact kg j
    · by_cases e2 : b = c
      · rw [e2, f3]; exact rgOk.none (rgT_arr (by decide))
      · rw [k b e e2]; exact (h3 b hb).1 j
  · have e8 : pK P b = 9 := e9
    show I2 b 1 = 0
    rw [k b (fun e => by rw [e, hK] at e8; omega) (fun e => by rw [e, f3] at e8; omega)]; exact (h3 b hb).2.2 e8
theorem dX3_init_0 : decode cX3_init 0 = .ok (.aload_n 0, 1) := by decide +kernel
theorem dX3_init_1 : decode cX3_init 1 = .ok (.invokespecial 3, 3) := by decide +kernel
theorem dX3_init_4 : decode cX3_init 4 = .ok (.aload_n 0, 1) := by decide +kernel
theorem dX3_init_5 : decode cX3_init 5 = .ok (.bipush 21, 2) := by decide +kernel
theorem dX3_init_7 : decode cX3_init 7 = .ok (.newarray .int, 2) := by decide +kernel
theorem dX3_init_9 : decode cX3_init 9 = .ok (.putfield 9, 3) := by decide +kernel
theorem dX3_init_12 : decode cX3_init 12 = .ok (.aload_n 0, 1) := by decide +kernel
theorem dX3_init_13 : decode cX3_init 13 = .ok (.iconst 4, 1) := by decide +kernel
theorem dX3_init_14 : decode cX3_init 14 = .ok (.newarray .int, 2) := by decide +kernel
theorem dX3_init_16 : decode cX3_init 16 = .ok (.putfield 15, 3) := by decide +kernel
theorem dX3_init_19 : decode cX3_init 19 = .ok (.aload_n 0, 1) := by decide +kernel
theorem dX3_init_20 : decode cX3_init 20 = .ok (.invokevirtual 18, 3) := by decide +kernel
theorem dX3_init_23 : decode cX3_init 23 = .ok (.return_, 1) := by decide +kernel
set_option maxHeartbeats 4000000 in
set_option maxRecDepth 100000 in
theorem c_X3_init {P : PP} {a : Nat} {S : List Nat} (ha : a ∈ pL P) (haK : pK P a = 3) (hr : ∀ k, pR P a k = none) (hg : xAG (a :: S) P) (z : zG P)  : CtrV yX3_init cX3_init 1 none ({ frames := 2, cells := 2, slots := 25, locals := 128 } : Room) 2 25 P [.ref a] (fun P2 => xAG S P2 ∧ xExt [a] P P2 ∧ zG P2) := by
  have D0 := yDn.zero ha hg z hr
  refine enV (lv := [(0, .ref a)]) (by decide) (Nat.le_of_ble_eq_true rfl) rfl (fun E D cy C Ci0 ret => ?_)
  have Ci9 := Ci0 rfl
  refine g_aload_n C dX3_init_0 rfl 0 rfl ?_
  refine g_objInit C oi_X3_3 oi_inst oi_code (by decide) (by decide) (Nat.le_of_ble_eq_true rfl) dX3_init_1 ?_
  refine g_aload_n C dX3_init_4 rfl 0 rfl ?_
  refine g_bipush (v := 21) C dX3_init_5 (by decide) ?_
  refine g_newI (N := 21) C ac_int (by decide) rfl (by decide) (by decide) (by decide) dX3_init_7 (fun q48 h49 => ?_)
  refine g_putFR C fi_X3_9 Ci9 ⟨_, rfl, rfl⟩ rfl ((xExt.new (S := []) h49).1 _ D0.mem).1 (((xExt.new (S := []) h49).1 _ D0.mem).2.1.trans (D0.kind.trans haK)) dX3_init_9 ?_
  have D50 := D0.arr (k := 0) h49 (show shp (pK P a) 0 = some (13, 21) by rw [haK]; rfl) (by decide) (by decide)
  generalize pSR (pNw P q48 13 21) a 0 (some q48) = P51 at D50 ⊢
  refine g_aload_n C dX3_init_12 rfl 0 rfl ?_
  refine g_iconst (v := 4) C dX3_init_13 (by decide) ?_
  refine g_newI (N := 4) C ac_int (by decide) rfl (by decide) (by decide) (by decide) dX3_init_14 (fun q52 h53 => ?_)
  refine g_putFR C fi_X3_15 Ci9 ⟨_, rfl, rfl⟩ rfl ((xExt.new (S := []) h53).1 _ D50.mem).1 (((xExt.new (S := []) h53).1 _ D50.mem).2.1.trans (D50.kind.trans haK)) dX3_init_16 ?_
  have D54 := D50.arr (k := 1) h53 (show shp (pK P a) 1 = some (13, 4) by rw [haK]; rfl) (by decide) (by decide)
  generalize pSR (pNw P51 q52 13 4) a 1 (some q52) = P55 at D54 ⊢
  refine g_aload_n C dX3_init_19 rfl 0 rfl ?_
  refine g_callVV (rest := []) C mv_X3_18 [] (c_X3_clearA D54.mem (D54.kind.trans haK) (D54.ok haK (by decide) (kin (by decide +kernel))) (fun k9 => by have h9 := (D54.2.1 _ D54.mem).1 k9; rw [D54.kind, haK] at h9; exact h9)) D54.mem (D54.kind.trans haK) rfl rfl (by decide) (Nat.le_of_ble_eq_true rfl) (by decide) dX3_init_20 (fun Q57 h58 => ?_)
  exact ret _ _ _ _ _ dX3_init_23 (by decide) (by decide) (cl_done (D54.done haK (by decide) (kin (by decide +kernel))) D54.mem (D54.kind.trans haK) (fun b hb => ⟨(D54.2.2.1 _ _ hb).2.1, (D54.2.2.1 _ _ hb).2.2.1, by obtain ⟨c, e1, -, e3, -⟩ := xFd.at (D54.ok haK (by decide) (kin (by decide +kernel))) (D54.kind.trans haK) 0 13 21 rfl; rw [hb] at e1; cases e1; exact e3⟩) h58)
theorem dX4_init_0 : decode cX4_init 0 = .ok (.aload_n 0, 1) := by decide +kernel
theorem dX4_init_1 : decode cX4_init 1 = .ok (.invokespecial 3, 3) := by decide +kernel
theorem dX4_init_4 : decode cX4_init 4 = .ok (.aload_n 0, 1) := by decide +kernel
theorem dX4_init_5 : decode cX4_init 5 = .ok (.new 9, 3) := by decide +kernel
theorem dX4_init_8 : decode cX4_init 8 = .ok (.dup, 1) := by decide +kernel
theorem dX4_init_9 : decode cX4_init 9 = .ok (.invokespecial 11, 3) := by decide +kernel
theorem dX4_init_12 : decode cX4_init 12 = .ok (.putfield 12, 3) := by decide +kernel
theorem dX4_init_15 : decode cX4_init 15 = .ok (.aload_n 0, 1) := by decide +kernel
theorem dX4_init_16 : decode cX4_init 16 = .ok (.new 18, 3) := by decide +kernel
theorem dX4_init_19 : decode cX4_init 19 = .ok (.dup, 1) := by decide +kernel
theorem dX4_init_20 : decode cX4_init 20 = .ok (.invokespecial 20, 3) := by decide +kernel
theorem dX4_init_23 : decode cX4_init 23 = .ok (.putfield 21, 3) := by decide +kernel
theorem dX4_init_26 : decode cX4_init 26 = .ok (.return_, 1) := by decide +kernel
set_option maxHeartbeats 4000000 in
set_option maxRecDepth 100000 in
theorem c_X4_init {P : PP} {a : Nat} {S : List Nat} (ha : a ∈ pL P) (haK : pK P a = 4) (hr : ∀ k, pR P a k = none) (hg : xAG (a :: S) P) (z : zG P)  : CtrV yX4_init cX4_init 1 none ({ frames := 3, cells := 5, slots := 1037, locals := 192 } : Room) 5 1037 P [.ref a] (fun P2 => xAG S P2 ∧ xExt [a] P P2 ∧ zG P2) := by
  have D0 := yDn.zero ha hg z hr
  refine enV (lv := [(0, .ref a)]) (by decide) (Nat.le_of_ble_eq_true rfl) rfl (fun E D cy C Ci0 ret => ?_)
  have Ci9 := Ci0 rfl
  refine g_aload_n C dX4_init_0 rfl 0 rfl ?_
  refine g_objInit C oi_X4_3 oi_inst oi_code (by decide) (by decide) (Nat.le_of_ble_eq_true rfl) dX4_init_1 ?_
  refine g_aload_n C dX4_init_4 rfl 0 rfl ?_
  refine g_new C ni_X4_9 (by decide) (by decide) dX4_init_5 (fun q59 h60 => ?_)
  refine g_dup C dX4_init_8 rfl ?_
  refine g_callNV (ci := 0) (ret := none) (rest := [.ref q59, .ref a]) C mn_X4_11 [] (c_X9_init (S := a :: S) in_new K_new (fun _ => by rw [R_new]) (D0.1.2.1.new h60) (D0.2.1.new h60)) rfl rfl (by decide) (Nat.le_of_ble_eq_true rfl) (by decide) dX4_init_9 (fun Q62 h63 => ?_)
  refine g_putFR C fi_X4_12 Ci9 ⟨_, rfl, rfl⟩ rfl (((xExt.new (S := [q59]) h60).tr h63.2.1).1 _ D0.mem).1 ((((xExt.new (S := [q59]) h60).tr h63.2.1).1 _ D0.mem).2.1.trans (D0.kind.trans haK)) dX4_init_12 ?_
  have D64 := D0.obj (k := 0) h60 (by decide) h63 (show shp (pK P a) 0 = some (9, 0) by rw [haK]; rfl)
  generalize pSR Q62 a 0 (some q59) = P65 at D64 ⊢
  refine g_aload_n C dX4_init_15 rfl 0 rfl ?_
  refine g_new C ni_X4_18 (by decide) (by decide) dX4_init_16 (fun q66 h67 => ?_)
  refine g_dup C dX4_init_19 rfl ?_
  refine g_callCV (ci := 0) (ret := none) (rest := [.ref q66, .ref a]) C mi_X4_20 [] (c_X3_init (S := a :: S) in_new K_new (fun _ => by rw [R_new]) (D64.1.2.1.new h67) (D64.2.1.new h67)) rfl rfl (by decide) (Nat.le_of_ble_eq_true rfl) (by decide) dX4_init_20 (fun Q69 h70 => ?_)
  refine g_putFR C fi_X4_21 Ci9 ⟨_, rfl, rfl⟩ rfl (((xExt.new (S := [q66]) h67).tr h70.2.1).1 _ D64.mem).1 ((((xExt.new (S := [q66]) h67).tr h70.2.1).1 _ D64.mem).2.1.trans (D64.kind.trans haK)) dX4_init_23 ?_
  have D71 := D64.obj (k := 1) h67 (by decide) h70 (show shp (pK P a) 1 = some (3, 0) by rw [haK]; rfl)
  generalize pSR Q69 a 1 (some q66) = P72 at D71 ⊢
  exact ret _ _ _ _ _ dX4_init_26 (by decide) (by decide) (D71.done haK (by decide) (kin (by decide +kernel)))
theorem dX8_init_0 : decode cX8_init 0 = .ok (.aload_n 0, 1) := by decide +kernel
theorem dX8_init_1 : decode cX8_init 1 = .ok (.invokespecial 3, 3) := by decide +kernel
theorem dX8_init_4 : decode cX8_init 4 = .ok (.aload_n 0, 1) := by decide +kernel
theorem dX8_init_5 : decode cX8_init 5 = .ok (.bipush 12, 2) := by decide +kernel
theorem dX8_init_7 : decode cX8_init 7 = .ok (.newarray .int, 2) := by decide +kernel
theorem dX8_init_9 : decode cX8_init 9 = .ok (.putfield 9, 3) := by decide +kernel
theorem dX8_init_12 : decode cX8_init 12 = .ok (.aload_n 0, 1) := by decide +kernel
theorem dX8_init_13 : decode cX8_init 13 = .ok (.bipush 11, 2) := by decide +kernel
theorem dX8_init_15 : decode cX8_init 15 = .ok (.newarray .int, 2) := by decide +kernel
theorem dX8_init_17 : decode cX8_init 17 = .ok (.putfield 15, 3) := by decide +kernel
theorem dX8_init_20 : decode cX8_init 20 = .ok (.aload_n 0, 1) := by decide +kernel
theorem dX8_init_21 : decode cX8_init 21 = .ok (.new 18, 3) := by decide +kernel
theorem dX8_init_24 : decode cX8_init 24 = .ok (.dup, 1) := by decide +kernel
theorem dX8_init_25 : decode cX8_init 25 = .ok (.invokespecial 20, 3) := by decide +kernel
theorem dX8_init_28 : decode cX8_init 28 = .ok (.putfield 21, 3) := by decide +kernel
theorem dX8_init_31 : decode cX8_init 31 = .ok (.aload_n 0, 1) := by decide +kernel
theorem dX8_init_32 : decode cX8_init 32 = .ok (.new 25, 3) := by decide +kernel
theorem dX8_init_35 : decode cX8_init 35 = .ok (.dup, 1) := by decide +kernel
theorem dX8_init_36 : decode cX8_init 36 = .ok (.invokespecial 27, 3) := by decide +kernel
theorem dX8_init_39 : decode cX8_init 39 = .ok (.putfield 28, 3) := by decide +kernel
theorem dX8_init_42 : decode cX8_init 42 = .ok (.return_, 1) := by decide +kernel
set_option maxHeartbeats 4000000 in
set_option maxRecDepth 100000 in
theorem c_X8_init {P : PP} {a : Nat} {S : List Nat} (ha : a ∈ pL P) (haK : pK P a = 8) (hr : ∀ k, pR P a k = none) (hg : xAG (a :: S) P) (z : zG P)  : CtrV yX8_init cX8_init 1 none ({ frames := 3, cells := 10, slots := 197, locals := 192 } : Room) 10 197 P [.ref a] (fun P2 => xAG S P2 ∧ xExt [a] P P2 ∧ zG P2) := by
  have D0 := yDn.zero ha hg z hr
  refine enV (lv := [(0, .ref a)]) (by decide) (Nat.le_of_ble_eq_true rfl) rfl (fun E D cy C Ci0 ret => ?_)
  have Ci9 := Ci0 rfl
  refine g_aload_n C dX8_init_0 rfl 0 rfl ?_
  refine g_objInit C oi_X8_3 oi_inst oi_code (by decide) (by decide) (Nat.le_of_ble_eq_true rfl) dX8_init_1 ?_
  refine g_aload_n C dX8_init_4 rfl 0 rfl ?_
  refine g_bipush (v := 12) C dX8_init_5 (by decide) ?_
  refine g_newI (N := 12) C ac_int (by decide) rfl (by decide) (by decide) (by decide) dX8_init_7 (fun q73 h74 => ?_)
  refine g_putFR C fi_X8_9 Ci9 ⟨_, rfl, rfl⟩ rfl ((xExt.new (S := []) h74).1 _ D0.mem).1 (((xExt.new (S := []) h74).1 _ D0.mem).2.1.trans (D0.kind.trans haK)) dX8_init_9 ?_
  have D75 := D0.arr (k := 0) h74 (show shp (pK P a) 0 = some (13, 12) by rw [haK]; rfl) (by decide) (by decide)
  generalize pSR (pNw P q73 13 12) a 0 (some q73) = P76 at D75 ⊢
  refine g_aload_n C dX8_init_12 rfl 0 rfl ?_
  refine g_bipush (v := 11) C dX8_init_13 (by decide) ?_
  refine g_newI (N := 11) C ac_int (by decide) rfl (by decide) (by decide) (by decide) dX8_init_15 (fun q77 h78 => ?_)
  refine g_putFR C fi_X8_15 Ci9 ⟨_, rfl, rfl⟩ rfl ((xExt.new (S := []) h78).1 _ D75.mem).1 (((xExt.new (S := []) h78).1 _ D75.mem).2.1.trans (D75.kind.trans haK)) dX8_init_17 ?_
  have D79 := D75.arr (k := 1) h78 (show shp (pK P a) 1 = some (13, 11) by rw [haK]; rfl) (by decide) (by decide)
  generalize pSR (pNw P76 q77 13 11) a 1 (some q77) = P80 at D79 ⊢
  refine g_aload_n C dX8_init_20 rfl 0 rfl ?_
  refine g_new C ni_X8_18 (by decide) (by decide) dX8_init_21 (fun q81 h82 => ?_)
  refine g_dup C dX8_init_24 rfl ?_
  refine g_callNV (ci := 0) (ret := none) (rest := [.ref q81, .ref a]) C mn_X8_20 [] (c_X5_init (S := a :: S) in_new K_new (fun _ => by rw [R_new]) (D79.1.2.1.new h82) (D79.2.1.new h82)) rfl rfl (by decide) (Nat.le_of_ble_eq_true rfl) (by decide) dX8_init_25 (fun Q84 h85 => ?_)
  refine g_putFR C fi_X8_21 Ci9 ⟨_, rfl, rfl⟩ rfl (((xExt.new (S := [q81]) h82).tr h85.2.1).1 _ D79.mem).1 ((((xExt.new (S := [q81]) h82).tr h85.2.1).1 _ D79.mem).2.1.trans (D79.kind.trans haK)) dX8_init_28 ?_
  have D86 := D79.obj (k := 2) h82 (by decide) h85 (show shp (pK P a) 2 = some (5, 0) by rw [haK]; rfl)
  generalize pSR Q84 a 2 (some q81) = P87 at D86 ⊢
  refine g_aload_n C dX8_init_31 rfl 0 rfl ?_
  refine g_new C ni_X8_25 (by decide) (by decide) dX8_init_32 (fun q88 h89 => ?_)
  refine g_dup C dX8_init_35 rfl ?_
  refine g_callNV (ci := 0) (ret := none) (rest := [.ref q88, .ref a]) C mn_X8_27 [] (c_X0_init (S := a :: S) in_new K_new (fun _ => by rw [R_new]) (D86.1.2.1.new h89) (D86.2.1.new h89)) rfl rfl (by decide) (Nat.le_of_ble_eq_true rfl) (by decide) dX8_init_36 (fun Q91 h92 => ?_)
  refine g_putFR C fi_X8_28 Ci9 ⟨_, rfl, rfl⟩ rfl (((xExt.new (S := [q88]) h89).tr h92.2.1).1 _ D86.mem).1 ((((xExt.new (S := [q88]) h89).tr h92.2.1).1 _ D86.mem).2.1.trans (D86.kind.trans haK)) dX8_init_39 ?_
  have D93 := D86.obj (k := 3) h89 (by decide) h92 (show shp (pK P a) 3 = some (0, 0) by rw [haK]; rfl)
  generalize pSR Q91 a 3 (some q88) = P94 at D93 ⊢
  exact ret _ _ _ _ _ dX8_init_42 (by decide) (by decide) (D93.done haK (by decide) (kin (by decide +kernel)))
theorem dX2_init_0 : decode cX2_init 0 = .ok (.aload_n 0, 1) := by decide +kernel
theorem dX2_init_1 : decode cX2_init 1 = .ok (.invokespecial 3, 3) := by decide +kernel
theorem dX2_init_4 : decode cX2_init 4 = .ok (.aload_n 0, 1) := by decide +kernel
theorem dX2_init_5 : decode cX2_init 5 = .ok (.bipush 11, 2) := by decide +kernel
theorem dX2_init_7 : decode cX2_init 7 = .ok (.newarray .int, 2) := by decide +kernel
theorem dX2_init_9 : decode cX2_init 9 = .ok (.putfield 9, 3) := by decide +kernel
theorem dX2_init_12 : decode cX2_init 12 = .ok (.aload_n 0, 1) := by decide +kernel
theorem dX2_init_13 : decode cX2_init 13 = .ok (.bipush 11, 2) := by decide +kernel
theorem dX2_init_15 : decode cX2_init 15 = .ok (.newarray .int, 2) := by decide +kernel
theorem dX2_init_17 : decode cX2_init 17 = .ok (.putfield 15, 3) := by decide +kernel
theorem dX2_init_20 : decode cX2_init 20 = .ok (.aload_n 0, 1) := by decide +kernel
theorem dX2_init_21 : decode cX2_init 21 = .ok (.new 18, 3) := by decide +kernel
theorem dX2_init_24 : decode cX2_init 24 = .ok (.dup, 1) := by decide +kernel
theorem dX2_init_25 : decode cX2_init 25 = .ok (.invokespecial 20, 3) := by decide +kernel
theorem dX2_init_28 : decode cX2_init 28 = .ok (.putfield 21, 3) := by decide +kernel
theorem dX2_init_31 : decode cX2_init 31 = .ok (.aload_n 0, 1) := by decide +kernel
theorem dX2_init_32 : decode cX2_init 32 = .ok (.new 18, 3) := by decide +kernel
theorem dX2_init_35 : decode cX2_init 35 = .ok (.dup, 1) := by decide +kernel
theorem dX2_init_36 : decode cX2_init 36 = .ok (.invokespecial 20, 3) := by decide +kernel
theorem dX2_init_39 : decode cX2_init 39 = .ok (.putfield 25, 3) := by decide +kernel
theorem dX2_init_42 : decode cX2_init 42 = .ok (.return_, 1) := by decide +kernel
set_option maxHeartbeats 4000000 in
set_option maxRecDepth 100000 in
theorem c_X2_init {P : PP} {a : Nat} {S : List Nat} (ha : a ∈ pL P) (haK : pK P a = 2) (hr : ∀ k, pR P a k = none) (hg : xAG (a :: S) P) (z : zG P)  : CtrV yX2_init cX2_init 1 none ({ frames := 3, cells := 8, slots := 110, locals := 192 } : Room) 8 110 P [.ref a] (fun P2 => xAG S P2 ∧ xExt [a] P P2 ∧ zG P2) := by
  have D0 := yDn.zero ha hg z hr
  refine enV (lv := [(0, .ref a)]) (by decide) (Nat.le_of_ble_eq_true rfl) rfl (fun E D cy C Ci0 ret => ?_)
  have Ci9 := Ci0 rfl
  refine g_aload_n C dX2_init_0 rfl 0 rfl ?_
  refine g_objInit C oi_X2_3 oi_inst oi_code (by decide) (by decide) (Nat.le_of_ble_eq_true rfl) dX2_init_1 ?_
  refine g_aload_n C dX2_init_4 rfl 0 rfl ?_
  refine g_bipush (v := 11) C dX2_init_5 (by decide) ?_
  refine g_newI (N := 11) C ac_int (by decide) rfl (by decide) (by decide) (by decide) dX2_init_7 (fun q95 h96 => ?_)
  refine g_putFR C fi_X2_9 Ci9 ⟨_, rfl, rfl⟩ rfl ((xExt.new (S := []) h96).1 _ D0.mem).1 (((xExt.new (S := []) h96).1 _ D0.mem).2.1.trans (D0.kind.trans haK)) dX2_init_9 ?_
  have D97 := D0.arr (k := 0) h96 (show shp (pK P a) 0 = some (13, 11) by rw [haK]; rfl) (by decide) (by decide)
  generalize pSR (pNw P q95 13 11) a 0 (some q95) = P98 at D97 ⊢
  refine g_aload_n C dX2_init_12 rfl 0 rfl ?_
  refine g_bipush (v := 11) C dX2_init_13 (by decide) ?_
  refine g_newI (N := 11) C ac_int (by decide) rfl (by decide) (by decide) (by decide) dX2_init_15 (fun q99 h100 => ?_)
  refine g_putFR C fi_X2_15 Ci9 ⟨_, rfl, rfl⟩ rfl ((xExt.new (S := []) h100).1 _ D97.mem).1 (((xExt.new (S := []) h100).1 _ D97.mem).2.1.trans (D97.kind.trans haK)) dX2_init_17 ?_
  have D101 := D97.arr (k := 1) h100 (show shp (pK P a) 1 = some (13, 11) by rw [haK]; rfl) (by decide) (by decide)
  generalize pSR (pNw P98 q99 13 11) a 1 (some q99) = P102 at D101 ⊢
  refine g_aload_n C dX2_init_20 rfl 0 rfl ?_
  refine g_new C ni_X2_18 (by decide) (by decide) dX2_init_21 (fun q103 h104 => ?_)
  refine g_dup C dX2_init_24 rfl ?_
  refine g_callNV (ci := 0) (ret := none) (rest := [.ref q103, .ref a]) C mn_X2_20 [] (c_X0_init (S := a :: S) in_new K_new (fun _ => by rw [R_new]) (D101.1.2.1.new h104) (D101.2.1.new h104)) rfl rfl (by decide) (Nat.le_of_ble_eq_true rfl) (by decide) dX2_init_25 (fun Q106 h107 => ?_)
  refine g_putFR C fi_X2_21 Ci9 ⟨_, rfl, rfl⟩ rfl (((xExt.new (S := [q103]) h104).tr h107.2.1).1 _ D101.mem).1 ((((xExt.new (S := [q103]) h104).tr h107.2.1).1 _ D101.mem).2.1.trans (D101.kind.trans haK)) dX2_init_28 ?_
  have D108 := D101.obj (k := 2) h104 (by decide) h107 (show shp (pK P a) 2 = some (0, 0) by rw [haK]; rfl)
  generalize pSR Q106 a 2 (some q103) = P109 at D108 ⊢
  refine g_aload_n C dX2_init_31 rfl 0 rfl ?_
  refine g_new C ni_X2_18 (by decide) (by decide) dX2_init_32 (fun q110 h111 => ?_)
  refine g_dup C dX2_init_35 rfl ?_
  refine g_callNV (ci := 0) (ret := none) (rest := [.ref q110, .ref a]) C mn_X2_20 [] (c_X0_init (S := a :: S) in_new K_new (fun _ => by rw [R_new]) (D108.1.2.1.new h111) (D108.2.1.new h111)) rfl rfl (by decide) (Nat.le_of_ble_eq_true rfl) (by decide) dX2_init_36 (fun Q113 h114 => ?_)
  refine g_putFR C fi_X2_25 Ci9 ⟨_, rfl, rfl⟩ rfl (((xExt.new (S := [q110]) h111).tr h114.2.1).1 _ D108.mem).1 ((((xExt.new (S := [q110]) h111).tr h114.2.1).1 _ D108.mem).2.1.trans (D108.kind.trans haK)) dX2_init_39 ?_
  have D115 := D108.obj (k := 3) h111 (by decide) h114 (show shp (pK P a) 3 = some (0, 0) by rw [haK]; rfl)
  generalize pSR Q113 a 3 (some q110) = P116 at D115 ⊢
  exact ret _ _ _ _ _ dX2_init_42 (by decide) (by decide) (D115.done haK (by decide) (kin (by decide +kernel)))
theorem dX1_init_0 : decode cX1_init 0 = .ok (.aload_n 0, 1) := by decide +kernel
theorem dX1_init_1 : decode cX1_init 1 = .ok (.invokespecial 3, 3) := by decide +kernel
theorem dX1_init_4 : decode cX1_init 4 = .ok (.aload_n 0, 1) := by decide +kernel
theorem dX1_init_5 : decode cX1_init 5 = .ok (.bipush 16, 2) := by decide +kernel
theorem dX1_init_7 : decode cX1_init 7 = .ok (.newarray .int, 2) := by decide +kernel
theorem dX1_init_9 : decode cX1_init 9 = .ok (.putfield 9, 3) := by decide +kernel
theorem dX1_init_12 : decode cX1_init 12 = .ok (.aload_n 0, 1) := by decide +kernel
theorem dX1_init_13 : decode cX1_init 13 = .ok (.new 15, 3) := by decide +kernel
theorem dX1_init_16 : decode cX1_init 16 = .ok (.dup, 1) := by decide +kernel
theorem dX1_init_17 : decode cX1_init 17 = .ok (.invokespecial 17, 3) := by decide +kernel
theorem dX1_init_20 : decode cX1_init 20 = .ok (.putfield 18, 3) := by decide +kernel
theorem dX1_init_23 : decode cX1_init 23 = .ok (.aload_n 0, 1) := by decide +kernel
theorem dX1_init_24 : decode cX1_init 24 = .ok (.bipush 60, 2) := by decide +kernel
theorem dX1_init_26 : decode cX1_init 26 = .ok (.newarray .int, 2) := by decide +kernel
theorem dX1_init_28 : decode cX1_init 28 = .ok (.putfield 22, 3) := by decide +kernel
theorem dX1_init_31 : decode cX1_init 31 = .ok (.aload_n 0, 1) := by decide +kernel
theorem dX1_init_32 : decode cX1_init 32 = .ok (.iload_n 1, 1) := by decide +kernel
theorem dX1_init_33 : decode cX1_init 33 = .ok (.putfield 25, 3) := by decide +kernel
theorem dX1_init_36 : decode cX1_init 36 = .ok (.return_, 1) := by decide +kernel
set_option maxHeartbeats 4000000 in
set_option maxRecDepth 100000 in
theorem c_X1_init {P : PP} {a : Nat} {i : Int32} {S : List Nat} (ha : a ∈ pL P) (haK : pK P a = 1) (hr : ∀ k, pR P a k = none) (hg : xAG (a :: S) P) (z : zG P) (hi : 0 ≤ i.toInt ∧ i.toInt ≤ 1) : CtrV yX1_init cX1_init 2 none ({ frames := 3, cells := 5, slots := 107, locals := 192 } : Room) 5 107 P [.ref a, .int i] (fun P2 => xAG S P2 ∧ xExt [a] P P2 ∧ zG P2) := by
  have D0 := yDn.zero ha hg z hr
  refine enV (lv := [(0, .ref a), (1, .int i)]) (by decide) (Nat.le_of_ble_eq_true rfl) rfl (fun E D cy C Ci0 ret => ?_)
  have Ci9 := Ci0 rfl
  refine g_aload_n C dX1_init_0 rfl 0 rfl ?_
  refine g_objInit C oi_X1_3 oi_inst oi_code (by decide) (by decide) (Nat.le_of_ble_eq_true rfl) dX1_init_1 ?_
  refine g_aload_n C dX1_init_4 rfl 0 rfl ?_
  refine g_bipush (v := 16) C dX1_init_5 (by decide) ?_
  refine g_newI (N := 16) C ac_int (by decide) rfl (by decide) (by decide) (by decide) dX1_init_7 (fun q117 h118 => ?_)
  refine g_putFR C fi_X1_9 Ci9 ⟨_, rfl, rfl⟩ rfl ((xExt.new (S := []) h118).1 _ D0.mem).1 (((xExt.new (S := []) h118).1 _ D0.mem).2.1.trans (D0.kind.trans haK)) dX1_init_9 ?_
  have D119 := D0.arr (k := 1) h118 (show shp (pK P a) 1 = some (13, 16) by rw [haK]; rfl) (by decide) (by decide)
  generalize pSR (pNw P q117 13 16) a 1 (some q117) = P120 at D119 ⊢
  refine g_aload_n C dX1_init_12 rfl 0 rfl ?_
  refine g_new C ni_X1_15 (by decide) (by decide) dX1_init_13 (fun q121 h122 => ?_)
  refine g_dup C dX1_init_16 rfl ?_
  refine g_callCV (ci := 0) (ret := none) (rest := [.ref q121, .ref a]) C mi_X1_17 [] (c_X3_init (S := a :: S) in_new K_new (fun _ => by rw [R_new]) (D119.1.2.1.new h122) (D119.2.1.new h122)) rfl rfl (by decide) (Nat.le_of_ble_eq_true rfl) (by decide) dX1_init_17 (fun Q124 h125 => ?_)
  refine g_putFR C fi_X1_18 Ci9 ⟨_, rfl, rfl⟩ rfl (((xExt.new (S := [q121]) h122).tr h125.2.1).1 _ D119.mem).1 ((((xExt.new (S := [q121]) h122).tr h125.2.1).1 _ D119.mem).2.1.trans (D119.kind.trans haK)) dX1_init_20 ?_
  have D126 := D119.obj (k := 2) h122 (by decide) h125 (show shp (pK P a) 2 = some (3, 0) by rw [haK]; rfl)
  generalize pSR Q124 a 2 (some q121) = P127 at D126 ⊢
  refine g_aload_n C dX1_init_23 rfl 0 rfl ?_
  refine g_bipush (v := 60) C dX1_init_24 (by decide) ?_
  refine g_newI (N := 60) C ac_int (by decide) rfl (by decide) (by decide) (by decide) dX1_init_26 (fun q128 h129 => ?_)
  refine g_putFR C fi_X1_22 Ci9 ⟨_, rfl, rfl⟩ rfl ((xExt.new (S := []) h129).1 _ D126.mem).1 (((xExt.new (S := []) h129).1 _ D126.mem).2.1.trans (D126.kind.trans haK)) dX1_init_28 ?_
  have D130 := D126.arr (k := 3) h129 (show shp (pK P a) 3 = some (13, 60) by rw [haK]; rfl) (by decide) (by decide)
  generalize pSR (pNw P127 q128 13 60) a 3 (some q128) = P131 at D130 ⊢
  refine g_aload_n C dX1_init_31 rfl 0 rfl ?_
  refine g_iload_n C dX1_init_32 rfl 1 rfl ?_
  refine g_putFI C fi_X1_25 Ci9 ⟨_, rfl, rfl⟩ rfl D130.mem (D130.kind.trans haK) dX1_init_33 ?_
  exact ret _ _ _ _ _ dX1_init_36 (by decide) (by decide) ((fun h9 : xAG S P131 ∧ xExt [a] P P131 ∧ zG P131 => (⟨h9.1.setI, h9.2.1.tr (xExt.setI List.mem_cons_self), h9.2.2.setI (by rw [D130.kind, haK]; exact rgOk.of rfl hi) (by rw [D130.kind, haK]; decide)⟩)) (D130.done haK (by decide) (kin (by decide +kernel))))
