/-- only numbers have changed, in the arrays of x's fields fs alone -/
def KF (fs : List Nat) (P P2 : PP) (x : Nat) : Prop := ∃ I2 : Nat → Nat → Int32, P2 = pWI P I2 (pJ P) ∧ ∀ f c, f ∉ fs → pR P x f = some c → I2 c = pI P c
theorem KF.rf {fs : List Nat} {P : PP} {x : Nat} : KF fs P P x := ⟨_, rfl, fun _ _ _ _ => rfl⟩
theorem KF.set {fs : List Nat} {P P2 : PP} {x a g k : Nat} {v : Int32} (h : KF fs P P2 x) (ha : pR P x g = some a) (hg : g ∈ fs) (inj : ∀ k k2 b, pR P x k = some b → pR P x k2 = some b → k = k2) : KF fs P (pSI P2 a k v) x := by
  obtain ⟨I2, rfl, h⟩ := h
  refine ⟨va_up I2 a (va_up (I2 a) k v), rfl, fun f c hf hc => ?_⟩
  have hne : c ≠ a := fun e => by
    subst e
    exact hf (inj f g c hc ha ▸ hg)
  rw [up_ne hne]; exact h f c hf hc
theorem KF.at {fs : List Nat} {P P2 : PP} {x f c : Nat} (h : KF fs P P2 x) (hf : f ∉ fs) (hc : pR P x f = some c) : pI P2 c = pI P c := by
  obtain ⟨I2, rfl, h⟩ := h
  exact h f c hf hc
theorem KF.tr {fs fs2 : List Nat} {P P2 P3 : PP} {x : Nat} (h : KF fs P P2 x) (h2 : KF fs2 P2 P3 x) (hs : ∀ k, k ∈ fs2 → k ∈ fs) : KF fs P P3 x := by
  obtain ⟨I2, rfl, h⟩ := h
  obtain ⟨I3, rfl, h2⟩ := h2
  exact ⟨I3, rfl, fun f c hf hc => (h2 f c (fun q => hf (hs _ q)) hc).trans (h f c hf hc)⟩
theorem dX12_forgetsDraw_0 : decode cX12_forgetsDraw 0 = .ok (.iconst 0, 1) := by decide +kernel
theorem dX12_forgetsDraw_1 : decode cX12_forgetsDraw 1 = .ok (.istore_n 2, 1) := by decide +kernel
theorem dX12_forgetsDraw_2 : decode cX12_forgetsDraw 2 = .ok (.iload_n 2, 1) := by decide +kernel
theorem dX12_forgetsDraw_3 : decode cX12_forgetsDraw 3 = .ok (.bipush 21, 2) := by decide +kernel
theorem dX12_forgetsDraw_5 : decode cX12_forgetsDraw 5 = .ok (.if_icmp .ge 21, 3) := by decide +kernel
theorem dX12_forgetsDraw_8 : decode cX12_forgetsDraw 8 = .ok (.aload_n 0, 1) := by decide +kernel
theorem dX12_forgetsDraw_9 : decode cX12_forgetsDraw 9 = .ok (.getfield 51, 3) := by decide +kernel
theorem dX12_forgetsDraw_12 : decode cX12_forgetsDraw 12 = .ok (.bipush 21, 2) := by decide +kernel
theorem dX12_forgetsDraw_14 : decode cX12_forgetsDraw 14 = .ok (.iload_n 1, 1) := by decide +kernel
theorem dX12_forgetsDraw_15 : decode cX12_forgetsDraw 15 = .ok (.imul, 1) := by decide +kernel
theorem dX12_forgetsDraw_16 : decode cX12_forgetsDraw 16 = .ok (.iload_n 2, 1) := by decide +kernel
theorem dX12_forgetsDraw_17 : decode cX12_forgetsDraw 17 = .ok (.iadd, 1) := by decide +kernel
theorem dX12_forgetsDraw_18 : decode cX12_forgetsDraw 18 = .ok (.iconst (-1), 1) := by decide +kernel
theorem dX12_forgetsDraw_19 : decode cX12_forgetsDraw 19 = .ok (.iastore, 1) := by decide +kernel
theorem dX12_forgetsDraw_20 : decode cX12_forgetsDraw 20 = .ok (.iinc 2 1, 3) := by decide +kernel
theorem dX12_forgetsDraw_23 : decode cX12_forgetsDraw 23 = .ok (.goto (-21), 3) := by decide +kernel
theorem dX12_forgetsDraw_26 : decode cX12_forgetsDraw 26 = .ok (.aload_n 0, 1) := by decide +kernel
theorem dX12_forgetsDraw_27 : decode cX12_forgetsDraw 27 = .ok (.getfield 54, 3) := by decide +kernel
theorem dX12_forgetsDraw_30 : decode cX12_forgetsDraw 30 = .ok (.iload_n 1, 1) := by decide +kernel
theorem dX12_forgetsDraw_31 : decode cX12_forgetsDraw 31 = .ok (.iconst 0, 1) := by decide +kernel
theorem dX12_forgetsDraw_32 : decode cX12_forgetsDraw 32 = .ok (.iastore, 1) := by decide +kernel
theorem dX12_forgetsDraw_33 : decode cX12_forgetsDraw 33 = .ok (.aload_n 0, 1) := by decide +kernel
theorem dX12_forgetsDraw_34 : decode cX12_forgetsDraw 34 = .ok (.getfield 57, 3) := by decide +kernel
theorem dX12_forgetsDraw_37 : decode cX12_forgetsDraw 37 = .ok (.iload_n 1, 1) := by decide +kernel
theorem dX12_forgetsDraw_38 : decode cX12_forgetsDraw 38 = .ok (.iconst 1, 1) := by decide +kernel
theorem dX12_forgetsDraw_39 : decode cX12_forgetsDraw 39 = .ok (.iastore, 1) := by decide +kernel
theorem dX12_forgetsDraw_40 : decode cX12_forgetsDraw 40 = .ok (.aload_n 0, 1) := by decide +kernel
theorem dX12_forgetsDraw_41 : decode cX12_forgetsDraw 41 = .ok (.getfield 60, 3) := by decide +kernel
theorem dX12_forgetsDraw_44 : decode cX12_forgetsDraw 44 = .ok (.iload_n 1, 1) := by decide +kernel
theorem dX12_forgetsDraw_45 : decode cX12_forgetsDraw 45 = .ok (.iconst 0, 1) := by decide +kernel
theorem dX12_forgetsDraw_46 : decode cX12_forgetsDraw 46 = .ok (.iastore, 1) := by decide +kernel
theorem dX12_forgetsDraw_47 : decode cX12_forgetsDraw 47 = .ok (.aload_n 0, 1) := by decide +kernel
theorem dX12_forgetsDraw_48 : decode cX12_forgetsDraw 48 = .ok (.getfield 66, 3) := by decide +kernel
theorem dX12_forgetsDraw_51 : decode cX12_forgetsDraw 51 = .ok (.iload_n 1, 1) := by decide +kernel
theorem dX12_forgetsDraw_52 : decode cX12_forgetsDraw 52 = .ok (.iconst 0, 1) := by decide +kernel
theorem dX12_forgetsDraw_53 : decode cX12_forgetsDraw 53 = .ok (.iastore, 1) := by decide +kernel
theorem dX12_forgetsDraw_54 : decode cX12_forgetsDraw 54 = .ok (.return_, 1) := by decide +kernel
set_option maxHeartbeats 4000000 in
set_option maxRecDepth 100000 in
theorem c_X12_forgetsDraw {P : PP} {x j : Nat} (hx : x ∈ pL P) (hxK : pK P x = 12) (ok : ∀ a, a ∈ pL P → xOk P a) (inj : ∀ k k2 b, pR P x k = some b → pR P x k2 = some b → k = k2) (hj : j < 3) : CtrV yX12_forgetsDraw cX12_forgetsDraw 3 none ({ frames := 1, cells := 0, slots := 0, locals := 64 } : Room) 0 0 P [.ref x, .int (nI j)] (fun P2 => KF [12, 13, 14, 15, 17] P P2 x) := by
  refine enV (lv := [(0, .ref x), (1, .int (nI j))]) (by decide) (Nat.le_of_ble_eq_true rfl) rfl (fun E D cy C Ci0 ret => ?_)
  refine g_iconst (v := 0) C dX12_forgetsDraw_0 (by decide) ?_
  refine g_istore_n (lv' := [(2, .int 0), (0, .ref x), (1, .int (nI j))]) C dX12_forgetsDraw_1 rfl (by decide) rfl ?_
  have lp589 : ∀ (n591 i584 : Nat), i584 + n591 = 21 → ∀ (I585 : Nat → Nat → Int32), (KF [12, 13, 14, 15, 17] P (pWI P I585 (pJ P)) x) → G E ({ frames := 1, cells := 0, slots := 0, locals := 64 } : Room) D cy 3 (pWI P I585 (pJ P)) 0 0 2 [(2, .int (nI i584)), (0, .ref x), (1, .int (nI j))] [] := by
    intro n591
    induction n591 with
    | zero =>
      intro i584 hi586 I585 hv587
      have ei588 : (nI i584).toInt = (i584 : Int) := ti_nI (by omega)
      refine g_iload_n C dX12_forgetsDraw_2 rfl 0 rfl ?_
      refine g_bipush (v := 21) C dX12_forgetsDraw_3 (by decide) ?_
      refine b_icmp_ge C 26 dX12_forgetsDraw_5 (by decide) (fun h592 => ?_) (fun h592 => ?_)
      · have h592 : 21 ≤ (nI i584).toInt := h592
        refine g_aload_n C dX12_forgetsDraw_26 rfl 1 rfl ?_
        obtain ⟨b593, h594⟩ := xFd.at (ok x hx) hxK 13 13 3 rfl
        refine g_getR C fi_X12_54 rfl h594.1 hx hxK dX12_forgetsDraw_27 ?_
        refine g_iload_n C dX12_forgetsDraw_30 rfl 2 rfl ?_
        refine g_iconst (v := 0) C dX12_forgetsDraw_31 (by decide) ?_
        refine g_iast (j := j) C h594.2.1 h594.2.2.1 (IX.inn h594.2.2.2 (by omega) (by decide)) dX12_forgetsDraw_32 ?_
        have k595 := hv587.set (k := j) (v := 0) h594.1 (by decide) inj
        refine g_aload_n C dX12_forgetsDraw_33 rfl 1 rfl ?_
        obtain ⟨b596, h597⟩ := xFd.at (ok x hx) hxK 14 13 3 rfl
        refine g_getR C fi_X12_57 rfl h597.1 hx hxK dX12_forgetsDraw_34 ?_
        refine g_iload_n C dX12_forgetsDraw_37 rfl 2 rfl ?_
        refine g_iconst (v := 1) C dX12_forgetsDraw_38 (by decide) ?_
        refine g_iast (j := j) C h597.2.1 h597.2.2.1 (IX.inn h597.2.2.2 (by omega) (by decide)) dX12_forgetsDraw_39 ?_
        have k598 := k595.set (k := j) (v := 1) h597.1 (by decide) inj
        refine g_aload_n C dX12_forgetsDraw_40 rfl 1 rfl ?_
        obtain ⟨b599, h600⟩ := xFd.at (ok x hx) hxK 15 13 3 rfl
        refine g_getR C fi_X12_60 rfl h600.1 hx hxK dX12_forgetsDraw_41 ?_
        refine g_iload_n C dX12_forgetsDraw_44 rfl 2 rfl ?_
        refine g_iconst (v := 0) C dX12_forgetsDraw_45 (by decide) ?_
        refine g_iast (j := j) C h600.2.1 h600.2.2.1 (IX.inn h600.2.2.2 (by omega) (by decide)) dX12_forgetsDraw_46 ?_
        have k601 := k598.set (k := j) (v := 0) h600.1 (by decide) inj
        refine g_aload_n C dX12_forgetsDraw_47 rfl 1 rfl ?_
        obtain ⟨b602, h603⟩ := xFd.at (ok x hx) hxK 17 13 3 rfl
        refine g_getR C fi_X12_66 rfl h603.1 hx hxK dX12_forgetsDraw_48 ?_
        refine g_iload_n C dX12_forgetsDraw_51 rfl 2 rfl ?_
        refine g_iconst (v := 0) C dX12_forgetsDraw_52 (by decide) ?_
        refine g_iast (j := j) C h603.2.1 h603.2.2.1 (IX.inn h603.2.2.2 (by omega) (by decide)) dX12_forgetsDraw_53 ?_
        have k604 := k601.set (k := j) (v := 0) h603.1 (by decide) inj
        exact ret _ _ _ _ _ dX12_forgetsDraw_54 (by decide) (by decide) (k604)
      · have h592 : (nI i584).toInt < 21 := h592
        omega
    | succ n591 ih590 =>
      intro i584 hi586 I585 hv587
      have ei588 : (nI i584).toInt = (i584 : Int) := ti_nI (by omega)
      refine g_iload_n C dX12_forgetsDraw_2 rfl 0 rfl ?_
      refine g_bipush (v := 21) C dX12_forgetsDraw_3 (by decide) ?_
      refine b_icmp_ge C 26 dX12_forgetsDraw_5 (by decide) (fun h605 => ?_) (fun h605 => ?_)
      · have h605 : 21 ≤ (nI i584).toInt := h605
        omega
      · have h605 : (nI i584).toInt < 21 := h605
        refine g_aload_n C dX12_forgetsDraw_8 rfl 1 rfl ?_
        obtain ⟨b606, h607⟩ := xFd.at (ok x hx) hxK 12 13 63 rfl
        refine g_getR C fi_X12_51 rfl h607.1 hx hxK dX12_forgetsDraw_9 ?_
        refine g_bipush (v := 21) C dX12_forgetsDraw_12 (by decide) ?_
        refine g_iload_n C dX12_forgetsDraw_14 rfl 2 rfl ?_
        refine g_imul C dX12_forgetsDraw_15 ?_
        rw [show ((21 : Int32) * (nI j)) = nI (21 * j) from pk_mul 21 j]
        refine g_iload_n C dX12_forgetsDraw_16 rfl 0 rfl ?_
        refine g_iadd C dX12_forgetsDraw_17 ?_
        rw [show (((nI (21 * j)) : Int32) + (nI i584)) = nI ((21 * j) + i584) from nI_add (21 * j) i584]
        refine g_iconst (v := (-1)) C dX12_forgetsDraw_18 (by decide) ?_
        refine g_iast (j := ((21 * j) + i584)) C h607.2.1 h607.2.2.1 (IX.inn h607.2.2.2 (by omega) (by decide)) dX12_forgetsDraw_19 ?_
        have k608 := hv587.set (k := ((21 * j) + i584)) (v := (-1)) h607.1 (by decide) inj
        refine g_iinc (v := (nI (i584 + 1))) (lv' := [(2, .int (nI (i584 + 1))), (0, .ref x), (1, .int (nI j))]) C dX12_forgetsDraw_20 0 rfl (nI_1 _) (by decide) rfl ?_
        refine g_goto C 2 dX12_forgetsDraw_23 (by decide) ?_
        exact ih590 (i584 + 1) (by omega) _ (k608)
  exact lp589 21 0 rfl _ ((KF.rf (fs := [12, 13, 14, 15, 17]) (P := P) (x := x)))
theorem dX12_forgetsMarks_0 : decode cX12_forgetsMarks 0 = .ok (.iconst 0, 1) := by decide +kernel
theorem dX12_forgetsMarks_1 : decode cX12_forgetsMarks 1 = .ok (.istore_n 1, 1) := by decide +kernel
theorem dX12_forgetsMarks_2 : decode cX12_forgetsMarks 2 = .ok (.iload_n 1, 1) := by decide +kernel
theorem dX12_forgetsMarks_3 : decode cX12_forgetsMarks 3 = .ok (.iconst 4, 1) := by decide +kernel
theorem dX12_forgetsMarks_4 : decode cX12_forgetsMarks 4 = .ok (.if_icmp .ge 16, 3) := by decide +kernel
theorem dX12_forgetsMarks_7 : decode cX12_forgetsMarks 7 = .ok (.aload_n 0, 1) := by decide +kernel
theorem dX12_forgetsMarks_8 : decode cX12_forgetsMarks 8 = .ok (.getfield 87, 3) := by decide +kernel
theorem dX12_forgetsMarks_11 : decode cX12_forgetsMarks 11 = .ok (.iload_n 1, 1) := by decide +kernel
theorem dX12_forgetsMarks_12 : decode cX12_forgetsMarks 12 = .ok (.iconst 0, 1) := by decide +kernel
theorem dX12_forgetsMarks_13 : decode cX12_forgetsMarks 13 = .ok (.bastore, 1) := by decide +kernel
theorem dX12_forgetsMarks_14 : decode cX12_forgetsMarks 14 = .ok (.iinc 1 1, 3) := by decide +kernel
theorem dX12_forgetsMarks_17 : decode cX12_forgetsMarks 17 = .ok (.goto (-15), 3) := by decide +kernel
theorem dX12_forgetsMarks_20 : decode cX12_forgetsMarks 20 = .ok (.return_, 1) := by decide +kernel
set_option maxHeartbeats 4000000 in
set_option maxRecDepth 100000 in
theorem c_X12_forgetsMarks {P : PP} {x : Nat} (hx : x ∈ pL P) (hxK : pK P x = 12) (ok : ∀ a, a ∈ pL P → xOk P a) (inj : ∀ k k2 b, pR P x k = some b → pR P x k2 = some b → k = k2)  : CtrV yX12_forgetsMarks cX12_forgetsMarks 2 none ({ frames := 1, cells := 0, slots := 0, locals := 64 } : Room) 0 0 P [.ref x] (fun P2 => KF [26] P P2 x) := by
  refine enV (lv := [(0, .ref x)]) (by decide) (Nat.le_of_ble_eq_true rfl) rfl (fun E D cy C Ci0 ret => ?_)
  refine g_iconst (v := 0) C dX12_forgetsMarks_0 (by decide) ?_
  refine g_istore_n (lv' := [(1, .int 0), (0, .ref x)]) C dX12_forgetsMarks_1 rfl (by decide) rfl ?_
  have lp614 : ∀ (n616 i609 : Nat), i609 + n616 = 4 → ∀ (I610 : Nat → Nat → Int32), (KF [26] P (pWI P I610 (pJ P)) x) → G E ({ frames := 1, cells := 0, slots := 0, locals := 64 } : Room) D cy 2 (pWI P I610 (pJ P)) 0 0 2 [(1, .int (nI i609)), (0, .ref x)] [] := by
    intro n616
    induction n616 with
    | zero =>
      intro i609 hi611 I610 hv612
      have ei613 : (nI i609).toInt = (i609 : Int) := ti_nI (by omega)
      refine g_iload_n C dX12_forgetsMarks_2 rfl 0 rfl ?_
      refine g_iconst (v := 4) C dX12_forgetsMarks_3 (by decide) ?_
      refine b_icmp_ge C 20 dX12_forgetsMarks_4 (by decide) (fun h617 => ?_) (fun h617 => ?_)
      · have h617 : 4 ≤ (nI i609).toInt := h617
        exact ret _ _ _ _ _ dX12_forgetsMarks_20 (by decide) (by decide) (hv612)
      · have h617 : (nI i609).toInt < 4 := h617
        omega
    | succ n616 ih615 =>
      intro i609 hi611 I610 hv612
      have ei613 : (nI i609).toInt = (i609 : Int) := ti_nI (by omega)
      refine g_iload_n C dX12_forgetsMarks_2 rfl 0 rfl ?_
      refine g_iconst (v := 4) C dX12_forgetsMarks_3 (by decide) ?_
      refine b_icmp_ge C 20 dX12_forgetsMarks_4 (by decide) (fun h618 => ?_) (fun h618 => ?_)
      · have h618 : 4 ≤ (nI i609).toInt := h618
        omega
      · have h618 : (nI i609).toInt < 4 := h618
        refine g_aload_n C dX12_forgetsMarks_7 rfl 1 rfl ?_
        obtain ⟨b619, h620⟩ := xFd.at (ok x hx) hxK 26 15 4 rfl
        refine g_getR C fi_X12_87 rfl h620.1 hx hxK dX12_forgetsMarks_8 ?_
        refine g_iload_n C dX12_forgetsMarks_11 rfl 0 rfl ?_
        refine g_iconst (v := 0) C dX12_forgetsMarks_12 (by decide) ?_
        refine g_zast (j := i609) C h620.2.1 h620.2.2.1 (IX.inn h620.2.2.2 (by omega) (by decide)) (Or.inl rfl) dX12_forgetsMarks_13 ?_
        have k621 := hv612.set (k := i609) (v := 0) h620.1 (by decide) inj
        refine g_iinc (v := (nI (i609 + 1))) (lv' := [(1, .int (nI (i609 + 1))), (0, .ref x)]) C dX12_forgetsMarks_14 0 rfl (nI_1 _) (by decide) rfl ?_
        refine g_goto C 2 dX12_forgetsMarks_17 (by decide) ?_
        exact ih615 (i609 + 1) (by omega) _ (k621)
  exact lp614 4 0 rfl _ ((KF.rf (fs := [26]) (P := P) (x := x)))
theorem dX12_book_0 : decode cX12_book 0 = .ok (.aload_n 0, 1) := by decide +kernel
theorem dX12_book_1 : decode cX12_book 1 = .ok (.iconst 0, 1) := by decide +kernel
theorem dX12_book_2 : decode cX12_book 2 = .ok (.putfield 1, 3) := by decide +kernel
theorem dX12_book_5 : decode cX12_book 5 = .ok (.iload_n 1, 1) := by decide +kernel
theorem dX12_book_6 : decode cX12_book 6 = .ok (.iconst 0, 1) := by decide +kernel
theorem dX12_book_7 : decode cX12_book 7 = .ok (.iconst 1, 1) := by decide +kernel
theorem dX12_book_8 : decode cX12_book 8 = .ok (.invokestatic 178, 3) := by decide +kernel
theorem dX12_book_11 : decode cX12_book 11 = .ok (.ifCond .eq 13, 3) := by decide +kernel
theorem dX12_book_14 : decode cX12_book 14 = .ok (.iload_n 2, 1) := by decide +kernel
theorem dX12_book_15 : decode cX12_book 15 = .ok (.iconst 1, 1) := by decide +kernel
theorem dX12_book_16 : decode cX12_book 16 = .ok (.bipush 16, 2) := by decide +kernel
theorem dX12_book_18 : decode cX12_book 18 = .ok (.invokestatic 178, 3) := by decide +kernel
theorem dX12_book_21 : decode cX12_book 21 = .ok (.ifCond .ne 5, 3) := by decide +kernel
theorem dX12_book_24 : decode cX12_book 24 = .ok (.iconst 0, 1) := by decide +kernel
theorem dX12_book_25 : decode cX12_book 25 = .ok (.ireturn, 1) := by decide +kernel
theorem dX12_book_26 : decode cX12_book 26 = .ok (.aload_n 0, 1) := by decide +kernel
theorem dX12_book_27 : decode cX12_book 27 = .ok (.getfield 45, 3) := by decide +kernel
theorem dX12_book_30 : decode cX12_book 30 = .ok (.iload_n 1, 1) := by decide +kernel
theorem dX12_book_31 : decode cX12_book 31 = .ok (.iload_n 2, 1) := by decide +kernel
theorem dX12_book_32 : decode cX12_book 32 = .ok (.iastore, 1) := by decide +kernel
theorem dX12_book_33 : decode cX12_book 33 = .ok (.iconst 0, 1) := by decide +kernel
theorem dX12_book_34 : decode cX12_book 34 = .ok (.istore_n 3, 1) := by decide +kernel
theorem dX12_book_35 : decode cX12_book 35 = .ok (.iload_n 3, 1) := by decide +kernel
theorem dX12_book_36 : decode cX12_book 36 = .ok (.bipush 16, 2) := by decide +kernel
theorem dX12_book_38 : decode cX12_book 38 = .ok (.if_icmp .ge 21, 3) := by decide +kernel
theorem dX12_book_41 : decode cX12_book 41 = .ok (.aload_n 0, 1) := by decide +kernel
theorem dX12_book_42 : decode cX12_book 42 = .ok (.getfield 48, 3) := by decide +kernel
theorem dX12_book_45 : decode cX12_book 45 = .ok (.bipush 16, 2) := by decide +kernel
theorem dX12_book_47 : decode cX12_book 47 = .ok (.iload_n 1, 1) := by decide +kernel
theorem dX12_book_48 : decode cX12_book 48 = .ok (.imul, 1) := by decide +kernel
theorem dX12_book_49 : decode cX12_book 49 = .ok (.iload_n 3, 1) := by decide +kernel
theorem dX12_book_50 : decode cX12_book 50 = .ok (.iadd, 1) := by decide +kernel
theorem dX12_book_51 : decode cX12_book 51 = .ok (.iconst 0, 1) := by decide +kernel
theorem dX12_book_52 : decode cX12_book 52 = .ok (.iastore, 1) := by decide +kernel
theorem dX12_book_53 : decode cX12_book 53 = .ok (.iinc 3 1, 3) := by decide +kernel
theorem dX12_book_56 : decode cX12_book 56 = .ok (.goto (-21), 3) := by decide +kernel
theorem dX12_book_59 : decode cX12_book 59 = .ok (.aload_n 0, 1) := by decide +kernel
theorem dX12_book_60 : decode cX12_book 60 = .ok (.iload_n 1, 1) := by decide +kernel
theorem dX12_book_61 : decode cX12_book 61 = .ok (.invokevirtual 182, 3) := by decide +kernel
theorem dX12_book_64 : decode cX12_book 64 = .ok (.iconst 0, 1) := by decide +kernel
theorem dX12_book_65 : decode cX12_book 65 = .ok (.istore_n 3, 1) := by decide +kernel
theorem dX12_book_66 : decode cX12_book 66 = .ok (.iload_n 3, 1) := by decide +kernel
theorem dX12_book_67 : decode cX12_book 67 = .ok (.iconst 4, 1) := by decide +kernel
theorem dX12_book_68 : decode cX12_book 68 = .ok (.if_icmp .ge 68, 3) := by decide +kernel
theorem dX12_book_71 : decode cX12_book 71 = .ok (.aload_n 0, 1) := by decide +kernel
theorem dX12_book_72 : decode cX12_book 72 = .ok (.getfield 69, 3) := by decide +kernel
theorem dX12_book_75 : decode cX12_book 75 = .ok (.iload_n 3, 1) := by decide +kernel
theorem dX12_book_76 : decode cX12_book 76 = .ok (.iaload, 1) := by decide +kernel
theorem dX12_book_77 : decode cX12_book 77 = .ok (.iconst 1, 1) := by decide +kernel
theorem dX12_book_78 : decode cX12_book 78 = .ok (.isub, 1) := by decide +kernel
theorem dX12_book_79 : decode cX12_book 79 = .ok (.istore 4, 2) := by decide +kernel
theorem dX12_book_81 : decode cX12_book 81 = .ok (.iload 4, 2) := by decide +kernel
theorem dX12_book_83 : decode cX12_book 83 = .ok (.ifCond .lt 47, 3) := by decide +kernel
theorem dX12_book_130 : decode cX12_book 130 = .ok (.iinc 3 1, 3) := by decide +kernel
theorem dX12_book_133 : decode cX12_book 133 = .ok (.goto (-67), 3) := by decide +kernel
theorem dX12_book_136 : decode cX12_book 136 = .ok (.aload_n 0, 1) := by decide +kernel
theorem dX12_book_137 : decode cX12_book 137 = .ok (.invokevirtual 189, 3) := by decide +kernel
theorem dX12_book_140 : decode cX12_book 140 = .ok (.iconst 1, 1) := by decide +kernel
theorem dX12_book_141 : decode cX12_book 141 = .ok (.ireturn, 1) := by decide +kernel
set_option maxHeartbeats 4000000 in
set_option maxRecDepth 100000 in
theorem c_X12_book {P : PP} {x : Nat} {b : Int32} {n : Int32} (F : FM P x) : CtrI yX12_book cX12_book 5 (some Jvm.ClassFile.FieldType.boolean) ({ frames := 5, cells := 0, slots := 0, locals := 320 } : Room) 0 0 P [.ref x, .int b, .int n] (fun r _ => (r = 1 ∧ (0 ≤ b.toInt ∧ b.toInt < 2 ∧ 1 ≤ n.toInt ∧ n.toInt ≤ 16)) ∨ (r = 0 ∧ ¬ (0 ≤ b.toInt ∧ b.toInt < 2 ∧ 1 ≤ n.toInt ∧ n.toInt ≤ 16))) := by
  refine enI (lv := [(0, .ref x), (1, .int b), (2, .int n)]) (by decide) (Nat.le_of_ble_eq_true rfl) rfl (fun E D cy C Ci0 ret => ?_)
  refine g_aload_n C dX12_book_0 rfl 0 rfl ?_
  refine g_iconst (v := 0) C dX12_book_1 (by decide) ?_
  refine g_putI C fi_X12_1 rfl F.1 F.2.1 dX12_book_2 ?_
  have F := F.thrown (v := 0)
  generalize pSI P x 0 0 = P1 at F ⊢
  obtain ⟨hx, hxK, ok, inj, zp, zs, zm, zt, zo, zh⟩ := F
  refine g_iload_n C dX12_book_5 rfl 1 rfl ?_
  refine g_iconst (v := 0) C dX12_book_6 (by decide) ?_
  refine g_iconst (v := 1) C dX12_book_7 (by decide) ?_
  refine g_callSI (b := 0) (ci := 0) (rest := []) C ms_X12_178 [.int b, .int 0, .int 1] (c_X12_within) rfl rfl (by decide) (Nat.le_of_ble_eq_true rfl) (by decide) dX12_book_8 (fun r622 Q623 h624 => ?_)
  obtain ⟨rfl, h624⟩ := h624
  rcases h624 with ⟨rfl, h624⟩ | ⟨rfl, h624⟩
  · have h624 : 0 ≤ b.toInt ∧ b.toInt ≤ 1 := h624
    refine b_if_eq C 24 dX12_book_11 (by decide) (fun h => absurd h (by decide)) (fun _ => ?_)
    refine g_iload_n C dX12_book_14 rfl 2 rfl ?_
    refine g_iconst (v := 1) C dX12_book_15 (by decide) ?_
    refine g_bipush (v := 16) C dX12_book_16 (by decide) ?_
    refine g_callSI (b := 0) (ci := 0) (rest := []) C ms_X12_178 [.int n, .int 1, .int 16] (c_X12_within) rfl rfl (by decide) (Nat.le_of_ble_eq_true rfl) (by decide) dX12_book_18 (fun r625 Q626 h627 => ?_)
    obtain ⟨rfl, h627⟩ := h627
    rcases h627 with ⟨rfl, h627⟩ | ⟨rfl, h627⟩
    · have h627 : 1 ≤ n.toInt ∧ n.toInt ≤ 16 := h627
      refine b_if_ne C 26 dX12_book_21 (by decide) (fun _ => ?_) (fun h => absurd h (by decide))
      obtain ⟨j628, h629, rfl⟩ := ix_of (x := b) (n := 2) (by omega) (by omega) (by decide)
      have ej628 : (nI j628).toInt = (j628 : Int) := ti_nI (by omega)
      refine g_aload_n C dX12_book_26 rfl 0 rfl ?_
      obtain ⟨b630, h631⟩ := xFd.at (ok x hx) hxK 10 13 2 rfl
      refine g_getR C fi_X12_45 rfl h631.1 hx hxK dX12_book_27 ?_
      refine g_iload_n C dX12_book_30 rfl 1 rfl ?_
      refine g_iload_n C dX12_book_31 rfl 2 rfl ?_
      refine g_iast (j := j628) C h631.2.1 h631.2.2.1 (IX.inn h631.2.2.2 (by omega) (by decide)) dX12_book_32 ?_
      have k632 := (KF.rf (fs := [10, 11, 12, 13, 14, 15, 17, 26]) (P := P1) (x := x)).set (k := j628) (v := n) h631.1 (by decide) inj
      refine g_iconst (v := 0) C dX12_book_33 (by decide) ?_
      refine g_istore_n (lv' := [(3, .int 0), (0, .ref x), (1, .int (nI j628)), (2, .int n)]) C dX12_book_34 rfl (by decide) rfl ?_
      have lp638 : ∀ (n640 i633 : Nat), i633 + n640 = 16 → ∀ (I634 : Nat → Nat → Int32), (KF [10, 11, 12, 13, 14, 15, 17, 26] P1 (pWI P1 I634 (pJ P1)) x) → G E ({ frames := 5, cells := 0, slots := 0, locals := 320 } : Room) D cy 5 (pWI P1 I634 (pJ P1)) 0 0 35 [(3, .int (nI i633)), (0, .ref x), (1, .int (nI j628)), (2, .int n)] [] := by
        intro n640
        induction n640 with
        | zero =>
          intro i633 hi635 I634 hv636
          have ei637 : (nI i633).toInt = (i633 : Int) := ti_nI (by omega)
          refine g_iload_n C dX12_book_35 rfl 0 rfl ?_
          refine g_bipush (v := 16) C dX12_book_36 (by decide) ?_
          refine b_icmp_ge C 59 dX12_book_38 (by decide) (fun h641 => ?_) (fun h641 => ?_)
          · have h641 : 16 ≤ (nI i633).toInt := h641
            refine g_aload_n C dX12_book_59 rfl 1 rfl ?_
            refine g_iload_n C dX12_book_60 rfl 2 rfl ?_
            refine g_callVV (rest := []) C mv_X12_182 [.int (nI j628)] (c_X12_forgetsDraw (j := j628) hx hxK ok inj (by omega)) hx hxK rfl rfl (by decide) (Nat.le_of_ble_eq_true rfl) (by decide) dX12_book_61 (fun Q643 h644 => ?_)
            have k645 := hv636.tr h644 (by decide)
            obtain ⟨I646, rfl, -⟩ := h644
            refine g_iconst (v := 0) C dX12_book_64 (by decide) ?_
            refine g_istore_n (lv' := [(3, .int 0), (0, .ref x), (1, .int (nI j628)), (2, .int n)]) C dX12_book_65 rfl (by decide) rfl ?_
            have lp652 : ∀ (n654 i647 : Nat), i647 + n654 = 4 → ∀ (I648 : Nat → Nat → Int32), (KF [10, 11, 12, 13, 14, 15, 17, 26] P1 (pWI P1 I648 (pJ P1)) x) → G E ({ frames := 5, cells := 0, slots := 0, locals := 320 } : Room) D cy 5 (pWI P1 I648 (pJ P1)) 0 0 66 [(3, .int (nI i647)), (0, .ref x), (1, .int (nI j628)), (2, .int n)] [] := by
              intro n654
              induction n654 with
              | zero =>
                intro i647 hi649 I648 hv650
                have ei651 : (nI i647).toInt = (i647 : Int) := ti_nI (by omega)
                refine g_iload_n C dX12_book_66 rfl 0 rfl ?_
                refine g_iconst (v := 4) C dX12_book_67 (by decide) ?_
                refine b_icmp_ge C 136 dX12_book_68 (by decide) (fun h655 => ?_) (fun h655 => ?_)
                · have h655 : 4 ≤ (nI i647).toInt := h655
                  refine g_aload_n C dX12_book_136 rfl 1 rfl ?_
                  refine g_callVV (rest := []) C mv_X12_189 [] (c_X12_forgetsMarks hx hxK ok inj) hx hxK rfl rfl (by decide) (Nat.le_of_ble_eq_true rfl) (by decide) dX12_book_137 (fun Q657 h658 => ?_)
                  have k659 := hv650.tr h658 (by decide)
                  obtain ⟨I660, rfl, -⟩ := h658
                  refine g_iconst (v := 1) C dX12_book_140 (by decide) ?_
                  exact ret _ _ _ _ _ _ dX12_book_141 rfl (by decide) (by decide) (Or.inl ⟨rfl, by first | omega | (intro h9; omega)⟩)
                · have h655 : (nI i647).toInt < 4 := h655
                  omega
              | succ n654 ih653 =>
                intro i647 hi649 I648 hv650
                have ei651 : (nI i647).toInt = (i647 : Int) := ti_nI (by omega)
                refine g_iload_n C dX12_book_66 rfl 0 rfl ?_
                refine g_iconst (v := 4) C dX12_book_67 (by decide) ?_
                refine b_icmp_ge C 136 dX12_book_68 (by decide) (fun h661 => ?_) (fun h661 => ?_)
                · have h661 : 4 ≤ (nI i647).toInt := h661
                  omega
                · have h661 : (nI i647).toInt < 4 := h661
                  refine g_aload_n C dX12_book_71 rfl 1 rfl ?_
                  obtain ⟨b662, h663⟩ := xFd.at (ok x hx) hxK 20 13 20 rfl
                  refine g_getR C fi_X12_69 rfl h663.1 hx hxK dX12_book_72 ?_
                  refine g_iload_n C dX12_book_75 rfl 0 rfl ?_
                  refine g_iald (j := i647) C h663.2.1 h663.2.2.1 (IX.inn h663.2.2.2 (by omega) (by decide)) dX12_book_76 ?_
                  rw [show pI (pWI P1 I648 (pJ P1)) b662 i647 = 0 from by rw [hv650.at (f := 20) (by decide) h663.1]; exact zs _ h663.1 _]
                  refine g_iconst (v := 1) C dX12_book_77 (by decide) ?_
                  refine g_isub C dX12_book_78 ?_
                  rw [show ((0 : Int32) - 1) = (-1) from rfl]
                  refine g_istore (lv' := [(4, .int (-1)), (3, .int (nI i647)), (0, .ref x), (1, .int (nI j628)), (2, .int n)]) C dX12_book_79 (by decide) rfl ?_
                  refine g_iload C dX12_book_81 0 rfl ?_
                  refine b_if_lt C 130 dX12_book_83 (by decide) (fun _ => ?_) (fun h => absurd h (by decide))
                  refine g_iinc (v := (nI (i647 + 1))) (lv' := [(3, .int (nI (i647 + 1))), (4, .int (-1)), (0, .ref x), (1, .int (nI j628)), (2, .int n)]) C dX12_book_130 1 rfl (nI_1 _) (by decide) rfl ?_
                  refine g_goto C 66 dX12_book_133 (by decide) ?_
                  refine g_lv (lv' := [(3, .int (nI (i647 + 1))), (0, .ref x), (1, .int (nI j628)), (2, .int n)]) [0, 2, 3, 4] rfl ?_
                  exact ih653 (i647 + 1) (by omega) _ (hv650)
            exact lp652 4 0 rfl _ (k645)
          · have h641 : (nI i633).toInt < 16 := h641
            omega
        | succ n640 ih639 =>
          intro i633 hi635 I634 hv636
          have ei637 : (nI i633).toInt = (i633 : Int) := ti_nI (by omega)
          refine g_iload_n C dX12_book_35 rfl 0 rfl ?_
          refine g_bipush (v := 16) C dX12_book_36 (by decide) ?_
          refine b_icmp_ge C 59 dX12_book_38 (by decide) (fun h664 => ?_) (fun h664 => ?_)
          · have h664 : 16 ≤ (nI i633).toInt := h664
            omega
          · have h664 : (nI i633).toInt < 16 := h664
            refine g_aload_n C dX12_book_41 rfl 1 rfl ?_
            obtain ⟨b665, h666⟩ := xFd.at (ok x hx) hxK 11 13 32 rfl
            refine g_getR C fi_X12_48 rfl h666.1 hx hxK dX12_book_42 ?_
            refine g_bipush (v := 16) C dX12_book_45 (by decide) ?_
            refine g_iload_n C dX12_book_47 rfl 2 rfl ?_
            refine g_imul C dX12_book_48 ?_
            rw [show ((16 : Int32) * (nI j628)) = nI (16 * j628) from pk_mul 16 j628]
            refine g_iload_n C dX12_book_49 rfl 0 rfl ?_
            refine g_iadd C dX12_book_50 ?_
            rw [show (((nI (16 * j628)) : Int32) + (nI i633)) = nI ((16 * j628) + i633) from nI_add (16 * j628) i633]
            refine g_iconst (v := 0) C dX12_book_51 (by decide) ?_
            refine g_iast (j := ((16 * j628) + i633)) C h666.2.1 h666.2.2.1 (IX.inn h666.2.2.2 (by omega) (by decide)) dX12_book_52 ?_
            have k667 := hv636.set (k := ((16 * j628) + i633)) (v := 0) h666.1 (by decide) inj
            refine g_iinc (v := (nI (i633 + 1))) (lv' := [(3, .int (nI (i633 + 1))), (0, .ref x), (1, .int (nI j628)), (2, .int n)]) C dX12_book_53 0 rfl (nI_1 _) (by decide) rfl ?_
            refine g_goto C 35 dX12_book_56 (by decide) ?_
            exact ih639 (i633 + 1) (by omega) _ (k667)
      exact lp638 16 0 rfl _ (k632)
    · have h627 : ¬ (1 ≤ n.toInt ∧ n.toInt ≤ 16) := h627
      refine b_if_ne C 26 dX12_book_21 (by decide) (fun h => absurd h (by decide)) (fun _ => ?_)
      refine g_iconst (v := 0) C dX12_book_24 (by decide) ?_
      exact ret _ _ _ _ _ _ dX12_book_25 rfl (by decide) (by decide) (Or.inr ⟨rfl, by first | omega | (intro h9; omega)⟩)
  · have h624 : ¬ (0 ≤ b.toInt ∧ b.toInt ≤ 1) := h624
    refine b_if_eq C 24 dX12_book_11 (by decide) (fun _ => ?_) (fun h => absurd h (by decide))
    refine g_iconst (v := 0) C dX12_book_24 (by decide) ?_
    exact ret _ _ _ _ _ _ dX12_book_25 rfl (by decide) (by decide) (Or.inr ⟨rfl, by first | omega | (intro h9; omega)⟩)
theorem dX12_quarter_0 : decode cX12_quarter 0 = .ok (.aload_n 0, 1) := by decide +kernel
theorem dX12_quarter_1 : decode cX12_quarter 1 = .ok (.iconst 0, 1) := by decide +kernel
theorem dX12_quarter_2 : decode cX12_quarter 2 = .ok (.putfield 1, 3) := by decide +kernel
theorem dX12_quarter_5 : decode cX12_quarter 5 = .ok (.iload_n 1, 1) := by decide +kernel
theorem dX12_quarter_6 : decode cX12_quarter 6 = .ok (.invokestatic 278, 3) := by decide +kernel
theorem dX12_quarter_9 : decode cX12_quarter 9 = .ok (.ifCond .eq 24, 3) := by decide +kernel
theorem dX12_quarter_12 : decode cX12_quarter 12 = .ok (.iload_n 2, 1) := by decide +kernel
theorem dX12_quarter_13 : decode cX12_quarter 13 = .ok (.iconst 0, 1) := by decide +kernel
theorem dX12_quarter_14 : decode cX12_quarter 14 = .ok (.bipush 100, 2) := by decide +kernel
theorem dX12_quarter_16 : decode cX12_quarter 16 = .ok (.invokestatic 178, 3) := by decide +kernel
theorem dX12_quarter_19 : decode cX12_quarter 19 = .ok (.ifCond .eq 14, 3) := by decide +kernel
theorem dX12_quarter_22 : decode cX12_quarter 22 = .ok (.iload_n 3, 1) := by decide +kernel
theorem dX12_quarter_23 : decode cX12_quarter 23 = .ok (.iconst 0, 1) := by decide +kernel
theorem dX12_quarter_24 : decode cX12_quarter 24 = .ok (.sipush 999, 3) := by decide +kernel
theorem dX12_quarter_27 : decode cX12_quarter 27 = .ok (.invokestatic 178, 3) := by decide +kernel
theorem dX12_quarter_30 : decode cX12_quarter 30 = .ok (.ifCond .ne 5, 3) := by decide +kernel
theorem dX12_quarter_33 : decode cX12_quarter 33 = .ok (.iconst 0, 1) := by decide +kernel
theorem dX12_quarter_34 : decode cX12_quarter 34 = .ok (.ireturn, 1) := by decide +kernel
theorem dX12_quarter_35 : decode cX12_quarter 35 = .ok (.aload_n 0, 1) := by decide +kernel
theorem dX12_quarter_36 : decode cX12_quarter 36 = .ok (.getfield 127, 3) := by decide +kernel
theorem dX12_quarter_39 : decode cX12_quarter 39 = .ok (.iload_n 1, 1) := by decide +kernel
theorem dX12_quarter_40 : decode cX12_quarter 40 = .ok (.iload_n 2, 1) := by decide +kernel
theorem dX12_quarter_41 : decode cX12_quarter 41 = .ok (.iastore, 1) := by decide +kernel
theorem dX12_quarter_42 : decode cX12_quarter 42 = .ok (.aload_n 0, 1) := by decide +kernel
theorem dX12_quarter_43 : decode cX12_quarter 43 = .ok (.getfield 130, 3) := by decide +kernel
theorem dX12_quarter_46 : decode cX12_quarter 46 = .ok (.iload_n 1, 1) := by decide +kernel
theorem dX12_quarter_47 : decode cX12_quarter 47 = .ok (.iload_n 3, 1) := by decide +kernel
theorem dX12_quarter_48 : decode cX12_quarter 48 = .ok (.iastore, 1) := by decide +kernel
theorem dX12_quarter_49 : decode cX12_quarter 49 = .ok (.iconst 1, 1) := by decide +kernel
theorem dX12_quarter_50 : decode cX12_quarter 50 = .ok (.ireturn, 1) := by decide +kernel
set_option maxHeartbeats 4000000 in
set_option maxRecDepth 100000 in
theorem c_X12_quarter {P : PP} {x : Nat} {q : Int32} {b : Int32} {n : Int32} (F : FM P x) : CtrI yX12_quarter cX12_quarter 4 (some Jvm.ClassFile.FieldType.boolean) ({ frames := 5, cells := 0, slots := 0, locals := 320 } : Room) 0 0 P [.ref x, .int q, .int b, .int n] (fun r _ => (r = 1 ∧ (0 ≤ q.toInt ∧ q.toInt < 4 ∧ 0 ≤ b.toInt ∧ b.toInt ≤ 100 ∧ 0 ≤ n.toInt ∧ n.toInt ≤ 999)) ∨ (r = 0 ∧ ¬ (0 ≤ q.toInt ∧ q.toInt < 4 ∧ 0 ≤ b.toInt ∧ b.toInt ≤ 100 ∧ 0 ≤ n.toInt ∧ n.toInt ≤ 999))) := by
  refine enI (lv := [(0, .ref x), (1, .int q), (2, .int b), (3, .int n)]) (by decide) (Nat.le_of_ble_eq_true rfl) rfl (fun E D cy C Ci0 ret => ?_)
  refine g_aload_n C dX12_quarter_0 rfl 0 rfl ?_
  refine g_iconst (v := 0) C dX12_quarter_1 (by decide) ?_
  refine g_putI C fi_X12_1 rfl F.1 F.2.1 dX12_quarter_2 ?_
  have F := F.thrown (v := 0)
  generalize pSI P x 0 0 = P1 at F ⊢
  obtain ⟨hx, hxK, ok, inj, zp, zs, zm, zt, zo, zh⟩ := F
  refine g_iload_n C dX12_quarter_5 rfl 1 rfl ?_
  refine g_callSI (b := 0) (ci := 0) (rest := []) C ms_X12_278 [.int q] (c_X12_isQuarter) rfl rfl (by decide) (Nat.le_of_ble_eq_true rfl) (by decide) dX12_quarter_6 (fun r668 Q669 h670 => ?_)
  obtain ⟨rfl, h670⟩ := h670
  rcases h670 with ⟨rfl, h670⟩ | ⟨rfl, h670⟩
  · have h670 : 0 ≤ q.toInt ∧ q.toInt ≤ 3 := h670
    refine b_if_eq C 33 dX12_quarter_9 (by decide) (fun h => absurd h (by decide)) (fun _ => ?_)
    refine g_iload_n C dX12_quarter_12 rfl 2 rfl ?_
    refine g_iconst (v := 0) C dX12_quarter_13 (by decide) ?_
    refine g_bipush (v := 100) C dX12_quarter_14 (by decide) ?_
    refine g_callSI (b := 0) (ci := 0) (rest := []) C ms_X12_178 [.int b, .int 0, .int 100] (c_X12_within) rfl rfl (by decide) (Nat.le_of_ble_eq_true rfl) (by decide) dX12_quarter_16 (fun r671 Q672 h673 => ?_)
    obtain ⟨rfl, h673⟩ := h673
    rcases h673 with ⟨rfl, h673⟩ | ⟨rfl, h673⟩
    · have h673 : 0 ≤ b.toInt ∧ b.toInt ≤ 100 := h673
      refine b_if_eq C 33 dX12_quarter_19 (by decide) (fun h => absurd h (by decide)) (fun _ => ?_)
      refine g_iload_n C dX12_quarter_22 rfl 3 rfl ?_
      refine g_iconst (v := 0) C dX12_quarter_23 (by decide) ?_
      refine g_sipush (v := 999) C dX12_quarter_24 (by decide) ?_
      refine g_callSI (b := 0) (ci := 0) (rest := []) C ms_X12_178 [.int n, .int 0, .int 999] (c_X12_within) rfl rfl (by decide) (Nat.le_of_ble_eq_true rfl) (by decide) dX12_quarter_27 (fun r674 Q675 h676 => ?_)
      obtain ⟨rfl, h676⟩ := h676
      rcases h676 with ⟨rfl, h676⟩ | ⟨rfl, h676⟩
      · have h676 : 0 ≤ n.toInt ∧ n.toInt ≤ 999 := h676
        refine b_if_ne C 35 dX12_quarter_30 (by decide) (fun _ => ?_) (fun h => absurd h (by decide))
        refine g_aload_n C dX12_quarter_35 rfl 0 rfl ?_
        obtain ⟨b677, h678⟩ := xFd.at (ok x hx) hxK 45 13 4 rfl
        refine g_getR C fi_X12_127 rfl h678.1 hx hxK dX12_quarter_36 ?_
        refine g_iload_n C dX12_quarter_39 rfl 1 rfl ?_
        refine g_iload_n C dX12_quarter_40 rfl 2 rfl ?_
        refine g_iast (j := (q.toInt.toNat)) C h678.2.1 h678.2.2.1 (IX.intn (i := q) h678.2.2.2 (by omega) (by omega)) dX12_quarter_41 ?_
        have k679 := (KF.rf (fs := [45, 46]) (P := P1) (x := x)).set (k := (q.toInt.toNat)) (v := b) h678.1 (by decide) inj
        refine g_aload_n C dX12_quarter_42 rfl 0 rfl ?_
        obtain ⟨b680, h681⟩ := xFd.at (ok x hx) hxK 46 13 4 rfl
        refine g_getR C fi_X12_130 rfl h681.1 hx hxK dX12_quarter_43 ?_
        refine g_iload_n C dX12_quarter_46 rfl 1 rfl ?_
        refine g_iload_n C dX12_quarter_47 rfl 3 rfl ?_
        refine g_iast (j := (q.toInt.toNat)) C h681.2.1 h681.2.2.1 (IX.intn (i := q) h681.2.2.2 (by omega) (by omega)) dX12_quarter_48 ?_
        have k682 := k679.set (k := (q.toInt.toNat)) (v := n) h681.1 (by decide) inj
        refine g_iconst (v := 1) C dX12_quarter_49 (by decide) ?_
        exact ret _ _ _ _ _ _ dX12_quarter_50 rfl (by decide) (by decide) (Or.inl ⟨rfl, by first | omega | (intro h9; omega)⟩)
      · have h676 : ¬ (0 ≤ n.toInt ∧ n.toInt ≤ 999) := h676
        refine b_if_ne C 35 dX12_quarter_30 (by decide) (fun h => absurd h (by decide)) (fun _ => ?_)
        refine g_iconst (v := 0) C dX12_quarter_33 (by decide) ?_
        exact ret _ _ _ _ _ _ dX12_quarter_34 rfl (by decide) (by decide) (Or.inr ⟨rfl, by first | omega | (intro h9; omega)⟩)
    · have h673 : ¬ (0 ≤ b.toInt ∧ b.toInt ≤ 100) := h673
      refine b_if_eq C 33 dX12_quarter_19 (by decide) (fun _ => ?_) (fun h => absurd h (by decide))
      refine g_iconst (v := 0) C dX12_quarter_33 (by decide) ?_
      exact ret _ _ _ _ _ _ dX12_quarter_34 rfl (by decide) (by decide) (Or.inr ⟨rfl, by first | omega | (intro h9; omega)⟩)
  · have h670 : ¬ (0 ≤ q.toInt ∧ q.toInt ≤ 3) := h670
    refine b_if_eq C 33 dX12_quarter_9 (by decide) (fun _ => ?_) (fun h => absurd h (by decide))
    refine g_iconst (v := 0) C dX12_quarter_33 (by decide) ?_
    exact ret _ _ _ _ _ _ dX12_quarter_34 rfl (by decide) (by decide) (Or.inr ⟨rfl, by first | omega | (intro h9; omega)⟩)
theorem dX12_swap_0 : decode cX12_swap 0 = .ok (.aload_n 0, 1) := by decide +kernel
theorem dX12_swap_1 : decode cX12_swap 1 = .ok (.iconst 0, 1) := by decide +kernel
theorem dX12_swap_2 : decode cX12_swap 2 = .ok (.putfield 1, 3) := by decide +kernel
theorem dX12_swap_5 : decode cX12_swap 5 = .ok (.iload_n 1, 1) := by decide +kernel
theorem dX12_swap_6 : decode cX12_swap 6 = .ok (.invokestatic 278, 3) := by decide +kernel
theorem dX12_swap_9 : decode cX12_swap 9 = .ok (.ifCond .eq 25, 3) := by decide +kernel
theorem dX12_swap_12 : decode cX12_swap 12 = .ok (.iload_n 2, 1) := by decide +kernel
theorem dX12_swap_13 : decode cX12_swap 13 = .ok (.invokestatic 278, 3) := by decide +kernel
theorem dX12_swap_16 : decode cX12_swap 16 = .ok (.ifCond .eq 18, 3) := by decide +kernel
theorem dX12_swap_19 : decode cX12_swap 19 = .ok (.iload_n 1, 1) := by decide +kernel
theorem dX12_swap_20 : decode cX12_swap 20 = .ok (.iload_n 2, 1) := by decide +kernel
theorem dX12_swap_21 : decode cX12_swap 21 = .ok (.if_icmp .eq 13, 3) := by decide +kernel
theorem dX12_swap_24 : decode cX12_swap 24 = .ok (.iload_n 3, 1) := by decide +kernel
theorem dX12_swap_25 : decode cX12_swap 25 = .ok (.iconst 0, 1) := by decide +kernel
theorem dX12_swap_26 : decode cX12_swap 26 = .ok (.bipush 40, 2) := by decide +kernel
theorem dX12_swap_28 : decode cX12_swap 28 = .ok (.invokestatic 178, 3) := by decide +kernel
theorem dX12_swap_31 : decode cX12_swap 31 = .ok (.ifCond .ne 5, 3) := by decide +kernel
theorem dX12_swap_34 : decode cX12_swap 34 = .ok (.iconst (-1), 1) := by decide +kernel
theorem dX12_swap_35 : decode cX12_swap 35 = .ok (.ireturn, 1) := by decide +kernel
theorem dX12_swap_36 : decode cX12_swap 36 = .ok (.iconst 0, 1) := by decide +kernel
theorem dX12_swap_37 : decode cX12_swap 37 = .ok (.istore 4, 2) := by decide +kernel
theorem dX12_swap_39 : decode cX12_swap 39 = .ok (.iconst 0, 1) := by decide +kernel
theorem dX12_swap_40 : decode cX12_swap 40 = .ok (.istore 5, 2) := by decide +kernel
theorem dX12_swap_42 : decode cX12_swap 42 = .ok (.iload 5, 2) := by decide +kernel
theorem dX12_swap_44 : decode cX12_swap 44 = .ok (.aload_n 0, 1) := by decide +kernel
theorem dX12_swap_45 : decode cX12_swap 45 = .ok (.getfield 69, 3) := by decide +kernel
theorem dX12_swap_48 : decode cX12_swap 48 = .ok (.iload_n 1, 1) := by decide +kernel
theorem dX12_swap_49 : decode cX12_swap 49 = .ok (.iaload, 1) := by decide +kernel
theorem dX12_swap_50 : decode cX12_swap 50 = .ok (.if_icmp .ge 107, 3) := by decide +kernel
theorem dX12_swap_157 : decode cX12_swap 157 = .ok (.iload 4, 2) := by decide +kernel
theorem dX12_swap_159 : decode cX12_swap 159 = .ok (.ireturn, 1) := by decide +kernel
set_option maxHeartbeats 4000000 in
set_option maxRecDepth 100000 in
theorem c_X12_swap {P : PP} {x : Nat} {f : Int32} {t : Int32} {k : Int32} (F : FM P x) : CtrI yX12_swap cX12_swap 8 (some Jvm.ClassFile.FieldType.int) ({ frames := 5, cells := 0, slots := 0, locals := 320 } : Room) 0 0 P [.ref x, .int f, .int t, .int k] (fun r _ => (r = 0 ∧ (0 ≤ f.toInt ∧ f.toInt < 4 ∧ 0 ≤ t.toInt ∧ t.toInt < 4 ∧ f ≠ t ∧ 0 ≤ k.toInt ∧ k.toInt ≤ 40)) ∨ (r = -1 ∧ ¬ (0 ≤ f.toInt ∧ f.toInt < 4 ∧ 0 ≤ t.toInt ∧ t.toInt < 4 ∧ f ≠ t ∧ 0 ≤ k.toInt ∧ k.toInt ≤ 40))) := by
  refine enI (lv := [(0, .ref x), (1, .int f), (2, .int t), (3, .int k)]) (by decide) (Nat.le_of_ble_eq_true rfl) rfl (fun E D cy C Ci0 ret => ?_)
  refine g_aload_n C dX12_swap_0 rfl 0 rfl ?_
  refine g_iconst (v := 0) C dX12_swap_1 (by decide) ?_
  refine g_putI C fi_X12_1 rfl F.1 F.2.1 dX12_swap_2 ?_
  have F := F.thrown (v := 0)
  generalize pSI P x 0 0 = P1 at F ⊢
  obtain ⟨hx, hxK, ok, inj, zp, zs, zm, zt, zo, zh⟩ := F
  refine g_iload_n C dX12_swap_5 rfl 1 rfl ?_
  refine g_callSI (b := 0) (ci := 0) (rest := []) C ms_X12_278 [.int f] (c_X12_isQuarter) rfl rfl (by decide) (Nat.le_of_ble_eq_true rfl) (by decide) dX12_swap_6 (fun r683 Q684 h685 => ?_)
  obtain ⟨rfl, h685⟩ := h685
  rcases h685 with ⟨rfl, h685⟩ | ⟨rfl, h685⟩
  · have h685 : 0 ≤ f.toInt ∧ f.toInt ≤ 3 := h685
    refine b_if_eq C 34 dX12_swap_9 (by decide) (fun h => absurd h (by decide)) (fun _ => ?_)
    refine g_iload_n C dX12_swap_12 rfl 2 rfl ?_
    refine g_callSI (b := 0) (ci := 0) (rest := []) C ms_X12_278 [.int t] (c_X12_isQuarter) rfl rfl (by decide) (Nat.le_of_ble_eq_true rfl) (by decide) dX12_swap_13 (fun r686 Q687 h688 => ?_)
    obtain ⟨rfl, h688⟩ := h688
    rcases h688 with ⟨rfl, h688⟩ | ⟨rfl, h688⟩
    · have h688 : 0 ≤ t.toInt ∧ t.toInt ≤ 3 := h688
      refine b_if_eq C 34 dX12_swap_16 (by decide) (fun h => absurd h (by decide)) (fun _ => ?_)
      refine g_iload_n C dX12_swap_19 rfl 1 rfl ?_
      refine g_iload_n C dX12_swap_20 rfl 2 rfl ?_
      refine b_icmp_eq C 34 dX12_swap_21 (by decide) (fun h689 => ?_) (fun h689 => ?_)
      · have h689 : f = t := h689
        refine g_iconst (v := (-1)) C dX12_swap_34 (by decide) ?_
        exact ret _ _ _ _ _ _ dX12_swap_35 rfl (by decide) (by decide) (Or.inr ⟨rfl, fun h9 => by first | omega | (obtain ⟨_, _, _, _, h8, _, _⟩ := h9; exact h8 (by assumption))⟩)
      · have h689 : ¬ f = t := h689
        refine g_iload_n C dX12_swap_24 rfl 3 rfl ?_
        refine g_iconst (v := 0) C dX12_swap_25 (by decide) ?_
        refine g_bipush (v := 40) C dX12_swap_26 (by decide) ?_
        refine g_callSI (b := 0) (ci := 0) (rest := []) C ms_X12_178 [.int k, .int 0, .int 40] (c_X12_within) rfl rfl (by decide) (Nat.le_of_ble_eq_true rfl) (by decide) dX12_swap_28 (fun r690 Q691 h692 => ?_)
        obtain ⟨rfl, h692⟩ := h692
        rcases h692 with ⟨rfl, h692⟩ | ⟨rfl, h692⟩
        · have h692 : 0 ≤ k.toInt ∧ k.toInt ≤ 40 := h692
          refine b_if_ne C 36 dX12_swap_31 (by decide) (fun _ => ?_) (fun h => absurd h (by decide))
          refine g_iconst (v := 0) C dX12_swap_36 (by decide) ?_
          refine g_istore (lv' := [(4, .int 0), (0, .ref x), (1, .int f), (2, .int t), (3, .int k)]) C dX12_swap_37 (by decide) rfl ?_
          refine g_iconst (v := 0) C dX12_swap_39 (by decide) ?_
          refine g_istore (lv' := [(5, .int 0), (4, .int 0), (0, .ref x), (1, .int f), (2, .int t), (3, .int k)]) C dX12_swap_40 (by decide) rfl ?_
          refine g_iload C dX12_swap_42 0 rfl ?_
          refine g_aload_n C dX12_swap_44 rfl 2 rfl ?_
          obtain ⟨b693, h694⟩ := xFd.at (ok x hx) hxK 20 13 20 rfl
          refine g_getR C fi_X12_69 rfl h694.1 hx hxK dX12_swap_45 ?_
          refine g_iload_n C dX12_swap_48 rfl 3 rfl ?_
          refine g_iald (j := (f.toInt.toNat)) C h694.2.1 h694.2.2.1 (IX.intn (i := f) h694.2.2.2 (by omega) (by omega)) dX12_swap_49 ?_
          rw [show pI P1 b693 ((f.toInt.toNat)) = 0 from by rw [(KF.rf (fs := []) (P := P1) (x := x)).at (f := 20) (by decide) h694.1]; exact zs _ h694.1 _]
          refine b_icmp_ge C 157 dX12_swap_50 (by decide) (fun _ => ?_) (fun h => absurd h (by decide))
          refine g_iload C dX12_swap_157 1 rfl ?_
          exact ret _ _ _ _ _ _ dX12_swap_159 rfl (by decide) (by decide) (Or.inl ⟨rfl, by refine ⟨?_, ?_, ?_, ?_, ?_, ?_, ?_⟩ <;> first | assumption | omega⟩)
        · have h692 : ¬ (0 ≤ k.toInt ∧ k.toInt ≤ 40) := h692
          refine b_if_ne C 36 dX12_swap_31 (by decide) (fun h => absurd h (by decide)) (fun _ => ?_)
          refine g_iconst (v := (-1)) C dX12_swap_34 (by decide) ?_
          exact ret _ _ _ _ _ _ dX12_swap_35 rfl (by decide) (by decide) (Or.inr ⟨rfl, fun h9 => by first | omega | (obtain ⟨_, _, _, _, h8, _, _⟩ := h9; exact h8 (by assumption))⟩)
    · have h688 : ¬ (0 ≤ t.toInt ∧ t.toInt ≤ 3) := h688
      refine b_if_eq C 34 dX12_swap_16 (by decide) (fun _ => ?_) (fun h => absurd h (by decide))
      refine g_iconst (v := (-1)) C dX12_swap_34 (by decide) ?_
      exact ret _ _ _ _ _ _ dX12_swap_35 rfl (by decide) (by decide) (Or.inr ⟨rfl, fun h9 => by first | omega | (obtain ⟨_, _, _, _, h8, _, _⟩ := h9; exact h8 (by assumption))⟩)
  · have h685 : ¬ (0 ≤ f.toInt ∧ f.toInt ≤ 3) := h685
    refine b_if_eq C 34 dX12_swap_9 (by decide) (fun _ => ?_) (fun h => absurd h (by decide))
    refine g_iconst (v := (-1)) C dX12_swap_34 (by decide) ?_
    exact ret _ _ _ _ _ _ dX12_swap_35 rfl (by decide) (by decide) (Or.inr ⟨rfl, fun h9 => by first | omega | (obtain ⟨_, _, _, _, h8, _, _⟩ := h9; exact h8 (by assumption))⟩)
theorem dX12_namelessIn_0 : decode cX12_namelessIn 0 = .ok (.iconst 0, 1) := by decide +kernel
theorem dX12_namelessIn_1 : decode cX12_namelessIn 1 = .ok (.istore_n 2, 1) := by decide +kernel
theorem dX12_namelessIn_2 : decode cX12_namelessIn 2 = .ok (.iconst 0, 1) := by decide +kernel
theorem dX12_namelessIn_3 : decode cX12_namelessIn 3 = .ok (.istore_n 3, 1) := by decide +kernel
theorem dX12_namelessIn_4 : decode cX12_namelessIn 4 = .ok (.iload_n 3, 1) := by decide +kernel
theorem dX12_namelessIn_5 : decode cX12_namelessIn 5 = .ok (.aload_n 0, 1) := by decide +kernel
theorem dX12_namelessIn_6 : decode cX12_namelessIn 6 = .ok (.getfield 69, 3) := by decide +kernel
theorem dX12_namelessIn_9 : decode cX12_namelessIn 9 = .ok (.iload_n 1, 1) := by decide +kernel
theorem dX12_namelessIn_10 : decode cX12_namelessIn 10 = .ok (.iaload, 1) := by decide +kernel
theorem dX12_namelessIn_11 : decode cX12_namelessIn 11 = .ok (.if_icmp .ge 31, 3) := by decide +kernel
theorem dX12_namelessIn_42 : decode cX12_namelessIn 42 = .ok (.iload_n 2, 1) := by decide +kernel
theorem dX12_namelessIn_43 : decode cX12_namelessIn 43 = .ok (.ireturn, 1) := by decide +kernel
set_option maxHeartbeats 4000000 in
set_option maxRecDepth 100000 in
theorem c_X12_namelessIn {P : PP} {x : Nat} {q : Int32} (F : FM P x) (h0 : 0 ≤ q.toInt) (h1 : q.toInt < 4) : CtrI yX12_namelessIn cX12_namelessIn 4 (some Jvm.ClassFile.FieldType.int) ({ frames := 1, cells := 0, slots := 0, locals := 64 } : Room) 0 0 P [.ref x, .int q] (fun r P2 => P = P2 ∧ r = 0) := by
  obtain ⟨hx, hxK, ok, inj, zp, zs, zm, zt, zo, zh⟩ := F
  refine enI (lv := [(0, .ref x), (1, .int q)]) (by decide) (Nat.le_of_ble_eq_true rfl) rfl (fun E D cy C Ci0 ret => ?_)
  refine g_iconst (v := 0) C dX12_namelessIn_0 (by decide) ?_
  refine g_istore_n (lv' := [(2, .int 0), (0, .ref x), (1, .int q)]) C dX12_namelessIn_1 rfl (by decide) rfl ?_
  refine g_iconst (v := 0) C dX12_namelessIn_2 (by decide) ?_
  refine g_istore_n (lv' := [(3, .int 0), (2, .int 0), (0, .ref x), (1, .int q)]) C dX12_namelessIn_3 rfl (by decide) rfl ?_
  refine g_iload_n C dX12_namelessIn_4 rfl 0 rfl ?_
  refine g_aload_n C dX12_namelessIn_5 rfl 2 rfl ?_
  obtain ⟨b695, h696⟩ := xFd.at (ok x hx) hxK 20 13 20 rfl
  refine g_getR C fi_X12_69 rfl h696.1 hx hxK dX12_namelessIn_6 ?_
  refine g_iload_n C dX12_namelessIn_9 rfl 3 rfl ?_
  refine g_iald (j := (q.toInt.toNat)) C h696.2.1 h696.2.2.1 (IX.intn (i := q) h696.2.2.2 (by omega) (by omega)) dX12_namelessIn_10 ?_
  rw [show pI P b695 ((q.toInt.toNat)) = 0 from zs _ h696.1 _]
  refine b_icmp_ge C 42 dX12_namelessIn_11 (by decide) (fun _ => ?_) (fun h => absurd h (by decide))
  refine g_iload_n C dX12_namelessIn_42 rfl 1 rfl ?_
  exact ret _ _ _ _ _ _ dX12_namelessIn_43 rfl (by decide) (by decide) (⟨rfl, rfl⟩)
theorem dX12_lays_0 : decode cX12_lays 0 = .ok (.bipush 40, 2) := by decide +kernel
theorem dX12_lays_2 : decode cX12_lays 2 = .ok (.iload_n 1, 1) := by decide +kernel
theorem dX12_lays_3 : decode cX12_lays 3 = .ok (.imul, 1) := by decide +kernel
theorem dX12_lays_4 : decode cX12_lays 4 = .ok (.aload_n 0, 1) := by decide +kernel
theorem dX12_lays_5 : decode cX12_lays 5 = .ok (.getfield 69, 3) := by decide +kernel
theorem dX12_lays_8 : decode cX12_lays 8 = .ok (.iload_n 1, 1) := by decide +kernel
theorem dX12_lays_9 : decode cX12_lays 9 = .ok (.iaload, 1) := by decide +kernel
theorem dX12_lays_10 : decode cX12_lays 10 = .ok (.iadd, 1) := by decide +kernel
theorem dX12_lays_11 : decode cX12_lays 11 = .ok (.istore 7, 2) := by decide +kernel
theorem dX12_lays_13 : decode cX12_lays 13 = .ok (.aload_n 0, 1) := by decide +kernel
theorem dX12_lays_14 : decode cX12_lays 14 = .ok (.getfield 72, 3) := by decide +kernel
theorem dX12_lays_17 : decode cX12_lays 17 = .ok (.iload 7, 2) := by decide +kernel
theorem dX12_lays_19 : decode cX12_lays 19 = .ok (.iload_n 3, 1) := by decide +kernel
theorem dX12_lays_20 : decode cX12_lays 20 = .ok (.iastore, 1) := by decide +kernel
theorem dX12_lays_21 : decode cX12_lays 21 = .ok (.aload_n 0, 1) := by decide +kernel
theorem dX12_lays_22 : decode cX12_lays 22 = .ok (.getfield 75, 3) := by decide +kernel
theorem dX12_lays_25 : decode cX12_lays 25 = .ok (.iload 7, 2) := by decide +kernel
theorem dX12_lays_27 : decode cX12_lays 27 = .ok (.iload_n 2, 1) := by decide +kernel
theorem dX12_lays_28 : decode cX12_lays 28 = .ok (.iastore, 1) := by decide +kernel
theorem dX12_lays_29 : decode cX12_lays 29 = .ok (.aload_n 0, 1) := by decide +kernel
theorem dX12_lays_30 : decode cX12_lays 30 = .ok (.getfield 78, 3) := by decide +kernel
theorem dX12_lays_33 : decode cX12_lays 33 = .ok (.iload 7, 2) := by decide +kernel
theorem dX12_lays_35 : decode cX12_lays 35 = .ok (.iload 4, 2) := by decide +kernel
theorem dX12_lays_37 : decode cX12_lays 37 = .ok (.iastore, 1) := by decide +kernel
theorem dX12_lays_38 : decode cX12_lays 38 = .ok (.aload_n 0, 1) := by decide +kernel
theorem dX12_lays_39 : decode cX12_lays 39 = .ok (.getfield 81, 3) := by decide +kernel
theorem dX12_lays_42 : decode cX12_lays 42 = .ok (.iload 7, 2) := by decide +kernel
theorem dX12_lays_44 : decode cX12_lays 44 = .ok (.iload 5, 2) := by decide +kernel
theorem dX12_lays_46 : decode cX12_lays 46 = .ok (.iastore, 1) := by decide +kernel
theorem dX12_lays_47 : decode cX12_lays 47 = .ok (.aload_n 0, 1) := by decide +kernel
theorem dX12_lays_48 : decode cX12_lays 48 = .ok (.getfield 84, 3) := by decide +kernel
theorem dX12_lays_51 : decode cX12_lays 51 = .ok (.iload 7, 2) := by decide +kernel
theorem dX12_lays_53 : decode cX12_lays 53 = .ok (.iload 6, 2) := by decide +kernel
theorem dX12_lays_55 : decode cX12_lays 55 = .ok (.iastore, 1) := by decide +kernel
theorem dX12_lays_56 : decode cX12_lays 56 = .ok (.aload_n 0, 1) := by decide +kernel
theorem dX12_lays_57 : decode cX12_lays 57 = .ok (.getfield 69, 3) := by decide +kernel
theorem dX12_lays_60 : decode cX12_lays 60 = .ok (.iload_n 1, 1) := by decide +kernel
theorem dX12_lays_61 : decode cX12_lays 61 = .ok (.dup2, 1) := by decide +kernel
theorem dX12_lays_62 : decode cX12_lays 62 = .ok (.iaload, 1) := by decide +kernel
theorem dX12_lays_63 : decode cX12_lays 63 = .ok (.iconst 1, 1) := by decide +kernel
theorem dX12_lays_64 : decode cX12_lays 64 = .ok (.iadd, 1) := by decide +kernel
theorem dX12_lays_65 : decode cX12_lays 65 = .ok (.iastore, 1) := by decide +kernel
theorem dX12_lays_66 : decode cX12_lays 66 = .ok (.aload_n 0, 1) := by decide +kernel
theorem dX12_lays_67 : decode cX12_lays 67 = .ok (.getfield 69, 3) := by decide +kernel
theorem dX12_lays_70 : decode cX12_lays 70 = .ok (.iload_n 1, 1) := by decide +kernel
theorem dX12_lays_71 : decode cX12_lays 71 = .ok (.iaload, 1) := by decide +kernel
theorem dX12_lays_72 : decode cX12_lays 72 = .ok (.iconst 1, 1) := by decide +kernel
theorem dX12_lays_73 : decode cX12_lays 73 = .ok (.isub, 1) := by decide +kernel
theorem dX12_lays_74 : decode cX12_lays 74 = .ok (.ireturn, 1) := by decide +kernel
set_option maxHeartbeats 4000000 in
set_option maxRecDepth 100000 in
theorem c_X12_lays {P : PP} {x j : Nat} {p0 p1 p2 p3 p4 : Int32} (F : FM P x) (hj : j < 4) : CtrI yX12_lays cX12_lays 8 (some Jvm.ClassFile.FieldType.int) ({ frames := 1, cells := 0, slots := 0, locals := 64 } : Room) 0 0 P [.ref x, .int (nI j), .int p0, .int p1, .int p2, .int p3, .int p4] (fun r _ => r = 0) := by
  obtain ⟨hx, hxK, ok, inj, zp, zs, zm, zt, zo, zh⟩ := F
  refine enI (lv := [(0, .ref x), (1, .int (nI j)), (2, .int p0), (3, .int p1), (4, .int p2), (5, .int p3), (6, .int p4)]) (by decide) (Nat.le_of_ble_eq_true rfl) rfl (fun E D cy C Ci0 ret => ?_)
  refine g_bipush (v := 40) C dX12_lays_0 (by decide) ?_
  refine g_iload_n C dX12_lays_2 rfl 1 rfl ?_
  refine g_imul C dX12_lays_3 ?_
  rw [show ((40 : Int32) * (nI j)) = nI (40 * j) from pk_mul 40 j]
  refine g_aload_n C dX12_lays_4 rfl 0 rfl ?_
  obtain ⟨b697, h698⟩ := xFd.at (ok x hx) hxK 20 13 20 rfl
  refine g_getR C fi_X12_69 rfl h698.1 hx hxK dX12_lays_5 ?_
  refine g_iload_n C dX12_lays_8 rfl 1 rfl ?_
  refine g_iald (j := j) C h698.2.1 h698.2.2.1 (IX.inn h698.2.2.2 (by omega) (by decide)) dX12_lays_9 ?_
  rw [show pI P b697 j = 0 from by rw [(KF.rf (fs := [21, 22, 23, 24, 25]) (P := P) (x := x)).at (f := 20) (by decide) h698.1]; exact zs _ h698.1 _]
  refine g_iadd C dX12_lays_10 ?_
  rw [show (((nI (40 * j)) : Int32) + 0) = nI ((40 * j) + 0) from nI_add (40 * j) 0]
  refine g_istore (lv' := [(7, .int (nI ((40 * j) + 0))), (0, .ref x), (1, .int (nI j)), (2, .int p0), (3, .int p1), (4, .int p2), (5, .int p3), (6, .int p4)]) C dX12_lays_11 (by decide) rfl ?_
  refine g_aload_n C dX12_lays_13 rfl 1 rfl ?_
  obtain ⟨b699, h700⟩ := xFd.at (ok x hx) hxK 21 13 800 rfl
  refine g_getR C fi_X12_72 rfl h700.1 hx hxK dX12_lays_14 ?_
  refine g_iload C dX12_lays_17 0 rfl ?_
  refine g_iload_n C dX12_lays_19 rfl 4 rfl ?_
  refine g_iast (j := ((40 * j) + 0)) C h700.2.1 h700.2.2.1 (IX.inn h700.2.2.2 (by omega) (by decide)) dX12_lays_20 ?_
  have k701 := (KF.rf (fs := [21, 22, 23, 24, 25]) (P := P) (x := x)).set (k := ((40 * j) + 0)) (v := p1) h700.1 (by decide) inj
  obtain ⟨I702, eI702, -⟩ := id k701
  rw [eI702] at k701 ⊢
  refine g_aload_n C dX12_lays_21 rfl 1 rfl ?_
  obtain ⟨b703, h704⟩ := xFd.at (ok x hx) hxK 22 13 800 rfl
  refine g_getR C fi_X12_75 rfl h704.1 hx hxK dX12_lays_22 ?_
  refine g_iload C dX12_lays_25 0 rfl ?_
  refine g_iload_n C dX12_lays_27 rfl 3 rfl ?_
  refine g_iast (j := ((40 * j) + 0)) C h704.2.1 h704.2.2.1 (IX.inn h704.2.2.2 (by omega) (by decide)) dX12_lays_28 ?_
  have k705 := k701.set (k := ((40 * j) + 0)) (v := p0) h704.1 (by decide) inj
  obtain ⟨I706, eI706, -⟩ := id k705
  rw [eI706] at k705 ⊢
  refine g_aload_n C dX12_lays_29 rfl 1 rfl ?_
  obtain ⟨b707, h708⟩ := xFd.at (ok x hx) hxK 23 13 800 rfl
  refine g_getR C fi_X12_78 rfl h708.1 hx hxK dX12_lays_30 ?_
  refine g_iload C dX12_lays_33 0 rfl ?_
  refine g_iload C dX12_lays_35 5 rfl ?_
  refine g_iast (j := ((40 * j) + 0)) C h708.2.1 h708.2.2.1 (IX.inn h708.2.2.2 (by omega) (by decide)) dX12_lays_37 ?_
  have k709 := k705.set (k := ((40 * j) + 0)) (v := p2) h708.1 (by decide) inj
  obtain ⟨I710, eI710, -⟩ := id k709
  rw [eI710] at k709 ⊢
  refine g_aload_n C dX12_lays_38 rfl 1 rfl ?_
  obtain ⟨b711, h712⟩ := xFd.at (ok x hx) hxK 24 13 800 rfl
  refine g_getR C fi_X12_81 rfl h712.1 hx hxK dX12_lays_39 ?_
  refine g_iload C dX12_lays_42 0 rfl ?_
  refine g_iload C dX12_lays_44 6 rfl ?_
  refine g_iast (j := ((40 * j) + 0)) C h712.2.1 h712.2.2.1 (IX.inn h712.2.2.2 (by omega) (by decide)) dX12_lays_46 ?_
  have k713 := k709.set (k := ((40 * j) + 0)) (v := p3) h712.1 (by decide) inj
  obtain ⟨I714, eI714, -⟩ := id k713
  rw [eI714] at k713 ⊢
  refine g_aload_n C dX12_lays_47 rfl 1 rfl ?_
  obtain ⟨b715, h716⟩ := xFd.at (ok x hx) hxK 25 13 800 rfl
  refine g_getR C fi_X12_84 rfl h716.1 hx hxK dX12_lays_48 ?_
  refine g_iload C dX12_lays_51 0 rfl ?_
  refine g_iload C dX12_lays_53 7 rfl ?_
  refine g_iast (j := ((40 * j) + 0)) C h716.2.1 h716.2.2.1 (IX.inn h716.2.2.2 (by omega) (by decide)) dX12_lays_55 ?_
  have k717 := k713.set (k := ((40 * j) + 0)) (v := p4) h716.1 (by decide) inj
  obtain ⟨I718, eI718, -⟩ := id k717
  rw [eI718] at k717 ⊢
  refine g_aload_n C dX12_lays_56 rfl 1 rfl ?_
  refine g_getR C fi_X12_69 rfl (h698.1) hx hxK dX12_lays_57 ?_
  refine g_iload_n C dX12_lays_60 rfl 2 rfl ?_
  refine g_dup2_11 C dX12_lays_61 rfl rfl ?_
  refine g_iald (j := j) C h698.2.1 h698.2.2.1 (IX.inn h698.2.2.2 (by omega) (by decide)) dX12_lays_62 ?_
  rw [show pI (pWI P I718 (pJ P)) b697 j = 0 from by rw [k717.at (f := 20) (by decide) h698.1]; exact zs _ h698.1 _]
  refine g_iconst (v := 1) C dX12_lays_63 (by decide) ?_
  refine g_iadd C dX12_lays_64 ?_
  rw [show ((0 : Int32) + 1) = 1 from rfl]
  refine g_iast (j := j) C h698.2.1 h698.2.2.1 (IX.inn h698.2.2.2 (by omega) (by decide)) dX12_lays_65 ?_
  refine g_aload_n C dX12_lays_66 rfl 1 rfl ?_
  refine g_getR C fi_X12_69 rfl (h698.1) hx hxK dX12_lays_67 ?_
  refine g_iload_n C dX12_lays_70 rfl 2 rfl ?_
  refine g_iald (j := j) C h698.2.1 h698.2.2.1 (IX.inn h698.2.2.2 (by omega) (by decide)) dX12_lays_71 ?_
  rw [show pI (pSI (pWI P I718 (pJ P)) b697 j 1) b697 j = 1 from by simp [pSI, pI, va_up]]
  refine g_iconst (v := 1) C dX12_lays_72 (by decide) ?_
  refine g_isub C dX12_lays_73 ?_
  rw [show ((1 : Int32) - 1) = 0 from rfl]
  exact ret _ _ _ _ _ _ dX12_lays_74 rfl (by decide) (by decide) (rfl)
theorem dX12_nameless_0 : decode cX12_nameless 0 = .ok (.aload_n 0, 1) := by decide +kernel
theorem dX12_nameless_1 : decode cX12_nameless 1 = .ok (.iconst 0, 1) := by decide +kernel
theorem dX12_nameless_2 : decode cX12_nameless 2 = .ok (.putfield 1, 3) := by decide +kernel
theorem dX12_nameless_5 : decode cX12_nameless 5 = .ok (.iload_n 1, 1) := by decide +kernel
theorem dX12_nameless_6 : decode cX12_nameless 6 = .ok (.invokestatic 278, 3) := by decide +kernel
theorem dX12_nameless_9 : decode cX12_nameless 9 = .ok (.ifCond .eq 41, 3) := by decide +kernel
theorem dX12_nameless_12 : decode cX12_nameless 12 = .ok (.iload_n 2, 1) := by decide +kernel
theorem dX12_nameless_13 : decode cX12_nameless 13 = .ok (.invokestatic 258, 3) := by decide +kernel
theorem dX12_nameless_16 : decode cX12_nameless 16 = .ok (.ifCond .eq 34, 3) := by decide +kernel
theorem dX12_nameless_19 : decode cX12_nameless 19 = .ok (.iload_n 3, 1) := by decide +kernel
theorem dX12_nameless_20 : decode cX12_nameless 20 = .ok (.iconst 0, 1) := by decide +kernel
theorem dX12_nameless_21 : decode cX12_nameless 21 = .ok (.ldc 195, 2) := by decide +kernel
theorem dX12_nameless_23 : decode cX12_nameless 23 = .ok (.invokestatic 178, 3) := by decide +kernel
theorem dX12_nameless_26 : decode cX12_nameless 26 = .ok (.ifCond .eq 24, 3) := by decide +kernel
theorem dX12_nameless_29 : decode cX12_nameless 29 = .ok (.aload_n 0, 1) := by decide +kernel
theorem dX12_nameless_30 : decode cX12_nameless 30 = .ok (.getfield 69, 3) := by decide +kernel
theorem dX12_nameless_33 : decode cX12_nameless 33 = .ok (.iload_n 1, 1) := by decide +kernel
theorem dX12_nameless_34 : decode cX12_nameless 34 = .ok (.iaload, 1) := by decide +kernel
theorem dX12_nameless_35 : decode cX12_nameless 35 = .ok (.bipush 40, 2) := by decide +kernel
theorem dX12_nameless_37 : decode cX12_nameless 37 = .ok (.if_icmp .eq 13, 3) := by decide +kernel
theorem dX12_nameless_40 : decode cX12_nameless 40 = .ok (.aload_n 0, 1) := by decide +kernel
theorem dX12_nameless_41 : decode cX12_nameless 41 = .ok (.iload_n 1, 1) := by decide +kernel
theorem dX12_nameless_42 : decode cX12_nameless 42 = .ok (.invokevirtual 295, 3) := by decide +kernel
theorem dX12_nameless_45 : decode cX12_nameless 45 = .ok (.bipush 6, 2) := by decide +kernel
theorem dX12_nameless_47 : decode cX12_nameless 47 = .ok (.if_icmp .ne 5, 3) := by decide +kernel
theorem dX12_nameless_50 : decode cX12_nameless 50 = .ok (.iconst (-1), 1) := by decide +kernel
theorem dX12_nameless_51 : decode cX12_nameless 51 = .ok (.ireturn, 1) := by decide +kernel
theorem dX12_nameless_52 : decode cX12_nameless 52 = .ok (.aload_n 0, 1) := by decide +kernel
theorem dX12_nameless_53 : decode cX12_nameless 53 = .ok (.iload_n 1, 1) := by decide +kernel
theorem dX12_nameless_54 : decode cX12_nameless 54 = .ok (.iconst (-1), 1) := by decide +kernel
theorem dX12_nameless_55 : decode cX12_nameless 55 = .ok (.iload_n 2, 1) := by decide +kernel
theorem dX12_nameless_56 : decode cX12_nameless 56 = .ok (.iload_n 3, 1) := by decide +kernel
theorem dX12_nameless_57 : decode cX12_nameless 57 = .ok (.iconst 3, 1) := by decide +kernel
theorem dX12_nameless_58 : decode cX12_nameless 58 = .ok (.iconst 0, 1) := by decide +kernel
theorem dX12_nameless_59 : decode cX12_nameless 59 = .ok (.invokevirtual 284, 3) := by decide +kernel
theorem dX12_nameless_62 : decode cX12_nameless 62 = .ok (.ireturn, 1) := by decide +kernel
set_option maxHeartbeats 4000000 in
set_option maxRecDepth 100000 in
theorem c_X12_nameless {P : PP} {x : Nat} {q : Int32} {n : Int32} {m : Int32} (F : FM P x) : CtrI yX12_nameless cX12_nameless 4 (some Jvm.ClassFile.FieldType.int) ({ frames := 5, cells := 0, slots := 0, locals := 320 } : Room) 0 0 P [.ref x, .int q, .int n, .int m] (fun r _ => (r = 0 ∧ (0 ≤ q.toInt ∧ q.toInt < 4 ∧ 0 ≤ n.toInt ∧ n.toInt ≤ 9999 ∧ 0 ≤ m.toInt ∧ m.toInt ≤ 65535)) ∨ (r = -1 ∧ ¬ (0 ≤ q.toInt ∧ q.toInt < 4 ∧ 0 ≤ n.toInt ∧ n.toInt ≤ 9999 ∧ 0 ≤ m.toInt ∧ m.toInt ≤ 65535))) := by
  refine enI (lv := [(0, .ref x), (1, .int q), (2, .int n), (3, .int m)]) (by decide) (Nat.le_of_ble_eq_true rfl) rfl (fun E D cy C Ci0 ret => ?_)
  refine g_aload_n C dX12_nameless_0 rfl 0 rfl ?_
  refine g_iconst (v := 0) C dX12_nameless_1 (by decide) ?_
  refine g_putI C fi_X12_1 rfl F.1 F.2.1 dX12_nameless_2 ?_
  have F := F.thrown (v := 0)
  generalize pSI P x 0 0 = P1 at F ⊢
  obtain ⟨hx, hxK, ok, inj, zp, zs, zm, zt, zo, zh⟩ := F
  refine g_iload_n C dX12_nameless_5 rfl 1 rfl ?_
  refine g_callSI (b := 0) (ci := 0) (rest := []) C ms_X12_278 [.int q] (c_X12_isQuarter) rfl rfl (by decide) (Nat.le_of_ble_eq_true rfl) (by decide) dX12_nameless_6 (fun r719 Q720 h721 => ?_)
  obtain ⟨rfl, h721⟩ := h721
  rcases h721 with ⟨rfl, h721⟩ | ⟨rfl, h721⟩
  · have h721 : 0 ≤ q.toInt ∧ q.toInt ≤ 3 := h721
    refine b_if_eq C 50 dX12_nameless_9 (by decide) (fun h => absurd h (by decide)) (fun _ => ?_)
    refine g_iload_n C dX12_nameless_12 rfl 2 rfl ?_
    refine g_callSI (b := 0) (ci := 0) (rest := []) C ms_X12_258 [.int n] (c_X12_isNumber) rfl rfl (by decide) (Nat.le_of_ble_eq_true rfl) (by decide) dX12_nameless_13 (fun r722 Q723 h724 => ?_)
    obtain ⟨rfl, h724⟩ := h724
    rcases h724 with ⟨rfl, h724⟩ | ⟨rfl, h724⟩
    · have h724 : 0 ≤ n.toInt ∧ n.toInt ≤ 9999 := h724
      refine b_if_eq C 50 dX12_nameless_16 (by decide) (fun h => absurd h (by decide)) (fun _ => ?_)
      refine g_iload_n C dX12_nameless_19 rfl 3 rfl ?_
      refine g_iconst (v := 0) C dX12_nameless_20 (by decide) ?_
      refine g_ldc (v := 65535) C kc_X12_195 dX12_nameless_21 ?_
      refine g_callSI (b := 0) (ci := 0) (rest := []) C ms_X12_178 [.int m, .int 0, .int 65535] (c_X12_within) rfl rfl (by decide) (Nat.le_of_ble_eq_true rfl) (by decide) dX12_nameless_23 (fun r725 Q726 h727 => ?_)
      obtain ⟨rfl, h727⟩ := h727
      rcases h727 with ⟨rfl, h727⟩ | ⟨rfl, h727⟩
      · have h727 : 0 ≤ m.toInt ∧ m.toInt ≤ 65535 := h727
        refine b_if_eq C 50 dX12_nameless_26 (by decide) (fun h => absurd h (by decide)) (fun _ => ?_)
        refine g_aload_n C dX12_nameless_29 rfl 0 rfl ?_
        obtain ⟨b728, h729⟩ := xFd.at (ok x hx) hxK 20 13 20 rfl
        refine g_getR C fi_X12_69 rfl h729.1 hx hxK dX12_nameless_30 ?_
        refine g_iload_n C dX12_nameless_33 rfl 1 rfl ?_
        refine g_iald (j := (q.toInt.toNat)) C h729.2.1 h729.2.2.1 (IX.intn (i := q) h729.2.2.2 (by omega) (by omega)) dX12_nameless_34 ?_
        rw [show pI P1 b728 ((q.toInt.toNat)) = 0 from by rw [(KF.rf (fs := []) (P := P1) (x := x)).at (f := 20) (by decide) h729.1]; exact zs _ h729.1 _]
        refine g_bipush (v := 40) C dX12_nameless_35 (by decide) ?_
        refine b_icmp_eq C 50 dX12_nameless_37 (by decide) (fun h => absurd h (by decide)) (fun _ => ?_)
        refine g_aload_n C dX12_nameless_40 rfl 0 rfl ?_
        refine g_iload_n C dX12_nameless_41 rfl 1 rfl ?_
        refine g_callVI (rest := []) C mv_X12_295 [.int q] (c_X12_namelessIn ⟨hx, hxK, ok, inj, zp, zs, zm, zt, zo, zh⟩ (by omega) (by omega)) hx hxK rfl rfl (by decide) (Nat.le_of_ble_eq_true rfl) (by decide) dX12_nameless_42 (fun r730 Q731 h732 => ?_)
        obtain ⟨rfl, rfl⟩ := h732
        refine g_bipush (v := 6) C dX12_nameless_45 (by decide) ?_
        refine b_icmp_ne C 52 dX12_nameless_47 (by decide) (fun _ => ?_) (fun h => absurd h (by decide))
        obtain ⟨j733, h734, rfl⟩ := ix_of (x := q) (n := 4) (by omega) (by omega) (by decide)
        have ej733 : (nI j733).toInt = (j733 : Int) := ti_nI (by omega)
        refine g_aload_n C dX12_nameless_52 rfl 0 rfl ?_
        refine g_iload_n C dX12_nameless_53 rfl 1 rfl ?_
        refine g_iconst (v := (-1)) C dX12_nameless_54 (by decide) ?_
        refine g_iload_n C dX12_nameless_55 rfl 2 rfl ?_
        refine g_iload_n C dX12_nameless_56 rfl 3 rfl ?_
        refine g_iconst (v := 3) C dX12_nameless_57 (by decide) ?_
        refine g_iconst (v := 0) C dX12_nameless_58 (by decide) ?_
        refine g_callVI (rest := []) C mv_X12_284 [.int (nI j733), .int (-1), .int n, .int m, .int 3, .int 0] (c_X12_lays (j := j733) ⟨hx, hxK, ok, inj, zp, zs, zm, zt, zo, zh⟩ (by omega)) hx hxK rfl rfl (by decide) (Nat.le_of_ble_eq_true rfl) (by decide) dX12_nameless_59 (fun r735 Q736 h737 => ?_)
        subst h737
        exact ret _ _ _ _ _ _ dX12_nameless_62 rfl (by decide) (by decide) (Or.inl ⟨rfl, by first | omega | (intro h9; omega)⟩)
      · have h727 : ¬ (0 ≤ m.toInt ∧ m.toInt ≤ 65535) := h727
        refine b_if_eq C 50 dX12_nameless_26 (by decide) (fun _ => ?_) (fun h => absurd h (by decide))
        refine g_iconst (v := (-1)) C dX12_nameless_50 (by decide) ?_
        exact ret _ _ _ _ _ _ dX12_nameless_51 rfl (by decide) (by decide) (Or.inr ⟨rfl, by first | omega | (intro h9; omega)⟩)
    · have h724 : ¬ (0 ≤ n.toInt ∧ n.toInt ≤ 9999) := h724
      refine b_if_eq C 50 dX12_nameless_16 (by decide) (fun _ => ?_) (fun h => absurd h (by decide))
      refine g_iconst (v := (-1)) C dX12_nameless_50 (by decide) ?_
      exact ret _ _ _ _ _ _ dX12_nameless_51 rfl (by decide) (by decide) (Or.inr ⟨rfl, by first | omega | (intro h9; omega)⟩)
  · have h721 : ¬ (0 ≤ q.toInt ∧ q.toInt ≤ 3) := h721
    refine b_if_eq C 50 dX12_nameless_9 (by decide) (fun _ => ?_) (fun h => absurd h (by decide))
    refine g_iconst (v := (-1)) C dX12_nameless_50 (by decide) ?_
    exact ret _ _ _ _ _ _ dX12_nameless_51 rfl (by decide) (by decide) (Or.inr ⟨rfl, by first | omega | (intro h9; omega)⟩)
theorem dX12_copies_0 : decode cX12_copies 0 = .ok (.aload_n 0, 1) := by decide +kernel
theorem dX12_copies_1 : decode cX12_copies 1 = .ok (.getfield 69, 3) := by decide +kernel
theorem dX12_copies_4 : decode cX12_copies 4 = .ok (.iload_n 2, 1) := by decide +kernel
theorem dX12_copies_5 : decode cX12_copies 5 = .ok (.aload_n 0, 1) := by decide +kernel
theorem dX12_copies_6 : decode cX12_copies 6 = .ok (.getfield 69, 3) := by decide +kernel
theorem dX12_copies_9 : decode cX12_copies 9 = .ok (.iload_n 1, 1) := by decide +kernel
theorem dX12_copies_10 : decode cX12_copies 10 = .ok (.iaload, 1) := by decide +kernel
theorem dX12_copies_11 : decode cX12_copies 11 = .ok (.iastore, 1) := by decide +kernel
theorem dX12_copies_12 : decode cX12_copies 12 = .ok (.iconst 0, 1) := by decide +kernel
theorem dX12_copies_13 : decode cX12_copies 13 = .ok (.istore_n 3, 1) := by decide +kernel
theorem dX12_copies_14 : decode cX12_copies 14 = .ok (.iload_n 3, 1) := by decide +kernel
theorem dX12_copies_15 : decode cX12_copies 15 = .ok (.aload_n 0, 1) := by decide +kernel
theorem dX12_copies_16 : decode cX12_copies 16 = .ok (.getfield 69, 3) := by decide +kernel
theorem dX12_copies_19 : decode cX12_copies 19 = .ok (.iload_n 1, 1) := by decide +kernel
theorem dX12_copies_20 : decode cX12_copies 20 = .ok (.iaload, 1) := by decide +kernel
theorem dX12_copies_21 : decode cX12_copies 21 = .ok (.if_icmp .ge 25, 3) := by decide +kernel
theorem dX12_copies_46 : decode cX12_copies 46 = .ok (.return_, 1) := by decide +kernel
set_option maxHeartbeats 4000000 in
set_option maxRecDepth 100000 in
theorem c_X12_copies {P : PP} {x f g : Nat} (hx : x ∈ pL P) (hxK : pK P x = 12) (ok : ∀ a, a ∈ pL P → xOk P a) (inj : ∀ k k2 b, pR P x k = some b → pR P x k2 = some b → k = k2) (zs : ∀ b, pR P x 20 = some b → ∀ j, pI P b j = 0) (hf : f < 20) (hg : g < 20) : CtrV yX12_copies cX12_copies 4 none ({ frames := 1, cells := 0, slots := 0, locals := 64 } : Room) 0 0 P [.ref x, .int (nI f), .int (nI g)] (fun P2 => ∃ I2, P2 = pWI P I2 (pJ P) ∧ ∀ b, pR P x 20 = some b → ∀ j, I2 b j = 0) := by
  refine enV (lv := [(0, .ref x), (1, .int (nI f)), (2, .int (nI g))]) (by decide) (Nat.le_of_ble_eq_true rfl) rfl (fun E D cy C Ci0 ret => ?_)
  refine g_aload_n C dX12_copies_0 rfl 0 rfl ?_
  obtain ⟨b738, h739⟩ := xFd.at (ok x hx) hxK 20 13 20 rfl
  refine g_getR C fi_X12_69 rfl h739.1 hx hxK dX12_copies_1 ?_
  refine g_iload_n C dX12_copies_4 rfl 2 rfl ?_
  refine g_aload_n C dX12_copies_5 rfl 0 rfl ?_
  refine g_getR C fi_X12_69 rfl (h739.1) hx hxK dX12_copies_6 ?_
  refine g_iload_n C dX12_copies_9 rfl 1 rfl ?_
  refine g_iald (j := f) C h739.2.1 h739.2.2.1 (IX.inn h739.2.2.2 (by omega) (by decide)) dX12_copies_10 ?_
  rw [show pI P b738 f = 0 from zs _ h739.1 _]
  refine g_iast (j := g) C h739.2.1 h739.2.2.1 (IX.inn h739.2.2.2 (by omega) (by decide)) dX12_copies_11 ?_
  obtain ⟨I740, eI740⟩ : ∃ I9, I9 = va_up (pI P) b738 (va_up (pI P b738) g 0) := ⟨_, rfl⟩
  rw [show (pSI P b738 g 0) = pWI P I740 (pJ P) by rw [eI740]; rfl]
  have h741 : ∀ b, pR P x 20 = some b → ∀ j, I740 b j = 0 := fun b hb j => by rw [eI740]; by_cases e1 : b = b738 <;> by_cases e2 : j = g <;> simp [va_up, e1, e2, zs _ h739.1] <;> exact zs _ hb _
  refine g_iconst (v := 0) C dX12_copies_12 (by decide) ?_
  refine g_istore_n (lv' := [(3, .int 0), (0, .ref x), (1, .int (nI f)), (2, .int (nI g))]) C dX12_copies_13 rfl (by decide) rfl ?_
  refine g_iload_n C dX12_copies_14 rfl 0 rfl ?_
  refine g_aload_n C dX12_copies_15 rfl 1 rfl ?_
  refine g_getR C fi_X12_69 rfl (h739.1) hx hxK dX12_copies_16 ?_
  refine g_iload_n C dX12_copies_19 rfl 2 rfl ?_
  refine g_iald (j := f) C h739.2.1 h739.2.2.1 (IX.inn h739.2.2.2 (by omega) (by decide)) dX12_copies_20 ?_
  rw [show pI (pWI P I740 (pJ P)) b738 f = 0 from h741 _ h739.1 _]
  refine b_icmp_ge C 46 dX12_copies_21 (by decide) (fun _ => ?_) (fun h => absurd h (by decide))
  exact ret _ _ _ _ _ dX12_copies_46 (by decide) (by decide) (⟨_, rfl, h741⟩)
theorem dX12_mark_0 : decode cX12_mark 0 = .ok (.aload_n 0, 1) := by decide +kernel
theorem dX12_mark_1 : decode cX12_mark 1 = .ok (.iconst 0, 1) := by decide +kernel
theorem dX12_mark_2 : decode cX12_mark 2 = .ok (.putfield 1, 3) := by decide +kernel
theorem dX12_mark_5 : decode cX12_mark 5 = .ok (.iload_n 1, 1) := by decide +kernel
theorem dX12_mark_6 : decode cX12_mark 6 = .ok (.iconst 0, 1) := by decide +kernel
theorem dX12_mark_7 : decode cX12_mark 7 = .ok (.iconst 3, 1) := by decide +kernel
theorem dX12_mark_8 : decode cX12_mark 8 = .ok (.invokestatic 178, 3) := by decide +kernel
theorem dX12_mark_11 : decode cX12_mark 11 = .ok (.ifCond .eq 16, 3) := by decide +kernel
theorem dX12_mark_14 : decode cX12_mark 14 = .ok (.iload_n 2, 1) := by decide +kernel
theorem dX12_mark_15 : decode cX12_mark 15 = .ok (.ifCond .eq 14, 3) := by decide +kernel
theorem dX12_mark_27 : decode cX12_mark 27 = .ok (.iconst 0, 1) := by decide +kernel
theorem dX12_mark_28 : decode cX12_mark 28 = .ok (.ireturn, 1) := by decide +kernel
theorem dX12_mark_29 : decode cX12_mark 29 = .ok (.iconst 0, 1) := by decide +kernel
theorem dX12_mark_30 : decode cX12_mark 30 = .ok (.istore_n 3, 1) := by decide +kernel
theorem dX12_mark_31 : decode cX12_mark 31 = .ok (.iload_n 3, 1) := by decide +kernel
theorem dX12_mark_32 : decode cX12_mark 32 = .ok (.iconst 4, 1) := by decide +kernel
theorem dX12_mark_33 : decode cX12_mark 33 = .ok (.if_icmp .ge 43, 3) := by decide +kernel
theorem dX12_mark_36 : decode cX12_mark 36 = .ok (.aload_n 0, 1) := by decide +kernel
theorem dX12_mark_37 : decode cX12_mark 37 = .ok (.iload_n 2, 1) := by decide +kernel
theorem dX12_mark_38 : decode cX12_mark 38 = .ok (.ifCond .eq 13, 3) := by decide +kernel
theorem dX12_mark_51 : decode cX12_mark 51 = .ok (.iload_n 3, 1) := by decide +kernel
theorem dX12_mark_52 : decode cX12_mark 52 = .ok (.iload_n 2, 1) := by decide +kernel
theorem dX12_mark_53 : decode cX12_mark 53 = .ok (.ifCond .eq 7, 3) := by decide +kernel
theorem dX12_mark_60 : decode cX12_mark 60 = .ok (.iconst 4, 1) := by decide +kernel
theorem dX12_mark_61 : decode cX12_mark 61 = .ok (.iload_n 1, 1) := by decide +kernel
theorem dX12_mark_62 : decode cX12_mark 62 = .ok (.iconst 1, 1) := by decide +kernel
theorem dX12_mark_63 : decode cX12_mark 63 = .ok (.iadd, 1) := by decide +kernel
theorem dX12_mark_64 : decode cX12_mark 64 = .ok (.imul, 1) := by decide +kernel
theorem dX12_mark_65 : decode cX12_mark 65 = .ok (.iload_n 3, 1) := by decide +kernel
theorem dX12_mark_66 : decode cX12_mark 66 = .ok (.iadd, 1) := by decide +kernel
theorem dX12_mark_67 : decode cX12_mark 67 = .ok (.invokevirtual 302, 3) := by decide +kernel
theorem dX12_mark_70 : decode cX12_mark 70 = .ok (.iinc 3 1, 3) := by decide +kernel
theorem dX12_mark_73 : decode cX12_mark 73 = .ok (.goto (-42), 3) := by decide +kernel
theorem dX12_mark_76 : decode cX12_mark 76 = .ok (.aload_n 0, 1) := by decide +kernel
theorem dX12_mark_77 : decode cX12_mark 77 = .ok (.getfield 87, 3) := by decide +kernel
theorem dX12_mark_80 : decode cX12_mark 80 = .ok (.iload_n 1, 1) := by decide +kernel
theorem dX12_mark_81 : decode cX12_mark 81 = .ok (.iconst 1, 1) := by decide +kernel
theorem dX12_mark_82 : decode cX12_mark 82 = .ok (.bastore, 1) := by decide +kernel
theorem dX12_mark_83 : decode cX12_mark 83 = .ok (.iconst 1, 1) := by decide +kernel
theorem dX12_mark_84 : decode cX12_mark 84 = .ok (.ireturn, 1) := by decide +kernel
set_option maxHeartbeats 4000000 in
set_option maxRecDepth 100000 in
theorem c_X12_mark0 {P : PP} {x : Nat} {b : Int32} (F : FM P x) : CtrI yX12_mark cX12_mark 4 (some Jvm.ClassFile.FieldType.boolean) ({ frames := 5, cells := 0, slots := 0, locals := 320 } : Room) 0 0 P [.ref x, .int b, .int 0] (fun r _ => (r = 1 ∧ (0 ≤ b.toInt ∧ b.toInt < 4)) ∨ (r = 0 ∧ ¬ (0 ≤ b.toInt ∧ b.toInt < 4))) := by
  refine enI (lv := [(0, .ref x), (1, .int b), (2, .int 0)]) (by decide) (Nat.le_of_ble_eq_true rfl) rfl (fun E D cy C Ci0 ret => ?_)
  refine g_aload_n C dX12_mark_0 rfl 0 rfl ?_
  refine g_iconst (v := 0) C dX12_mark_1 (by decide) ?_
  refine g_putI C fi_X12_1 rfl F.1 F.2.1 dX12_mark_2 ?_
  have F := F.thrown (v := 0)
  generalize pSI P x 0 0 = P1 at F ⊢
  obtain ⟨hx, hxK, ok, inj, zp, zs, zm, zt, zo, zh⟩ := F
  refine g_iload_n C dX12_mark_5 rfl 1 rfl ?_
  refine g_iconst (v := 0) C dX12_mark_6 (by decide) ?_
  refine g_iconst (v := 3) C dX12_mark_7 (by decide) ?_
  refine g_callSI (b := 0) (ci := 0) (rest := []) C ms_X12_178 [.int b, .int 0, .int 3] (c_X12_within) rfl rfl (by decide) (Nat.le_of_ble_eq_true rfl) (by decide) dX12_mark_8 (fun r742 Q743 h744 => ?_)
  obtain ⟨rfl, h744⟩ := h744
  rcases h744 with ⟨rfl, h744⟩ | ⟨rfl, h744⟩
  · have h744 : 0 ≤ b.toInt ∧ b.toInt ≤ 3 := h744
    refine b_if_eq C 27 dX12_mark_11 (by decide) (fun h => absurd h (by decide)) (fun _ => ?_)
    refine g_iload_n C dX12_mark_14 rfl 2 rfl ?_
    refine b_if_eq C 29 dX12_mark_15 (by decide) (fun _ => ?_) (fun h => absurd h (by decide))
    refine g_iconst (v := 0) C dX12_mark_29 (by decide) ?_
    refine g_istore_n (lv' := [(3, .int 0), (0, .ref x), (1, .int b), (2, .int 0)]) C dX12_mark_30 rfl (by decide) rfl ?_
    obtain ⟨j745, h746, rfl⟩ := ix_of (x := b) (n := 4) (by omega) (by omega) (by decide)
    have ej745 : (nI j745).toInt = (j745 : Int) := ti_nI (by omega)
    have lp752 : ∀ (n754 i747 : Nat), i747 + n754 = 4 → ∀ (I748 : Nat → Nat → Int32), (∀ b, pR P1 x 20 = some b → ∀ j, I748 b j = 0) → G E ({ frames := 5, cells := 0, slots := 0, locals := 320 } : Room) D cy 4 (pWI P1 I748 (pJ P1)) 0 0 31 [(3, .int (nI i747)), (0, .ref x), (1, .int (nI j745)), (2, .int 0)] [] := by
      intro n754
      induction n754 with
      | zero =>
        intro i747 hi749 I748 hv750
        have ei751 : (nI i747).toInt = (i747 : Int) := ti_nI (by omega)
        refine g_iload_n C dX12_mark_31 rfl 0 rfl ?_
        refine g_iconst (v := 4) C dX12_mark_32 (by decide) ?_
        refine b_icmp_ge C 76 dX12_mark_33 (by decide) (fun h755 => ?_) (fun h755 => ?_)
        · have h755 : 4 ≤ (nI i747).toInt := h755
          refine g_aload_n C dX12_mark_76 rfl 1 rfl ?_
          obtain ⟨b756, h757⟩ := xFd.at (ok x hx) hxK 26 15 4 rfl
          refine g_getR C fi_X12_87 rfl h757.1 hx hxK dX12_mark_77 ?_
          refine g_iload_n C dX12_mark_80 rfl 2 rfl ?_
          refine g_iconst (v := 1) C dX12_mark_81 (by decide) ?_
          refine g_zast (j := j745) C h757.2.1 h757.2.2.1 (IX.inn h757.2.2.2 (by omega) (by decide)) (Or.inr rfl) dX12_mark_82 ?_
          refine g_iconst (v := 1) C dX12_mark_83 (by decide) ?_
          exact ret _ _ _ _ _ _ dX12_mark_84 rfl (by decide) (by decide) (Or.inl ⟨rfl, by first | omega | (intro h9; omega)⟩)
        · have h755 : (nI i747).toInt < 4 := h755
          omega
      | succ n754 ih753 =>
        intro i747 hi749 I748 hv750
        have ei751 : (nI i747).toInt = (i747 : Int) := ti_nI (by omega)
        refine g_iload_n C dX12_mark_31 rfl 0 rfl ?_
        refine g_iconst (v := 4) C dX12_mark_32 (by decide) ?_
        refine b_icmp_ge C 76 dX12_mark_33 (by decide) (fun h758 => ?_) (fun h758 => ?_)
        · have h758 : 4 ≤ (nI i747).toInt := h758
          omega
        · have h758 : (nI i747).toInt < 4 := h758
          refine g_aload_n C dX12_mark_36 rfl 1 rfl ?_
          refine g_iload_n C dX12_mark_37 rfl 3 rfl ?_
          refine b_if_eq C 51 dX12_mark_38 (by decide) (fun _ => ?_) (fun h => absurd h (by decide))
          refine g_iload_n C dX12_mark_51 rfl 0 rfl ?_
          refine g_iload_n C dX12_mark_52 rfl 3 rfl ?_
          refine b_if_eq C 60 dX12_mark_53 (by decide) (fun _ => ?_) (fun h => absurd h (by decide))
          refine g_iconst (v := 4) C dX12_mark_60 (by decide) ?_
          refine g_iload_n C dX12_mark_61 rfl 2 rfl ?_
          refine g_iconst (v := 1) C dX12_mark_62 (by decide) ?_
          refine g_iadd C dX12_mark_63 ?_
          rw [nI_1]
          refine g_imul C dX12_mark_64 ?_
          rw [show ((4 : Int32) * (nI (j745 + 1))) = nI (4 * (j745 + 1)) from pk_mul 4 (j745 + 1)]
          refine g_iload_n C dX12_mark_65 rfl 0 rfl ?_
          refine g_iadd C dX12_mark_66 ?_
          rw [show (((nI (4 * (j745 + 1))) : Int32) + (nI i747)) = nI ((4 * (j745 + 1)) + i747) from nI_add (4 * (j745 + 1)) i747]
          refine g_callVV (rest := []) C mv_X12_302 [.int (nI i747), .int (nI ((4 * (j745 + 1)) + i747))] (c_X12_copies (f := i747) (g := ((4 * (j745 + 1)) + i747)) hx hxK ok inj hv750 (by omega) (by omega)) hx hxK rfl rfl (by decide) (Nat.le_of_ble_eq_true rfl) (by decide) dX12_mark_67 (fun Q760 h761 => ?_)
          obtain ⟨I762, rfl, h761⟩ := h761
          refine g_iinc (v := (nI (i747 + 1))) (lv' := [(3, .int (nI (i747 + 1))), (0, .ref x), (1, .int (nI j745)), (2, .int 0)]) C dX12_mark_70 0 rfl (nI_1 _) (by decide) rfl ?_
          refine g_goto C 31 dX12_mark_73 (by decide) ?_
          exact ih753 (i747 + 1) (by omega) _ (h761)
    exact lp752 4 0 rfl _ (zs)
  · have h744 : ¬ (0 ≤ b.toInt ∧ b.toInt ≤ 3) := h744
    refine b_if_eq C 27 dX12_mark_11 (by decide) (fun _ => ?_) (fun h => absurd h (by decide))
    refine g_iconst (v := 0) C dX12_mark_27 (by decide) ?_
    exact ret _ _ _ _ _ _ dX12_mark_28 rfl (by decide) (by decide) (Or.inr ⟨rfl, by first | omega | (intro h9; omega)⟩)
theorem dX12_mark_18 : decode cX12_mark 18 = .ok (.aload_n 0, 1) := by decide +kernel
theorem dX12_mark_19 : decode cX12_mark 19 = .ok (.getfield 87, 3) := by decide +kernel
theorem dX12_mark_22 : decode cX12_mark 22 = .ok (.iload_n 1, 1) := by decide +kernel
theorem dX12_mark_23 : decode cX12_mark 23 = .ok (.baload, 1) := by decide +kernel
theorem dX12_mark_24 : decode cX12_mark 24 = .ok (.ifCond .ne 5, 3) := by decide +kernel
set_option maxHeartbeats 4000000 in
set_option maxRecDepth 100000 in
theorem c_X12_mark1 {P : PP} {x : Nat} {b : Int32} (F : FM P x) : CtrI yX12_mark cX12_mark 4 (some Jvm.ClassFile.FieldType.boolean) ({ frames := 5, cells := 0, slots := 0, locals := 320 } : Room) 0 0 P [.ref x, .int b, .int 1] (fun r _ => r = 0) := by
  refine enI (lv := [(0, .ref x), (1, .int b), (2, .int 1)]) (by decide) (Nat.le_of_ble_eq_true rfl) rfl (fun E D cy C Ci0 ret => ?_)
  refine g_aload_n C dX12_mark_0 rfl 0 rfl ?_
  refine g_iconst (v := 0) C dX12_mark_1 (by decide) ?_
  refine g_putI C fi_X12_1 rfl F.1 F.2.1 dX12_mark_2 ?_
  have F := F.thrown (v := 0)
  generalize pSI P x 0 0 = P1 at F ⊢
  obtain ⟨hx, hxK, ok, inj, zp, zs, zm, zt, zo, zh⟩ := F
  refine g_iload_n C dX12_mark_5 rfl 1 rfl ?_
  refine g_iconst (v := 0) C dX12_mark_6 (by decide) ?_
  refine g_iconst (v := 3) C dX12_mark_7 (by decide) ?_
  refine g_callSI (b := 0) (ci := 0) (rest := []) C ms_X12_178 [.int b, .int 0, .int 3] (c_X12_within) rfl rfl (by decide) (Nat.le_of_ble_eq_true rfl) (by decide) dX12_mark_8 (fun r763 Q764 h765 => ?_)
  obtain ⟨rfl, h765⟩ := h765
  rcases h765 with ⟨rfl, h765⟩ | ⟨rfl, h765⟩
  · have h765 : 0 ≤ b.toInt ∧ b.toInt ≤ 3 := h765
    refine b_if_eq C 27 dX12_mark_11 (by decide) (fun h => absurd h (by decide)) (fun _ => ?_)
    refine g_iload_n C dX12_mark_14 rfl 2 rfl ?_
    refine b_if_eq C 29 dX12_mark_15 (by decide) (fun h => absurd h (by decide)) (fun _ => ?_)
    refine g_aload_n C dX12_mark_18 rfl 0 rfl ?_
    obtain ⟨b766, h767⟩ := xFd.at (ok x hx) hxK 26 15 4 rfl
    refine g_getR C fi_X12_87 rfl h767.1 hx hxK dX12_mark_19 ?_
    refine g_iload_n C dX12_mark_22 rfl 1 rfl ?_
    refine g_zald (j := (b.toInt.toNat)) C h767.2.1 h767.2.2.1 (IX.intn (i := b) h767.2.2.2 (by omega) (by omega)) dX12_mark_23 ?_
    rw [show pI P1 b766 ((b.toInt.toNat)) = 0 from by rw [(KF.rf (fs := []) (P := P1) (x := x)).at (f := 26) (by decide) h767.1]; exact zm _ h767.1 _]
    refine b_if_ne C 29 dX12_mark_24 (by decide) (fun h => absurd h (by decide)) (fun _ => ?_)
    refine g_iconst (v := 0) C dX12_mark_27 (by decide) ?_
    exact ret _ _ _ _ _ _ dX12_mark_28 rfl (by decide) (by decide) (rfl)
  · have h765 : ¬ (0 ≤ b.toInt ∧ b.toInt ≤ 3) := h765
    refine b_if_eq C 27 dX12_mark_11 (by decide) (fun _ => ?_) (fun h => absurd h (by decide))
    refine g_iconst (v := 0) C dX12_mark_27 (by decide) ?_
    exact ret _ _ _ _ _ _ dX12_mark_28 rfl (by decide) (by decide) (rfl)
theorem dX12_allOf_0 : decode cX12_allOf 0 = .ok (.aload_n 0, 1) := by decide +kernel
theorem dX12_allOf_1 : decode cX12_allOf 1 = .ok (.getfield 45, 3) := by decide +kernel
theorem dX12_allOf_4 : decode cX12_allOf 4 = .ok (.iload_n 1, 1) := by decide +kernel
theorem dX12_allOf_5 : decode cX12_allOf 5 = .ok (.iaload, 1) := by decide +kernel
theorem dX12_allOf_6 : decode cX12_allOf 6 = .ok (.ifCond .ne 7, 3) := by decide +kernel
theorem dX12_allOf_9 : decode cX12_allOf 9 = .ok (.iconst 0, 1) := by decide +kernel
theorem dX12_allOf_10 : decode cX12_allOf 10 = .ok (.goto 16, 3) := by decide +kernel
theorem dX12_allOf_26 : decode cX12_allOf 26 = .ok (.ireturn, 1) := by decide +kernel
set_option maxHeartbeats 4000000 in
set_option maxRecDepth 100000 in
theorem c_X12_allOf {P : PP} {x j : Nat} (F : FM P x) (hj : j < 2) : CtrI yX12_allOf cX12_allOf 2 (some Jvm.ClassFile.FieldType.int) ({ frames := 1, cells := 0, slots := 0, locals := 64 } : Room) 0 0 P [.ref x, .int (nI j)] (fun r P2 => P = P2 ∧ r = 0) := by
  obtain ⟨hx, hxK, ok, inj, zp, zs, zm, zt, zo, zh⟩ := F
  refine enI (lv := [(0, .ref x), (1, .int (nI j))]) (by decide) (Nat.le_of_ble_eq_true rfl) rfl (fun E D cy C Ci0 ret => ?_)
  refine g_aload_n C dX12_allOf_0 rfl 0 rfl ?_
  obtain ⟨b768, h769⟩ := xFd.at (ok x hx) hxK 10 13 2 rfl
  refine g_getR C fi_X12_45 rfl h769.1 hx hxK dX12_allOf_1 ?_
  refine g_iload_n C dX12_allOf_4 rfl 1 rfl ?_
  refine g_iald (j := j) C h769.2.1 h769.2.2.1 (IX.inn h769.2.2.2 (by omega) (by decide)) dX12_allOf_5 ?_
  rw [show pI P b768 j = 0 from zp _ h769.1 _]
  refine b_if_ne C 13 dX12_allOf_6 (by decide) (fun h => absurd h (by decide)) (fun _ => ?_)
  refine g_iconst (v := 0) C dX12_allOf_9 (by decide) ?_
  refine g_goto C 26 dX12_allOf_10 (by decide) ?_
  exact ret _ _ _ _ _ _ dX12_allOf_26 rfl (by decide) (by decide) (⟨rfl, rfl⟩)
theorem dX12_allHouses_0 : decode cX12_allHouses 0 = .ok (.iconst 0, 1) := by decide +kernel
theorem dX12_allHouses_1 : decode cX12_allHouses 1 = .ok (.istore_n 1, 1) := by decide +kernel
theorem dX12_allHouses_2 : decode cX12_allHouses 2 = .ok (.iconst 0, 1) := by decide +kernel
theorem dX12_allHouses_3 : decode cX12_allHouses 3 = .ok (.istore_n 2, 1) := by decide +kernel
theorem dX12_allHouses_4 : decode cX12_allHouses 4 = .ok (.iload_n 2, 1) := by decide +kernel
theorem dX12_allHouses_5 : decode cX12_allHouses 5 = .ok (.iconst 4, 1) := by decide +kernel
theorem dX12_allHouses_6 : decode cX12_allHouses 6 = .ok (.if_icmp .ge 18, 3) := by decide +kernel
theorem dX12_allHouses_9 : decode cX12_allHouses 9 = .ok (.iload_n 1, 1) := by decide +kernel
theorem dX12_allHouses_10 : decode cX12_allHouses 10 = .ok (.aload_n 0, 1) := by decide +kernel
theorem dX12_allHouses_11 : decode cX12_allHouses 11 = .ok (.getfield 130, 3) := by decide +kernel
theorem dX12_allHouses_14 : decode cX12_allHouses 14 = .ok (.iload_n 2, 1) := by decide +kernel
theorem dX12_allHouses_15 : decode cX12_allHouses 15 = .ok (.iaload, 1) := by decide +kernel
theorem dX12_allHouses_16 : decode cX12_allHouses 16 = .ok (.iadd, 1) := by decide +kernel
theorem dX12_allHouses_17 : decode cX12_allHouses 17 = .ok (.istore_n 1, 1) := by decide +kernel
theorem dX12_allHouses_18 : decode cX12_allHouses 18 = .ok (.iinc 2 1, 3) := by decide +kernel
theorem dX12_allHouses_21 : decode cX12_allHouses 21 = .ok (.goto (-17), 3) := by decide +kernel
theorem dX12_allHouses_24 : decode cX12_allHouses 24 = .ok (.iload_n 1, 1) := by decide +kernel
theorem dX12_allHouses_25 : decode cX12_allHouses 25 = .ok (.ireturn, 1) := by decide +kernel
set_option maxHeartbeats 4000000 in
set_option maxRecDepth 100000 in
theorem c_X12_allHouses {P : PP} {x : Nat} (F : FM P x) : CtrI yX12_allHouses cX12_allHouses 3 (some Jvm.ClassFile.FieldType.int) ({ frames := 1, cells := 0, slots := 0, locals := 64 } : Room) 0 0 P [.ref x] (fun r P2 => r = 4) := by
  obtain ⟨hx, hxK, ok, inj, zp, zs, zm, zt, zo, zh⟩ := F
  refine enI (lv := [(0, .ref x)]) (by decide) (Nat.le_of_ble_eq_true rfl) rfl (fun E D cy C Ci0 ret => ?_)
  refine g_iconst (v := 0) C dX12_allHouses_0 (by decide) ?_
  refine g_istore_n (lv' := [(1, .int 0), (0, .ref x)]) C dX12_allHouses_1 rfl (by decide) rfl ?_
  refine g_iconst (v := 0) C dX12_allHouses_2 (by decide) ?_
  refine g_istore_n (lv' := [(2, .int 0), (1, .int 0), (0, .ref x)]) C dX12_allHouses_3 rfl (by decide) rfl ?_
  have lp775 : ∀ (n777 i770 : Nat), i770 + n777 = 4 → ∀ (I771 : Nat → Nat → Int32), (I771 = pI P) → G E ({ frames := 1, cells := 0, slots := 0, locals := 64 } : Room) D cy 3 (pWI P I771 (pJ P)) 0 0 4 [(2, .int (nI i770)), (1, .int (nI i770)), (0, .ref x)] [] := by
    intro n777
    induction n777 with
    | zero =>
      intro i770 hi772 I771 hv773
      have ei774 : (nI i770).toInt = (i770 : Int) := ti_nI (by omega)
      refine g_iload_n C dX12_allHouses_4 rfl 0 rfl ?_
      refine g_iconst (v := 4) C dX12_allHouses_5 (by decide) ?_
      refine b_icmp_ge C 24 dX12_allHouses_6 (by decide) (fun h778 => ?_) (fun h778 => ?_)
      · have h778 : 4 ≤ (nI i770).toInt := h778
        refine g_iload_n C dX12_allHouses_24 rfl 1 rfl ?_
        exact ret _ _ _ _ _ _ dX12_allHouses_25 rfl (by decide) (by decide) (by rw [show i770 = 4 by omega]; rfl)
      · have h778 : (nI i770).toInt < 4 := h778
        omega
    | succ n777 ih776 =>
      intro i770 hi772 I771 hv773
      have ei774 : (nI i770).toInt = (i770 : Int) := ti_nI (by omega)
      refine g_iload_n C dX12_allHouses_4 rfl 0 rfl ?_
      refine g_iconst (v := 4) C dX12_allHouses_5 (by decide) ?_
      refine b_icmp_ge C 24 dX12_allHouses_6 (by decide) (fun h779 => ?_) (fun h779 => ?_)
      · have h779 : 4 ≤ (nI i770).toInt := h779
        omega
      · have h779 : (nI i770).toInt < 4 := h779
        refine g_iload_n C dX12_allHouses_9 rfl 1 rfl ?_
        refine g_aload_n C dX12_allHouses_10 rfl 2 rfl ?_
        obtain ⟨b780, h781⟩ := xFd.at (ok x hx) hxK 46 13 4 rfl
        refine g_getR C fi_X12_130 rfl h781.1 hx hxK dX12_allHouses_11 ?_
        refine g_iload_n C dX12_allHouses_14 rfl 0 rfl ?_
        refine g_iald (j := i770) C h781.2.1 h781.2.2.1 (IX.inn h781.2.2.2 (by omega) (by decide)) dX12_allHouses_15 ?_
        rw [show pI (pWI P I771 (pJ P)) b780 i770 = 1 from by rw [show pI (pWI P I771 (pJ P)) b780 = pI P b780 from congrFun hv773 b780]; exact zh _ h781.1 _ (by omega)]
        refine g_iadd C dX12_allHouses_16 ?_
        rw [nI_1]
        refine g_istore_n (lv' := [(1, .int (nI (i770 + 1))), (2, .int (nI i770)), (0, .ref x)]) C dX12_allHouses_17 rfl (by decide) rfl ?_
        refine g_iinc (v := (nI (i770 + 1))) (lv' := [(2, .int (nI (i770 + 1))), (1, .int (nI (i770 + 1))), (0, .ref x)]) C dX12_allHouses_18 1 rfl (nI_1 _) (by decide) rfl ?_
        refine g_goto C 4 dX12_allHouses_21 (by decide) ?_
        exact ih776 (i770 + 1) (by omega) _ (hv773)
  exact lp775 4 0 rfl _ (rfl)
theorem dX12_count_0 : decode cX12_count 0 = .ok (.aload_n 0, 1) := by decide +kernel
theorem dX12_count_1 : decode cX12_count 1 = .ok (.iconst 0, 1) := by decide +kernel
theorem dX12_count_2 : decode cX12_count 2 = .ok (.putfield 1, 3) := by decide +kernel
theorem dX12_count_5 : decode cX12_count 5 = .ok (.iload_n 1, 1) := by decide +kernel
theorem dX12_count_6 : decode cX12_count 6 = .ok (.iconst 0, 1) := by decide +kernel
theorem dX12_count_7 : decode cX12_count 7 = .ok (.iconst 3, 1) := by decide +kernel
theorem dX12_count_8 : decode cX12_count 8 = .ok (.invokestatic 178, 3) := by decide +kernel
theorem dX12_count_11 : decode cX12_count 11 = .ok (.ifCond .eq 10, 3) := by decide +kernel
theorem dX12_count_14 : decode cX12_count 14 = .ok (.aload_n 0, 1) := by decide +kernel
theorem dX12_count_15 : decode cX12_count 15 = .ok (.getfield 69, 3) := by decide +kernel
theorem dX12_count_18 : decode cX12_count 18 = .ok (.iload_n 1, 1) := by decide +kernel
theorem dX12_count_19 : decode cX12_count 19 = .ok (.iaload, 1) := by decide +kernel
theorem dX12_count_20 : decode cX12_count 20 = .ok (.ireturn, 1) := by decide +kernel
theorem dX12_count_21 : decode cX12_count 21 = .ok (.iload_n 1, 1) := by decide +kernel
theorem dX12_count_22 : decode cX12_count 22 = .ok (.tableswitch 61 4 8 #[34, 40, 46, 51, 56], 34) := by decide +kernel
theorem dX12_count_56 : decode cX12_count 56 = .ok (.aload_n 0, 1) := by decide +kernel
theorem dX12_count_57 : decode cX12_count 57 = .ok (.iconst 0, 1) := by decide +kernel
theorem dX12_count_58 : decode cX12_count 58 = .ok (.invokevirtual 238, 3) := by decide +kernel
theorem dX12_count_61 : decode cX12_count 61 = .ok (.ireturn, 1) := by decide +kernel
theorem dX12_count_62 : decode cX12_count 62 = .ok (.aload_n 0, 1) := by decide +kernel
theorem dX12_count_63 : decode cX12_count 63 = .ok (.iconst 1, 1) := by decide +kernel
theorem dX12_count_64 : decode cX12_count 64 = .ok (.invokevirtual 238, 3) := by decide +kernel
theorem dX12_count_67 : decode cX12_count 67 = .ok (.ireturn, 1) := by decide +kernel
theorem dX12_count_68 : decode cX12_count 68 = .ok (.aload_n 0, 1) := by decide +kernel
theorem dX12_count_69 : decode cX12_count 69 = .ok (.getfield 11, 3) := by decide +kernel
theorem dX12_count_72 : decode cX12_count 72 = .ok (.ireturn, 1) := by decide +kernel
theorem dX12_count_73 : decode cX12_count 73 = .ok (.aload_n 0, 1) := by decide +kernel
theorem dX12_count_74 : decode cX12_count 74 = .ok (.getfield 288, 3) := by decide +kernel
theorem dX12_count_77 : decode cX12_count 77 = .ok (.ireturn, 1) := by decide +kernel
theorem dX12_count_78 : decode cX12_count 78 = .ok (.aload_n 0, 1) := by decide +kernel
theorem dX12_count_79 : decode cX12_count 79 = .ok (.invokevirtual 411, 3) := by decide +kernel
theorem dX12_count_82 : decode cX12_count 82 = .ok (.ireturn, 1) := by decide +kernel
theorem dX12_count_83 : decode cX12_count 83 = .ok (.iconst (-1), 1) := by decide +kernel
theorem dX12_count_84 : decode cX12_count 84 = .ok (.ireturn, 1) := by decide +kernel
set_option maxHeartbeats 4000000 in
set_option maxRecDepth 100000 in
theorem c_X12_count {P : PP} {x : Nat} {w : Int32} (F : FM P x) : CtrI yX12_count cX12_count 2 (some Jvm.ClassFile.FieldType.int) ({ frames := 5, cells := 0, slots := 0, locals := 320 } : Room) 0 0 P [.ref x, .int w] (fun r _ => (0 ≤ w.toInt ∧ w.toInt ≤ 7 ∧ r = 0) ∨ (w.toInt = 8 ∧ r = 4) ∨ ((w.toInt < 0 ∨ 8 < w.toInt) ∧ r = -1)) := by
  refine enI (lv := [(0, .ref x), (1, .int w)]) (by decide) (Nat.le_of_ble_eq_true rfl) rfl (fun E D cy C Ci0 ret => ?_)
  refine g_aload_n C dX12_count_0 rfl 0 rfl ?_
  refine g_iconst (v := 0) C dX12_count_1 (by decide) ?_
  refine g_putI C fi_X12_1 rfl F.1 F.2.1 dX12_count_2 ?_
  have F := F.thrown (v := 0)
  generalize pSI P x 0 0 = P1 at F ⊢
  obtain ⟨hx, hxK, ok, inj, zp, zs, zm, zt, zo, zh⟩ := F
  refine g_iload_n C dX12_count_5 rfl 1 rfl ?_
  refine g_iconst (v := 0) C dX12_count_6 (by decide) ?_
  refine g_iconst (v := 3) C dX12_count_7 (by decide) ?_
  refine g_callSI (b := 0) (ci := 0) (rest := []) C ms_X12_178 [.int w, .int 0, .int 3] (c_X12_within) rfl rfl (by decide) (Nat.le_of_ble_eq_true rfl) (by decide) dX12_count_8 (fun r782 Q783 h784 => ?_)
  obtain ⟨rfl, h784⟩ := h784
  rcases h784 with ⟨rfl, h784⟩ | ⟨rfl, h784⟩
  · have h784 : 0 ≤ w.toInt ∧ w.toInt ≤ 3 := h784
    refine b_if_eq C 21 dX12_count_11 (by decide) (fun h => absurd h (by decide)) (fun _ => ?_)
    refine g_aload_n C dX12_count_14 rfl 0 rfl ?_
    obtain ⟨b785, h786⟩ := xFd.at (ok x hx) hxK 20 13 20 rfl
    refine g_getR C fi_X12_69 rfl h786.1 hx hxK dX12_count_15 ?_
    refine g_iload_n C dX12_count_18 rfl 1 rfl ?_
    refine g_iald (j := (w.toInt.toNat)) C h786.2.1 h786.2.2.1 (IX.intn (i := w) h786.2.2.2 (by omega) (by omega)) dX12_count_19 ?_
    rw [show pI P1 b785 ((w.toInt.toNat)) = 0 from by rw [(KF.rf (fs := []) (P := P1) (x := x)).at (f := 20) (by decide) h786.1]; exact zs _ h786.1 _]
    exact ret _ _ _ _ _ _ dX12_count_20 rfl (by decide) (by decide) (Or.inl ⟨by omega, by omega, rfl⟩)
  · have h784 : ¬ (0 ≤ w.toInt ∧ w.toInt ≤ 3) := h784
    refine b_if_eq C 21 dX12_count_11 (by decide) (fun _ => ?_) (fun h => absurd h (by decide))
    refine g_iload_n C dX12_count_21 rfl 1 rfl ?_
    by_cases h787 : w.toInt < 4 ∨ 8 < w.toInt
    · refine g_tableOut C 83 dX12_count_22 h787 (by decide) ?_
      refine g_iconst (v := (-1)) C dX12_count_83 (by decide) ?_
      exact ret _ _ _ _ _ _ dX12_count_84 rfl (by decide) (by decide) (Or.inr (Or.inr ⟨by omega, rfl⟩))
    · rcases (show w.toInt = 4 ∨ w.toInt = 5 ∨ w.toInt = 6 ∨ w.toInt = 7 ∨ w.toInt = 8 by omega) with h788 | h788 | h788 | h788 | h788
      · refine g_tableIn C 56 dX12_count_22 (by omega) (by omega) (by rw [h788]; rfl) (by decide) ?_
        refine g_aload_n C dX12_count_56 rfl 0 rfl ?_
        refine g_iconst (v := 0) C dX12_count_57 (by decide) ?_
        refine g_callVI (rest := []) C mv_X12_238 [.int 0] (c_X12_allOf (j := 0) ⟨hx, hxK, ok, inj, zp, zs, zm, zt, zo, zh⟩ (by decide)) hx hxK rfl rfl (by decide) (Nat.le_of_ble_eq_true rfl) (by decide) dX12_count_58 (fun r789 Q790 h791 => ?_)
        obtain ⟨rfl, rfl⟩ := h791
        exact ret _ _ _ _ _ _ dX12_count_61 rfl (by decide) (by decide) (Or.inl ⟨by omega, by omega, rfl⟩)
      · refine g_tableIn C 62 dX12_count_22 (by omega) (by omega) (by rw [h788]; rfl) (by decide) ?_
        refine g_aload_n C dX12_count_62 rfl 0 rfl ?_
        refine g_iconst (v := 1) C dX12_count_63 (by decide) ?_
        refine g_callVI (rest := []) C mv_X12_238 [.int 1] (c_X12_allOf (j := 1) ⟨hx, hxK, ok, inj, zp, zs, zm, zt, zo, zh⟩ (by decide)) hx hxK rfl rfl (by decide) (Nat.le_of_ble_eq_true rfl) (by decide) dX12_count_64 (fun r792 Q793 h794 => ?_)
        obtain ⟨rfl, rfl⟩ := h794
        exact ret _ _ _ _ _ _ dX12_count_67 rfl (by decide) (by decide) (Or.inl ⟨by omega, by omega, rfl⟩)
      · refine g_tableIn C 68 dX12_count_22 (by omega) (by omega) (by rw [h788]; rfl) (by decide) ?_
        refine g_aload_n C dX12_count_68 rfl 0 rfl ?_
        refine g_getI C fi_X12_11 (by decide) hx hxK dX12_count_69 ?_
        rw [show pI P1 x 2 = 0 from zt]
        exact ret _ _ _ _ _ _ dX12_count_72 rfl (by decide) (by decide) (Or.inl ⟨by omega, by omega, rfl⟩)
      · refine g_tableIn C 73 dX12_count_22 (by omega) (by omega) (by rw [h788]; rfl) (by decide) ?_
        refine g_aload_n C dX12_count_73 rfl 0 rfl ?_
        refine g_getI C fi_X12_288 (by decide) hx hxK dX12_count_74 ?_
        rw [show pI P1 x 27 = 0 from zo]
        exact ret _ _ _ _ _ _ dX12_count_77 rfl (by decide) (by decide) (Or.inl ⟨by omega, by omega, rfl⟩)
      · refine g_tableIn C 78 dX12_count_22 (by omega) (by omega) (by rw [h788]; rfl) (by decide) ?_
        refine g_aload_n C dX12_count_78 rfl 0 rfl ?_
        refine g_callVI (rest := []) C mv_X12_411 [] (c_X12_allHouses ⟨hx, hxK, ok, inj, zp, zs, zm, zt, zo, zh⟩) hx hxK rfl rfl (by decide) (Nat.le_of_ble_eq_true rfl) (by decide) dX12_count_79 (fun r795 Q796 h797 => ?_)
        subst h797
        exact ret _ _ _ _ _ _ dX12_count_82 rfl (by decide) (by decide) (Or.inr (Or.inl ⟨by omega, rfl⟩))
theorem dX12_paper_0 : decode cX12_paper 0 = .ok (.aload_n 0, 1) := by decide +kernel
theorem dX12_paper_1 : decode cX12_paper 1 = .ok (.aload_n 0, 1) := by decide +kernel
theorem dX12_paper_2 : decode cX12_paper 2 = .ok (.iload_n 1, 1) := by decide +kernel
theorem dX12_paper_3 : decode cX12_paper 3 = .ok (.iload_n 2, 1) := by decide +kernel
theorem dX12_paper_4 : decode cX12_paper 4 = .ok (.invokevirtual 298, 3) := by decide +kernel
theorem dX12_paper_7 : decode cX12_paper 7 = .ok (.ifCond .eq 16, 3) := by decide +kernel
theorem dX12_paper_23 : decode cX12_paper 23 = .ok (.iconst 1, 1) := by decide +kernel
theorem dX12_paper_24 : decode cX12_paper 24 = .ok (.putfield 1, 3) := by decide +kernel
theorem dX12_paper_27 : decode cX12_paper 27 = .ok (.aload_n 0, 1) := by decide +kernel
theorem dX12_paper_28 : decode cX12_paper 28 = .ok (.getfield 1, 3) := by decide +kernel
theorem dX12_paper_31 : decode cX12_paper 31 = .ok (.ifCond .le 5, 3) := by decide +kernel
theorem dX12_paper_34 : decode cX12_paper 34 = .ok (.iconst 0, 1) := by decide +kernel
theorem dX12_paper_35 : decode cX12_paper 35 = .ok (.ireturn, 1) := by decide +kernel
set_option maxHeartbeats 4000000 in
set_option maxRecDepth 100000 in
theorem c_X12_paper {P : PP} {x : Nat} {p0 : Int32} {p1 : Int32} {p2 : Int32} (F : FM P x) : CtrI yX12_paper cX12_paper 5 (some Jvm.ClassFile.FieldType.int) ({ frames := 5, cells := 0, slots := 0, locals := 320 } : Room) 0 0 P [.ref x, .int p0, .int p1, .int p2] (fun r P2 => r = 0 ∧ x ∈ pL P2 ∧ pK P2 x = 12 ∧ pI P2 x 0 = 1) := by
  obtain ⟨hx, hxK, ok, inj, zp, zs, zm, zt, zo, zh⟩ := F
  refine enI (lv := [(0, .ref x), (1, .int p0), (2, .int p1), (3, .int p2)]) (by decide) (Nat.le_of_ble_eq_true rfl) rfl (fun E D cy C Ci0 ret => ?_)
  refine g_aload_n C dX12_paper_0 rfl 0 rfl ?_
  refine g_aload_n C dX12_paper_1 rfl 0 rfl ?_
  refine g_iload_n C dX12_paper_2 rfl 1 rfl ?_
  refine g_iload_n C dX12_paper_3 rfl 2 rfl ?_
  refine g_callVI (rest := [.ref x]) C mv_X12_298 [.int p0, .int p1] (c_X12_isPaper ⟨hx, hxK, ok, inj, zp, zs, zm, zt, zo, zh⟩) hx hxK rfl rfl (by decide) (Nat.le_of_ble_eq_true rfl) (by decide) dX12_paper_4 (fun r798 Q799 h800 => ?_)
  obtain ⟨rfl, rfl⟩ := h800
  refine b_if_eq C 23 dX12_paper_7 (by decide) (fun _ => ?_) (fun h => absurd h (by decide))
  refine g_iconst (v := 1) C dX12_paper_23 (by decide) ?_
  refine g_putI C fi_X12_1 rfl hx hxK dX12_paper_24 ?_
  refine g_aload_n C dX12_paper_27 rfl 0 rfl ?_
  refine g_getI C fi_X12_1 (by decide) hx hxK dX12_paper_28 ?_
  rw [show pI (pSI P x 0 1) x 0 = 1 from by simp [pSI, pI, va_up]]
  refine b_if_le C 36 dX12_paper_31 (by decide) (fun h => absurd h (by decide)) (fun _ => ?_)
  refine g_iconst (v := 0) C dX12_paper_34 (by decide) ?_
  exact ret _ _ _ _ _ _ dX12_paper_35 rfl (by decide) (by decide) (⟨rfl, hx, hxK, by simp [pSI, pI, va_up]⟩)
theorem dX12_thrown_0 : decode cX12_thrown 0 = .ok (.aload_n 0, 1) := by decide +kernel
theorem dX12_thrown_1 : decode cX12_thrown 1 = .ok (.getfield 1, 3) := by decide +kernel
theorem dX12_thrown_4 : decode cX12_thrown 4 = .ok (.ireturn, 1) := by decide +kernel
set_option maxHeartbeats 4000000 in
set_option maxRecDepth 100000 in
theorem c_X12_thrown {P : PP} {x : Nat} (hx : x ∈ pL P) (hxK : pK P x = 12) (h1 : pI P x 0 = 1) : CtrI yX12_thrown cX12_thrown 1 (some Jvm.ClassFile.FieldType.int) ({ frames := 1, cells := 0, slots := 0, locals := 64 } : Room) 0 0 P [.ref x] (fun r P2 => P = P2 ∧ r = 1) := by
  refine enI (lv := [(0, .ref x)]) (by decide) (Nat.le_of_ble_eq_true rfl) rfl (fun E D cy C Ci0 ret => ?_)
  refine g_aload_n C dX12_thrown_0 rfl 0 rfl ?_
  refine g_getI C fi_X12_1 (by decide) hx hxK dX12_thrown_1 ?_
  rw [show pI P x 0 = 1 from h1]
  exact ret _ _ _ _ _ _ dX12_thrown_4 rfl (by decide) (by decide) (⟨rfl, rfl⟩)
