/-! OBJECTS THAT ARE BEING MADE -/
/-- numbers are in their ranges, papers' arrays are empty, a tape has no signs -/
def zG (P : PP) : Prop := ∀ b, b ∈ pL P → (∀ k, rgOk (pK P b) k (pI P b k)) ∧ (pK P b = 20 → ∀ j, pR P b j = none) ∧ (pK P b = 9 → pI P b 1 = 0)
theorem zG.new {P : PP} {q kd n : Nat} (h : zG P) (hq : q ∉ pL P) : zG (pNw P q kd n) := by
  intro b hb
  rcases mem_new hb with hb | rfl
  · have x := xExt.new (S := []) (kd := kd) (n := n) hq
    rw [(x.1 b hb).2.1, (x.2 b hb List.not_mem_nil).1, (x.2 b hb List.not_mem_nil).2.1]
    exact h b hb
  · rw [I_new, R_new]; exact ⟨fun k => rgOk.zero _ k, fun _ _ => rfl, fun _ => rfl⟩
theorem zG.setI {P : PP} {a k : Nat} {v : Int32} (h : zG P) (hk : rgOk (pK P a) k v) (h9 : pK P a ≠ 9) : zG (pSI P a k v) := by
  intro b hb
  refine ⟨fun j => ?_, (h b hb).2.1, fun e => by
    have hne : b ≠ a := fun z => h9 (by rw [← z]; exact e)
    show va_up (pI P) a (va_up (pI P a) k v) b 1 = 0
    rw [up_ne hne]; exact (h b hb).2.2 e⟩
  show rgOk (pK P b) j (va_up (pI P) a (va_up (pI P a) k v) b j)
  by_cases e : b = a
  · subst e
    rw [up_self]
    by_cases ej : j = k
    · subst ej; rw [up_self]; exact hk
    · rw [up_ne ej]; exact (h b hb).1 j
  · rw [up_ne e]; exact (h b hb).1 j
theorem zG.setR {P : PP} {a k : Nat} {v : Option Nat} (h : zG P) (ha : pK P a ≠ 20) : zG (pSR P a k v) := by
  intro b hb
  refine ⟨(h b hb).1, fun hk j => ?_, (h b hb).2.2⟩
  have hne : b ≠ a := fun e => ha (e ▸ hk)
  show va_up (pR P) a _ b j = none
  rw [up_ne hne]
  exact (h b hb).2.1 hk j
theorem shp_c {c k : Nat} (h : (shp c k).isSome = true) : c < 13 := by
  unfold shp at h
  split at h <;> first | omega | simp at h
def yDn (S : List Nat) (P0 P : PP) (a : Nat) (ks : List Nat) : Prop := xDn S P0 P a ks ∧ zG P ∧ (∀ k b, pR P a k = some b → k ∈ ks ∧ b ∉ pL P0 ∧ b ∈ pL P ∧ (13 ≤ pK P b → ∀ j, pI P b j = 0)) ∧ (∀ k k2 b, pR P a k = some b → pR P a k2 = some b → k = k2) ∧ pI P a = pI P0 a
theorem yDn.zero {S : List Nat} {P : PP} {a : Nat} (ha : a ∈ pL P) (h : xAG (a :: S) P) (z : zG P) (hr : ∀ k, pR P a k = none) : yDn S P P a [] :=
  ⟨xDn.zero ha h, z, fun k b q => absurd q (by rw [hr k]; simp), fun k k2 b q => absurd q (by rw [hr k]; simp), rfl⟩
theorem yDn.mem {S : List Nat} {P0 P : PP} {a : Nat} {ks : List Nat} (h : yDn S P0 P a ks) : a ∈ pL P := h.1.mem
theorem yDn.kind {S : List Nat} {P0 P : PP} {a : Nat} {ks : List Nat} (h : yDn S P0 P a ks) : pK P a = pK P0 a := h.1.kind
theorem yDn.sub {S : List Nat} {P0 P : PP} {a q : Nat} {ks : List Nat} (h : yDn S P0 P a ks) (hq : q ∉ pL P) : q ∉ pL P0 := fun z => hq (h.1.1.1 q z).1
theorem yDn.ext {S : List Nat} {P0 P P2 : PP} {a : Nat} {ks : List Nat} (h : yDn S P0 P a ks) (x : xExt [] P P2) (hg : xAG (a :: S) P2) (z : zG P2) : yDn S P0 P2 a ks := by
  have hm := h.mem
  have e := x.2 a hm List.not_mem_nil
  refine ⟨h.1.ext x hg, z, fun k b q => ?_, fun k k2 b q q2 => ?_, e.1.trans h.2.2.2.2⟩
  · rw [e.2.1] at q
    obtain ⟨r1, r2, r3, r4⟩ := h.2.2.1 k b q
    refine ⟨r1, r2, (x.1 b r3).1, fun hk j => ?_⟩
    rw [(x.1 b r3).2.1] at hk
    rw [(x.2 b r3 List.not_mem_nil).1]; exact r4 hk j
  · rw [e.2.1] at q q2; exact h.2.2.2.1 k k2 b q q2
theorem yDn.put {S : List Nat} {P0 P : PP} {a k b kd n : Nat} {ks : List Nat} (h : yDn S P0 P a ks) (hs : shp (pK P0 a) k = some (kd, n)) (hb : b ∈ pL P) (hk : pK P b = kd) (hn : pN P b = n) (hnew : b ∉ pL P0) (hfr : ∀ k, pR P a k ≠ some b) (hz : 13 ≤ kd → ∀ j, pI P b j = 0) : yDn S P0 (pSR P a k (some b)) a (k :: ks) := by
  have e : ∀ j, pR (pSR P a k (some b)) a j = if j = k then some b else pR P a j := fun j => by simp [pSR, pR, va_up]
  refine ⟨h.1.put hs hb hk hn, h.2.1.setR (by rw [h.kind]; have := shp_c (c := pK P0 a) (k := k) (by rw [hs]; rfl); omega), fun j c q => ?_, fun j j2 c q q2 => ?_, h.2.2.2.2⟩
  · rw [e] at q
    by_cases hj : j = k
    · rw [if_pos hj] at q; cases q
      exact ⟨hj ▸ List.mem_cons_self, hnew, hb, fun h13 => hz (by rw [← hk]; exact h13)⟩
    · rw [if_neg hj] at q
      obtain ⟨r1, r2, r3, r4⟩ := h.2.2.1 j c q
      exact ⟨List.mem_cons_of_mem _ r1, r2, r3, r4⟩
  · rw [e] at q q2
    by_cases hj : j = k <;> by_cases hj2 : j2 = k
    · rw [hj, hj2]
    · rw [if_pos hj] at q; rw [if_neg hj2] at q2; cases q; exact absurd q2 (hfr j2)
    · rw [if_neg hj] at q; rw [if_pos hj2] at q2; cases q2; exact absurd q (hfr j)
    · rw [if_neg hj] at q; rw [if_neg hj2] at q2; exact h.2.2.2.1 j j2 c q q2
theorem yDn.newA {S : List Nat} {P0 P : PP} {a q kd n : Nat} {ks : List Nat} (h : yDn S P0 P a ks) (hq : q ∉ pL P) (h1 : 13 ≤ kd) (h2 : kd < 16 ∨ 19 < kd) : yDn S P0 (pNw P q kd n) a ks :=
  h.ext (xExt.new hq) (h.1.2.1.newA hq h1 h2) (h.2.1.new hq)
theorem yDn.nofield {S : List Nat} {P0 P : PP} {a q : Nat} {ks : List Nat} (h : yDn S P0 P a ks) (hq : q ∉ pL P) (k : Nat) : pR P a k ≠ some q := fun e => hq (h.2.2.1 k q e).2.2.1
theorem R_old {P : PP} {a q kd n : Nat} (hq : q ∉ pL P) (ha : a ∈ pL P) : pR (pNw P q kd n) a = pR P a := ((xExt.new (S := []) hq).2 a ha List.not_mem_nil).2.1
theorem yDn.arr {S : List Nat} {P0 P : PP} {a k q kd n : Nat} {ks : List Nat} (h : yDn S P0 P a ks) (hq : q ∉ pL P) (hs : shp (pK P0 a) k = some (kd, n)) (h1 : 13 ≤ kd) (h2 : kd < 16 ∨ 19 < kd) : yDn S P0 (pSR (pNw P q kd n) a k (some q)) a (k :: ks) :=
  (h.newA hq h1 h2).put hs in_new K_new N_new (h.sub hq) (fun j => by rw [R_old hq h.mem]; exact h.nofield hq j) (fun _ j => by rw [I_new])
/-- an array of objects: it is not in shape before it is filled -/
theorem yDn.arrQ {S : List Nat} {P0 P : PP} {a k q kd n : Nat} {ks : List Nat} (h : yDn S P0 P a ks) (hq : q ∉ pL P) (hs : shp (pK P0 a) k = some (kd, n)) : yDn (q :: S) P0 (pSR (pNw P q kd n) a k (some q)) a (k :: ks) := by
  have hg : xAG (a :: q :: S) (pNw P q kd n) := (h.1.2.1.new hq).weak (fun b hb => by
    rcases List.mem_cons.mp hb with z | z
    · exact List.mem_cons_of_mem _ (z ▸ List.mem_cons_self)
    · rcases List.mem_cons.mp z with z | z
      · exact z ▸ List.mem_cons_self
      · exact List.mem_cons_of_mem _ (List.mem_cons_of_mem _ z))
  have h0 : yDn (q :: S) P0 P a ks := ⟨⟨h.1.1, h.1.2.1.weak (fun b hb => by
    rcases List.mem_cons.mp hb with z | z
    · exact z ▸ List.mem_cons_self
    · exact List.mem_cons_of_mem _ (List.mem_cons_of_mem _ z)), h.1.2.2.1, h.1.2.2.2⟩, h.2⟩
  exact (h0.ext (xExt.new hq) hg (h.2.1.new hq)).put hs in_new K_new N_new (h.sub hq) (fun j => by rw [R_old hq h.mem]; exact h.nofield hq j) (fun _ j => by rw [I_new])
theorem yDn.obj {S : List Nat} {P0 P P2 : PP} {a k q ci : Nat} {ks : List Nat} (h : yDn S P0 P a ks) (hq : q ∉ pL P) (hci : ci < 13) (x : xAG (a :: S) P2 ∧ xExt [q] (pNw P q ci 0) P2 ∧ zG P2) (hs : shp (pK P0 a) k = some (ci, 0)) : yDn S P0 (pSR P2 a k (some q)) a (k :: ks) := by
  obtain ⟨hg, x, z⟩ := x
  have x1 : xExt [] P P2 := by
    have x0 := (xExt.new (S := [q]) (kd := ci) (n := 0) hq).tr x
    exact x0.mono (fun w hw hp => absurd (List.mem_singleton.mp hw ▸ hp) hq)
  obtain ⟨y1, y2, y3⟩ := x.1 q in_new
  exact (h.ext x1 hg z).put hs y1 (y2.trans K_new) (y3.trans N_new) (h.sub hq) (fun j => by rw [(x1.2 a h.mem List.not_mem_nil).2.1]; exact h.nofield hq j) (fun h13 => by omega)
theorem yDn.done {S : List Nat} {P0 P : PP} {a c : Nat} {ks : List Nat} (h : yDn S P0 P a ks) (hc : pK P0 a = c) (hc2 : c < 13) (hk : ∀ k, (shp c k).isSome = true → k ∈ ks) : xAG S P ∧ xExt [a] P0 P ∧ zG P := by
  obtain ⟨g1, g2⟩ := h.1.done hc hc2 hk
  exact ⟨g1, g2, h.2.1⟩
theorem yDn.ok {S : List Nat} {P0 P : PP} {a c : Nat} {ks : List Nat} (h : yDn S P0 P a ks) (hc : pK P0 a = c) (hc2 : c < 13) (hk : ∀ k, (shp c k).isSome = true → k ∈ ks) : xOk P a := by
  refine ⟨fun k kd n q => ?_, fun h1 _ => ?_⟩
  · have q2 : shp c k = some (kd, n) := by rw [← hc, ← h.kind]; exact q
    exact h.1.2.2.2 k (hk k (by rw [q2]; rfl)) kd n q
  · rw [h.kind, hc] at h1; omega
/-- an array that is filled up to i -/
def yFl (P : PP) (q kd n i : Nat) : Prop := q ∈ pL P ∧ pK P q = kd ∧ pN P q = n ∧ ∀ j, j < i → ∃ b, pR P q j = some b ∧ b ∈ pL P ∧ pK P b = ek kd
theorem yFl.ext {S : List Nat} {P P2 : PP} {q kd n i : Nat} (h : yFl P q kd n i) (x : xExt S P P2) (hr : pR P2 q = pR P q) : yFl P2 q kd n i := by
  obtain ⟨h1, h2, h3, h4⟩ := h
  refine ⟨(x.1 q h1).1, (x.1 q h1).2.1.trans h2, (x.1 q h1).2.2.trans h3, fun j hj => ?_⟩
  obtain ⟨b, g1, g2, g3⟩ := h4 j hj
  exact ⟨b, by rw [hr]; exact g1, (x.1 b g2).1, (x.1 b g2).2.1.trans g3⟩
theorem yFl.put {P : PP} {q kd n i b : Nat} (h : yFl P q kd n i) (hb : b ∈ pL P) (hk : pK P b = ek kd) : yFl (pSR P q i (some b)) q kd n (i + 1) := by
  obtain ⟨h1, h2, h3, h4⟩ := h
  refine ⟨h1, h2, h3, fun j hj => ?_⟩
  by_cases e : j = i
  · exact ⟨b, by simp [pSR, pR, va_up, e], hb, hk⟩
  · obtain ⟨c, g1, g2, g3⟩ := h4 j (by omega)
    exact ⟨c, by simp [pSR, pR, va_up, e]; exact g1, g2, g3⟩
theorem yFl.ok {P : PP} {q kd n : Nat} (h : yFl P q kd n n) (hk : 16 ≤ kd ∧ kd ≤ 19) : xOk P q := by
  obtain ⟨h1, h2, h3, h4⟩ := h
  refine ⟨fun k kd2 n2 hs => ?_, fun _ _ j hj => ?_⟩
  · rw [h2] at hs
    have : shp kd k = none := by
      rcases (show kd = 16 ∨ kd = 17 ∨ kd = 18 ∨ kd = 19 by omega) with rfl | rfl | rfl | rfl <;> rfl
    rw [this] at hs; cases hs
  · rw [h2]; rw [h3] at hj; exact h4 j hj
/-- the arrays of T are being filled, all but those of S is in shape -/
def LI (T S : List Nat) (Pb P : PP) : Prop := xExt T Pb P ∧ xAG S P ∧ zG P
theorem LI.obj {T S : List Nat} {Pb P P2 : PP} {q ci : Nat} (h : LI T S Pb P) (hq : q ∉ pL P) (x : xAG S P2 ∧ xExt [q] (pNw P q ci 0) P2 ∧ zG P2) : LI T S Pb P2 ∧ xExt [] P P2 ∧ q ∈ pL P2 ∧ pK P2 q = ci := by
  obtain ⟨hg, x, z⟩ := x
  have x1 : xExt [] P P2 := ((xExt.new (S := [q]) (kd := ci) (n := 0) hq).tr x).mono (fun w hw hp => absurd (List.mem_singleton.mp hw ▸ hp) hq)
  obtain ⟨y1, y2, y3⟩ := x.1 q in_new
  exact ⟨⟨h.1.tr (x1.mono (fun _ w _ => absurd w List.not_mem_nil)), hg, z⟩, x1, y1, y2.trans K_new⟩
theorem LI.putR {T S : List Nat} {Pb P : PP} {a k : Nat} {v : Option Nat} (h : LI T S Pb P) (ha : a ∈ T) (hs : a ∈ S) (hk : pK P a ≠ 20) : LI T S Pb (pSR P a k v) :=
  ⟨h.1.tr (xExt.setR ha), h.2.1.ext (xExt.setR (S := [a]) List.mem_cons_self) (fun z hz => by rw [List.mem_singleton.mp hz]; exact hs) (fun z h1 h2 => absurd h1 h2), h.2.2.setR hk⟩
theorem LI.putI {T S : List Nat} {Pb P : PP} {a k : Nat} {v : Int32} (h : LI T S Pb P) (ha : a ∈ T) (hm : a ∈ pL P) (hk : 13 ≤ pK P a) : LI T S Pb (pSI P a k v) :=
  ⟨h.1.tr (xExt.setI ha), h.2.1.setI, h.2.2.setI (rgOk.none (rgT_arr hk)) (by omega)⟩
theorem yFl.off {P : PP} {q kd n i a k : Nat} {v : Option Nat} (h : yFl P q kd n i) (hne : q ≠ a) : yFl (pSR P a k v) q kd n i :=
  h.ext (xExt.setR (S := [a]) List.mem_cons_self) (by simp [pSR, pR, va_up, hne])
theorem shp_lt {c k : Nat} (h : (shp c k).isSome = true) : k < 48 := by
  unfold shp at h
  split at h <;> first | omega | simp at h
theorem kin {c : Nat} {ks : List Nat} (h : ∀ k, k < 48 → (shp c k).isSome = true → k ∈ ks) : ∀ k, (shp c k).isSome = true → k ∈ ks := fun k hk => h k (shp_lt hk) hk
theorem R_keep {P : PP} {q kd n a j k r : Nat} {v : Option Nat} (hq : q ∉ pL P) (ha : a ∈ pL P) (hj : j ≠ k) (e : pR P a j = some r) : pR (pSR (pNw P q kd n) a k v) a j = some r := by
  have e1 : pR (pSR (pNw P q kd n) a k v) a j = pR (pNw P q kd n) a j := by simp [pSR, pR, va_up, hj]
  rw [e1, R_old hq ha]; exact e
theorem R_keepO {P P2 : PP} {q ci a j k r : Nat} {v : Option Nat} (hq : q ∉ pL P) (ha : a ∈ pL P) (hj : j ≠ k) (e : pR P a j = some r) (x : xExt [q] (pNw P q ci 0) P2) : pR (pSR P2 a k v) a j = some r := by
  have hne : a ≠ q := fun z => hq (z ▸ ha)
  have e1 : pR (pSR P2 a k v) a j = pR P2 a j := by simp [pSR, pR, va_up, hj]
  rw [e1, (x.2 a ((xExt.new (S := []) hq).1 a ha).1 (fun z => hne (List.mem_singleton.mp z))).2.1, R_old hq ha]; exact e
theorem R_put {P : PP} {a k r : Nat} : pR (pSR P a k (some r)) a k = some r := by simp [pSR, pR, va_up]
theorem yFl.zero {P : PP} {q kd n : Nat} (h1 : q ∈ pL P) (h2 : pK P q = kd) (h3 : pN P q = n) : yFl P q kd n 0 := ⟨h1, h2, h3, fun j hj => absurd hj (by omega)⟩
theorem yFl.more {P P2 : PP} {q kd n i : Nat} (h : yFl P q kd n i) (x : xExt [] P P2) : yFl P2 q kd n i := h.ext x (x.2 q h.1 List.not_mem_nil).2.1
/-- a field's array by its name -/
theorem fd_at {S : List Nat} {P0 P : PP} {a c k kd n r : Nat} {ks : List Nat} (h : yDn S P0 P a ks) (hc : pK P0 a = c) (hk : k ∈ ks) (hs : shp c k = some (kd, n)) (e : pR P a k = some r) : r ∈ pL P ∧ pK P r = kd ∧ pN P r = n := by
  obtain ⟨b, h1, h2⟩ := h.1.2.2.2 k hk kd n (by rw [h.kind, hc]; exact hs)
  rw [e] at h1; cases h1; exact h2
theorem yDn.setJ {S : List Nat} {P0 P : PP} {a b i : Nat} {v : Int64} {ks : List Nat} (h : yDn S P0 P a ks) (hb : b ∉ pL P0) : yDn S P0 (pSJ P b i v) a ks := by
  refine ⟨⟨⟨h.1.1.1, fun c hc hs => ?_⟩, h.1.2.1.setJ, h.1.2.2.1, h.1.2.2.2⟩, h.2⟩
  have hne : c ≠ b := fun e => hb (e ▸ hc)
  have g := h.1.1.2 c hc hs
  exact ⟨g.1, g.2.1, by simp [pSJ, pJ, va_up, hne]; exact g.2.2⟩
theorem yDn.words {S : List Nat} {P0 P : PP} {a k q n : Nat} {v0 v1 v2 v3 : Int64} {ks : List Nat} (h : yDn S P0 P a ks) (hq : q ∉ pL P) (hs : shp (pK P0 a) k = some (14, n)) : yDn S P0 (pSR (pSJ (pSJ (pSJ (pSJ (pNw P q 14 n) q 0 v0) q 1 v1) q 2 v2) q 3 v3) a k (some q)) a (k :: ks) := by
  have hn := h.sub hq
  have D1 := ((((h.newA (kd := 14) (n := n) hq (by decide) (by decide)).setJ (i := 0) (v := v0) hn).setJ (i := 1) (v := v1) hn).setJ (i := 2) (v := v2) hn).setJ (i := 3) (v := v3) hn
  exact D1.put hs (in_new (P := P) (kd := 14) (n := n)) (K_new (P := P) (kd := 14) (n := n)) (N_new (P := P) (kd := 14) (n := n)) hn (fun j => by show pR (pNw P q 14 n) a j ≠ some q; rw [R_old hq h.mem]; exact h.nofield hq j) (fun _ j => by show pI (pNw P q 14 n) q j = 0; rw [I_new])
theorem zG.iv {P : PP} (z : zG P) (g : xAG [] P) : IV P := ⟨g, fun a ha k => (z a ha).1 k, fun a ha hk j b e => by rw [(z a ha).2.1 hk j] at e; cases e⟩
theorem IV.made {P Pn P2 : PP} {a bk hp kp eq bs ho : Nat} {ks : List Nat} (D : yDn [bs, eq, kp, hp, bk] P Pn a ks) (haK : pK P a = 11)
    (hL : LI [bs, eq, kp, hp, bk, ho] [bs, eq, kp, hp, bk] Pn P2) (f1 : yFl P2 bk 17 2 2) (f2 : yFl P2 hp 19 4 4) (f3 : yFl P2 kp 19 16 16) (f4 : yFl P2 eq 18 2 2) (f5 : yFl P2 bs 16 2 2) : IV P2 ∧ At P2 a 11 ∧ ∀ b, b ∈ pL P2 → pK P2 b = 9 → pI P2 b 1 = 0 := by
  obtain ⟨x, g, z⟩ := hL
  have am := D.mem
  refine ⟨z.iv (fun b hb _ => ?_), ⟨(x.1 a am).1, (x.1 a am).2.1.trans (D.kind.trans haK)⟩, fun b hb h => (z b hb).2.2 h⟩
  by_cases hs : b ∈ [bs, eq, kp, hp, bk]
  · simp only [List.mem_cons, List.not_mem_nil, or_false] at hs
    rcases hs with h | h | h | h | h <;> subst h
    · exact f5.ok (by decide)
    · exact f4.ok (by decide)
    · exact f3.ok (by decide)
    · exact f2.ok (by decide)
    · exact f1.ok (by decide)
  · exact g b hb hs
