/-! THE SHAPE of the class's cells and of the reference's: what each reference field leads to, and how long the arrays are -/
def shp : Nat → Nat → Option (Nat × Nat) := fun c k => match c, k with
  | 0, 0 => some (13, 20) | 0, 1 => some (13, 20)
  | 1, 1 => some (13, 16) | 1, 2 => some (3, 0) | 1, 3 => some (13, 60)
  | 2, 0 => some (13, 11) | 2, 1 => some (13, 11) | 2, 2 => some (0, 0) | 2, 3 => some (0, 0)
  | 3, 0 => some (13, 21) | 3, 1 => some (13, 4)
  | 4, 0 => some (9, 0) | 4, 1 => some (3, 0)
  | 5, 0 => some (13, 44) | 5, 1 => some (13, 44) | 5, 2 => some (13, 20) | 5, 3 => some (14, 16)
  | 6, 0 => some (20, 40)
  | 8, 0 => some (13, 12) | 8, 1 => some (13, 11) | 8, 2 => some (5, 0) | 8, 3 => some (0, 0)
  | 9, 0 => some (13, 1000)
  | 10, 0 => some (20, 6) | 10, 1 => some (13, 6) | 10, 2 => some (16, 4)
  | 11, 0 => some (17, 2) | 11, 1 => some (19, 4) | 11, 2 => some (19, 16) | 11, 3 => some (15, 4) | 11, 4 => some (13, 4) | 11, 5 => some (13, 4) | 11, 6 => some (13, 4)
  | 11, 7 => some (4, 0) | 11, 8 => some (18, 2) | 11, 9 => some (16, 2) | 11, 10 => some (8, 0) | 11, 11 => some (2, 0) | 11, 12 => some (10, 0)
  | 12, 1 => some (13, 1000) | 12, 4 => some (13, 1002) | 12, 5 => some (13, 1002) | 12, 6 => some (14, 1002) | 12, 9 => some (14, 4)
  | 12, 10 => some (13, 2) | 12, 11 => some (13, 32) | 12, 12 => some (13, 63) | 12, 13 => some (13, 3) | 12, 14 => some (13, 3) | 12, 15 => some (13, 3) | 12, 16 => some (13, 12) | 12, 17 => some (13, 3)
  | 12, 20 => some (13, 20) | 12, 21 => some (13, 800) | 12, 22 => some (13, 800) | 12, 23 => some (13, 800) | 12, 24 => some (13, 800) | 12, 25 => some (13, 800) | 12, 26 => some (15, 4)
  | 12, 29 => some (13, 64) | 12, 30 => some (13, 64) | 12, 31 => some (13, 64) | 12, 32 => some (15, 40) | 12, 34 => some (13, 20) | 12, 37 => some (13, 20) | 12, 38 => some (13, 20)
  | 12, 40 => some (13, 40) | 12, 41 => some (13, 64) | 12, 42 => some (13, 64) | 12, 43 => some (13, 60) | 12, 44 => some (13, 21) | 12, 45 => some (13, 4) | 12, 46 => some (13, 4) | 12, 47 => some (13, 4)
  | _, _ => none
/-- the class of the elements of an array of objects -/
def ek : Nat → Nat := fun k => match k with
  | 16 => 0 | 17 => 1 | 18 => 5 | 19 => 6 | _ => 7
def xFd (P : PP) (a k : Nat) : Prop := ∀ kd n, shp (pK P a) k = some (kd, n) → ∃ b, pR P a k = some b ∧ b ∈ pL P ∧ pK P b = kd ∧ pN P b = n
def xAr (P : PP) (a : Nat) : Prop := 16 ≤ pK P a → pK P a ≤ 19 → ∀ j, j < pN P a → ∃ b, pR P a j = some b ∧ b ∈ pL P ∧ pK P b = ek (pK P a)
def xOk (P : PP) (a : Nat) : Prop := (∀ k, xFd P a k) ∧ xAr P a
/-- all cells but those of S are in shape -/
def xAG (S : List Nat) (P : PP) : Prop := ∀ a, a ∈ pL P → a ∉ S → xOk P a
/-- P2 has P's cells, and they hold what they held, but for those of S -/
def xExt (S : List Nat) (P P2 : PP) : Prop := (∀ a, a ∈ pL P → a ∈ pL P2 ∧ pK P2 a = pK P a ∧ pN P2 a = pN P a) ∧ ∀ a, a ∈ pL P → a ∉ S → pI P2 a = pI P a ∧ pR P2 a = pR P a ∧ pJ P2 a = pJ P a
theorem xExt.rf {S : List Nat} {P : PP} : xExt S P P := ⟨fun _ h => ⟨h, rfl, rfl⟩, fun _ _ _ => ⟨rfl, rfl, rfl⟩⟩
theorem xExt.tr {S : List Nat} {P P2 P3 : PP} (h : xExt S P P2) (h2 : xExt S P2 P3) : xExt S P P3 := by
  refine ⟨fun a ha => ?_, fun a ha hs => ?_⟩
  · obtain ⟨q1, q2, q3⟩ := h.1 a ha
    obtain ⟨r1, r2, r3⟩ := h2.1 a q1
    exact ⟨r1, r2.trans q2, r3.trans q3⟩
  · obtain ⟨q1, q2, q3⟩ := h.2 a ha hs
    obtain ⟨r1, r2, r3⟩ := h2.2 a (h.1 a ha).1 hs
    exact ⟨r1.trans q1, r2.trans q2, r3.trans q3⟩
theorem xExt.mono {S S2 : List Nat} {P P2 : PP} (h : xExt S P P2) (hs : ∀ a, a ∈ S → a ∈ pL P → a ∈ S2) : xExt S2 P P2 := ⟨h.1, fun a ha hn => h.2 a ha (fun q => hn (hs a q ha))⟩
theorem xExt.new {S : List Nat} {P : PP} {q kd n : Nat} (hq : q ∉ pL P) : xExt S P (pNw P q kd n) := by
  have hne : ∀ a, a ∈ pL P → a ≠ q := fun a ha h => hq (h ▸ ha)
  refine ⟨fun a ha => ⟨?_, ?_, ?_⟩, fun a ha _ => ⟨?_, ?_, ?_⟩⟩
  · exact List.mem_append_left _ ha
  all_goals simp [pNw, pK, pN, pI, pR, pJ, va_up, hne a ha]
theorem xExt.setI {S : List Nat} {P : PP} {a k : Nat} {v : Int32} (h : a ∈ S) : xExt S P (pSI P a k v) :=
  ⟨fun _ hb => ⟨hb, rfl, rfl⟩, fun b _ hs => ⟨by have : b ≠ a := fun e => hs (e ▸ h); simp [pSI, pI, va_up, this], rfl, rfl⟩⟩
theorem xExt.setR {S : List Nat} {P : PP} {a k : Nat} {v : Option Nat} (h : a ∈ S) : xExt S P (pSR P a k v) :=
  ⟨fun _ hb => ⟨hb, rfl, rfl⟩, fun b _ hs => ⟨rfl, by have : b ≠ a := fun e => hs (e ▸ h); simp [pSR, pR, va_up, this], rfl⟩⟩
theorem xExt.setJ {S : List Nat} {P : PP} {a k : Nat} {v : Int64} (h : a ∈ S) : xExt S P (pSJ P a k v) :=
  ⟨fun _ hb => ⟨hb, rfl, rfl⟩, fun b _ hs => ⟨rfl, rfl, by have : b ≠ a := fun e => hs (e ▸ h); simp [pSJ, pJ, va_up, this]⟩⟩
theorem xFd.ext {S : List Nat} {P P2 : PP} {a k : Nat} (h : xFd P a k) (x : xExt S P P2) (ha : a ∈ pL P) (hr : pR P2 a k = pR P a k) : xFd P2 a k := by
  intro kd n hs
  rw [(x.1 a ha).2.1] at hs
  obtain ⟨b, h1, h2, h3, h4⟩ := h kd n hs
  obtain ⟨y1, y2, y3⟩ := x.1 b h2
  exact ⟨b, hr.trans h1, y1, y2.trans h3, y3.trans h4⟩
theorem xOk.ext {S : List Nat} {P P2 : PP} {a : Nat} (h : xOk P a) (x : xExt S P P2) (ha : a ∈ pL P) (hr : pR P2 a = pR P a) : xOk P2 a := by
  refine ⟨fun k => (h.1 k).ext x ha (by rw [hr]), ?_⟩
  intro h1 h2 j hj
  rw [(x.1 a ha).2.1] at h1 h2 ⊢
  rw [(x.1 a ha).2.2] at hj
  obtain ⟨b, g1, g2, g3⟩ := h.2 h1 h2 j hj
  exact ⟨b, by rw [hr]; exact g1, (x.1 b g2).1, (x.1 b g2).2.1.trans g3⟩
theorem xAG.ext {S T : List Nat} {P P2 : PP} (h : xAG T P) (x : xExt S P P2) (hs : ∀ a, a ∈ S → a ∈ T) (hn : ∀ a, a ∈ pL P2 → a ∉ pL P → a ∉ T → xOk P2 a) : xAG T P2 := by
  intro a ha ht
  by_cases hp : a ∈ pL P
  · exact (h a hp ht).ext x hp (x.2 a hp (fun q => ht (hs a q))).2.1
  · exact hn a ha hp ht
theorem xAG.setI {T : List Nat} {P : PP} {a k : Nat} {v : Int32} (h : xAG T P) : xAG T (pSI P a k v) :=
  fun b hb ht => (h b hb ht).ext (xExt.setI (S := [a]) List.mem_cons_self) hb rfl
theorem xAG.setJ {T : List Nat} {P : PP} {a k : Nat} {v : Int64} (h : xAG T P) : xAG T (pSJ P a k v) :=
  fun b hb ht => (h b hb ht).ext (xExt.setJ (S := [a]) List.mem_cons_self) hb rfl
theorem mem_new {P : PP} {a q kd n : Nat} (h : a ∈ pL (pNw P q kd n)) : a ∈ pL P ∨ a = q := by
  rcases List.mem_append.mp h with h | h
  · exact Or.inl h
  · exact Or.inr (List.mem_singleton.mp h)
theorem in_new {P : PP} {q kd n : Nat} : q ∈ pL (pNw P q kd n) := List.mem_append_right _ List.mem_cons_self
theorem K_new {P : PP} {q kd n : Nat} : pK (pNw P q kd n) q = kd := up_self
theorem N_new {P : PP} {q kd n : Nat} : pN (pNw P q kd n) q = n := up_self
theorem I_new {P : PP} {q kd n : Nat} : pI (pNw P q kd n) q = fun _ => 0 := up_self
theorem R_new {P : PP} {q kd n : Nat} : pR (pNw P q kd n) q = fun _ => none := up_self
theorem J_new {P : PP} {q kd n : Nat} : pJ (pNw P q kd n) q = fun _ => 0 := up_self
/-- arrays of numbers and of papers are in shape -/
theorem xOk.plain {P : PP} {a : Nat} (h : 13 ≤ pK P a) (h2 : pK P a < 16 ∨ 19 < pK P a) : xOk P a := by
  refine ⟨fun k kd n hs => ?_, fun h3 h4 => by omega⟩
  have : shp (pK P a) k = none := by
    generalize pK P a = c at h
    unfold shp
    split <;> first | rfl | omega
  rw [this] at hs; cases hs
theorem xAG.new {T : List Nat} {P : PP} {q kd n : Nat} (h : xAG T P) (hq : q ∉ pL P) : xAG (q :: T) (pNw P q kd n) := by
  refine fun a ha ht => ?_
  rcases mem_new ha with h1 | h1
  · exact (h a h1 (fun z => ht (List.mem_cons_of_mem _ z))).ext (xExt.new (S := []) hq) h1 ((xExt.new (S := []) (kd := kd) (n := n) hq).2 a h1 List.not_mem_nil).2.1
  · exact absurd (h1 ▸ List.mem_cons_self) ht
theorem xAG.newA {T : List Nat} {P : PP} {q kd n : Nat} (h : xAG T P) (hq : q ∉ pL P) (h1 : 13 ≤ kd) (h2 : kd < 16 ∨ 19 < kd) : xAG T (pNw P q kd n) := by
  refine h.ext (xExt.new (S := []) hq) (fun _ z => absurd z List.not_mem_nil) (fun a ha hn _ => ?_)
  rcases mem_new ha with z | z
  · exact absurd z hn
  · subst z
    exact xOk.plain (by rw [K_new]; exact h1) (by rw [K_new]; exact h2)
theorem xAG.weak {S T : List Nat} {P : PP} (h : xAG S P) (hs : ∀ a, a ∈ S → a ∈ T) : xAG T P := fun a ha ht => h a ha (fun z => ht (hs a z))
/-- an object that is being made: its fields ks stand -/
def xDn (S : List Nat) (P0 P : PP) (a : Nat) (ks : List Nat) : Prop := xExt [a] P0 P ∧ xAG (a :: S) P ∧ a ∈ pL P0 ∧ ∀ k, k ∈ ks → xFd P a k
theorem xDn.zero {S : List Nat} {P : PP} {a : Nat} (ha : a ∈ pL P) (h : xAG (a :: S) P) : xDn S P P a [] := ⟨xExt.rf, h, ha, fun _ h => absurd h List.not_mem_nil⟩
theorem xDn.mem {S : List Nat} {P0 P : PP} {a : Nat} {ks : List Nat} (h : xDn S P0 P a ks) : a ∈ pL P := (h.1.1 a h.2.2.1).1
theorem xDn.kind {S : List Nat} {P0 P : PP} {a : Nat} {ks : List Nat} (h : xDn S P0 P a ks) : pK P a = pK P0 a := (h.1.1 a h.2.2.1).2.1
/-- more cells come, a's own fields stay -/
theorem xDn.ext {S : List Nat} {P0 P P2 : PP} {a : Nat} {ks : List Nat} (h : xDn S P0 P a ks) (x : xExt [] P P2) (hg : xAG (a :: S) P2) : xDn S P0 P2 a ks :=
  ⟨h.1.tr (x.mono (fun _ z _ => absurd z List.not_mem_nil)), hg, h.2.2.1, fun k hk => (h.2.2.2 k hk).ext x h.mem (by rw [(x.2 a h.mem List.not_mem_nil).2.1])⟩
theorem xDn.put {S : List Nat} {P0 P : PP} {a k b kd n : Nat} {ks : List Nat} (h : xDn S P0 P a ks) (hs : shp (pK P0 a) k = some (kd, n)) (hb : b ∈ pL P) (hk : pK P b = kd) (hn : pN P b = n) : xDn S P0 (pSR P a k (some b)) a (k :: ks) := by
  refine ⟨h.1.tr (xExt.setR List.mem_cons_self), ?_, h.2.2.1, fun j hj => ?_⟩
  · refine h.2.1.ext (xExt.setR (S := [a]) List.mem_cons_self) (fun z hz => by rw [List.mem_singleton.mp hz]; exact List.mem_cons_self) (fun z h1 h2 => absurd h1 h2)
  · by_cases hjk : j = k
    · subst hjk
      intro kd2 n2 hs2
      have e : shp (pK P a) j = some (kd2, n2) := hs2
      rw [h.kind, hs] at e
      cases e
      exact ⟨b, by simp [pSR, pR, va_up], hb, hk, hn⟩
    · have h1 := h.2.2.2 j (by rcases List.mem_cons.mp hj with q | q; exact absurd q hjk; exact q)
      exact h1.ext (xExt.setR (S := [a]) List.mem_cons_self) h.mem (by simp [pSR, pR, va_up, hjk])
theorem xDn.putI {S : List Nat} {P0 P : PP} {a k : Nat} {v : Int32} {ks : List Nat} (h : xDn S P0 P a ks) : xDn S P0 (pSI P a k v) a ks :=
  ⟨h.1.tr (xExt.setI List.mem_cons_self), h.2.1.setI, h.2.2.1, fun j hj => (h.2.2.2 j hj).ext (xExt.setI (S := [a]) List.mem_cons_self) h.mem rfl⟩
theorem xDn.newA {S : List Nat} {P0 P : PP} {a q kd n : Nat} {ks : List Nat} (h : xDn S P0 P a ks) (hq : q ∉ pL P) (h1 : 13 ≤ kd) (h2 : kd < 16 ∨ 19 < kd) : xDn S P0 (pNw P q kd n) a ks := h.ext (xExt.new hq) (h.2.1.newA hq h1 h2)
/-- an array of numbers is made and put into a field -/
theorem xDn.arr {S : List Nat} {P0 P : PP} {a k q kd n : Nat} {ks : List Nat} (h : xDn S P0 P a ks) (hq : q ∉ pL P) (hs : shp (pK P0 a) k = some (kd, n)) (h1 : 13 ≤ kd) (h2 : kd < 16 ∨ 19 < kd) : xDn S P0 (pSR (pNw P q kd n) a k (some q)) a (k :: ks) :=
  (h.newA hq h1 h2).put hs in_new K_new N_new
/-- an object is made (P2 behind its constructor) and put into a field -/
theorem xDn.obj {S : List Nat} {P0 P P2 : PP} {a k q ci : Nat} {ks : List Nat} (h : xDn S P0 P a ks) (hq : q ∉ pL P) (x : xExt [q] (pNw P q ci 0) P2) (hg : xAG (a :: S) P2) (hs : shp (pK P0 a) k = some (ci, 0)) : xDn S P0 (pSR P2 a k (some q)) a (k :: ks) := by
  have x1 : xExt [] P P2 := by
    have x0 := (xExt.new (S := [q]) (kd := ci) (n := 0) hq).tr x
    exact x0.mono (fun z hz hp => absurd (List.mem_singleton.mp hz ▸ hp) hq)
  obtain ⟨y1, y2, y3⟩ := x.1 q in_new
  exact (h.ext x1 hg).put hs y1 (y2.trans K_new) (y3.trans N_new)
theorem xDn.done {S : List Nat} {P0 P : PP} {a c : Nat} {ks : List Nat} (h : xDn S P0 P a ks) (hc : pK P0 a = c) (hc2 : c < 13) (hk : ∀ k, (shp c k).isSome = true → k ∈ ks) : xAG S P ∧ xExt [a] P0 P := by
  refine ⟨fun b hb hs => ?_, h.1⟩
  by_cases e : b = a
  · subst e
    refine ⟨fun k kd n q => ?_, fun h1 _ => ?_⟩
    · have q2 : shp c k = some (kd, n) := by rw [← hc, ← h.kind]; exact q
      exact h.2.2.2 k (hk k (by rw [q2]; rfl)) kd n q
    · rw [h.kind, hc] at h1; omega
  · exact h.2.1 b hb (fun q => by rcases List.mem_cons.mp q with q | q; exact e q; exact hs q)
