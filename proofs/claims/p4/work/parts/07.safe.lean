/-! SAFETY: what holds of a pool at all times, and what every call keeps -/
def rgT : Nat → Nat → Option (Int × Int) := fun c k => match c, k with
  | 0, 2 => some (0, 20) | 0, 3 => some (0, 1)
  | 1, 0 => some (0, 1) | 1, 4 => some (0, 1) | 1, 5 => some (0, 16)
  | 2, 4 => some (0, 20) | 2, 5 => some (0, 12)
  | 3, 2 => some (0, 4)
  | 5, 4 => some (0, 44) | 5, 5 => some (0, 44)
  | 6, 1 => some (0, 40)
  | 7, 0 => some (-1, 1)
  | 8, 4 => some (0, 11) | 8, 6 => some (0, 20)
  | 9, 1 => some (0, 1000) | 9, 3 => some (0, 1000) | 9, 4 => some (0, 1000)
  | 10, 3 => some (0, 6)
  | 12, 0 => some (0, 1) | 12, 2 => some (0, 1000) | 12, 3 => some (0, 1000) | 12, 7 => some (0, 1000) | 12, 8 => some (0, 16005) | 12, 18 => some (0, 16) | 12, 28 => some (0, 64) | 12, 36 => some (0, 1) | 12, 39 => some (0, 40)
  | _, _ => none
def rgOk (c k : Nat) (v : Int32) : Prop := ∀ lo hi, rgT c k = some (lo, hi) → lo ≤ v.toInt ∧ v.toInt ≤ hi
theorem rgOk.of {c k : Nat} {v : Int32} {lo hi : Int} (h : rgT c k = some (lo, hi)) (h1 : lo ≤ v.toInt ∧ v.toInt ≤ hi) : rgOk c k v := by
  intro l2 h2 e
  rw [h] at e
  cases e
  exact h1
theorem rgOk.none {c k : Nat} {v : Int32} (h : rgT c k = none) : rgOk c k v := by
  intro l2 h2 e
  rw [h] at e
  cases e
theorem rgT_arr {c k : Nat} (h : 13 ≤ c) : rgT c k = none := by
  unfold rgT
  split <;> first | rfl | omega
theorem rgOk.zero (c k : Nat) : rgOk c k 0 := by
  intro lo hi e
  have h0 : (0 : Int32).toInt = 0 := rfl
  rw [h0]
  unfold rgT at e
  split at e <;> first | (cases e; decide) | cases e
def IV (P : PP) : Prop := xAG [] P ∧ (∀ a, a ∈ pL P → ∀ k, rgOk (pK P a) k (pI P a k)) ∧ ∀ a, a ∈ pL P → pK P a = 20 → ∀ j b, pR P a j = some b → b ∈ pL P ∧ pK P b = 7
def ES (P P2 : PP) : Prop := ∀ a, a ∈ pL P → a ∈ pL P2 ∧ pK P2 a = pK P a ∧ pN P2 a = pN P a
def At (P : PP) (a kd : Nat) : Prop := a ∈ pL P ∧ pK P a = kd
def Ar (P : PP) (a kd n : Nat) : Prop := a ∈ pL P ∧ pK P a = kd ∧ pN P a = n
theorem ES.rf {P : PP} : ES P P := fun _ h => ⟨h, rfl, rfl⟩
theorem ES.tr {P P2 P3 : PP} (h : ES P P2) (h2 : ES P2 P3) : ES P P3 := fun a ha => by
  obtain ⟨q1, q2, q3⟩ := h a ha
  obtain ⟨r1, r2, r3⟩ := h2 a q1
  exact ⟨r1, r2.trans q2, r3.trans q3⟩
theorem ES.at {P P2 : PP} {a kd : Nat} (x : ES P P2) (h : At P a kd) : At P2 a kd := ⟨(x a h.1).1, (x a h.1).2.1.trans h.2⟩
theorem ES.ar {P P2 : PP} {a kd n : Nat} (x : ES P P2) (h : Ar P a kd n) : Ar P2 a kd n := ⟨(x a h.1).1, (x a h.1).2.1.trans h.2.1, (x a h.1).2.2.trans h.2.2⟩
theorem ES.setI {P : PP} {a k : Nat} {v : Int32} : ES P (pSI P a k v) := fun _ h => ⟨h, rfl, rfl⟩
theorem ES.setJ {P : PP} {a k : Nat} {v : Int64} : ES P (pSJ P a k v) := fun _ h => ⟨h, rfl, rfl⟩
theorem ES.setR {P : PP} {a k : Nat} {v : Option Nat} : ES P (pSR P a k v) := fun _ h => ⟨h, rfl, rfl⟩
theorem ES.new {P : PP} {q kd n : Nat} (hq : q ∉ pL P) : ES P (pNw P q kd n) := fun a ha => (xExt.new (S := []) hq).1 a ha
theorem IV.fld {P : PP} {a c : Nat} (I : IV P) (h : At P a c) (k kd n : Nat) (hs : shp c k = some (kd, n)) : ∃ b, pR P a k = some b ∧ Ar P b kd n := by
  obtain ⟨b, h1, h2, h3, h4⟩ := xFd.at (I.1 a h.1 List.not_mem_nil) h.2 k kd n hs
  exact ⟨b, h1, h2, h3, h4⟩
/-- .. the numbers of cells of other kinds than ks stay, and what objects lead to -/
def EK (ks : List Nat) (P P2 : PP) : Prop := ES P P2 ∧ (∀ a, a ∈ pL P → pK P a ∉ ks → pI P2 a = pI P a) ∧ ∀ a, a ∈ pL P → pK P a < 13 → pR P2 a = pR P a
theorem EK.rf {ks : List Nat} {P : PP} : EK ks P P := ⟨ES.rf, fun _ _ _ => rfl, fun _ _ _ => rfl⟩
theorem EK.tr {ks : List Nat} {P P2 P3 : PP} (h : EK ks P P2) (h2 : EK ks P2 P3) : EK ks P P3 := ⟨h.1.tr h2.1, fun a ha hk => (h2.2.1 a (h.1 a ha).1 (by rw [(h.1 a ha).2.1]; exact hk)).trans (h.2.1 a ha hk), fun a ha hk => (h2.2.2 a (h.1 a ha).1 (by rw [(h.1 a ha).2.1]; exact hk)).trans (h.2.2 a ha hk)⟩
theorem EK.mono {ks ks2 : List Nat} {P P2 : PP} (h : EK ks P P2) (hs : ∀ k, k ∈ ks → k ∈ ks2) : EK ks2 P P2 := ⟨h.1, fun a ha hk => h.2.1 a ha (fun z => hk (hs _ z)), h.2.2⟩
theorem EK.at {ks : List Nat} {P P2 : PP} {a kd : Nat} (x : EK ks P P2) (h : At P a kd) : At P2 a kd := x.1.at h
theorem EK.ar {ks : List Nat} {P P2 : PP} {a kd n : Nat} (x : EK ks P P2) (h : Ar P a kd n) : Ar P2 a kd n := x.1.ar h
theorem EK.keep {ks : List Nat} {P P2 : PP} {a kd : Nat} (x : EK ks P P2) (h : At P a kd) (hk : kd ∉ ks) (k : Nat) : (pI P2 a k).toInt = (pI P a k).toInt := by
  rw [x.2.1 a h.1 (by rw [h.2]; exact hk)]
theorem EK.ref {ks : List Nat} {P P2 : PP} {a kd k b : Nat} (x : EK ks P P2) (h : At P a kd) (hk : kd < 13) (e : pR P a k = some b) : pR P2 a k = some b := by
  rw [x.2.2 a h.1 (by rw [h.2]; exact hk)]; exact e
theorem EK.setI {ks : List Nat} {P : PP} {a c k : Nat} {v : Int32} (h : pK P a = c) (hc : c ∈ ks) : EK ks P (pSI P a k v) := ⟨ES.setI, fun b _ hk => by
  have e : b ≠ a := fun e => hk (by rw [e, h]; exact hc)
  show va_up (pI P) a _ b = pI P b
  rw [up_ne e], fun _ _ _ => rfl⟩
theorem EK.setJ {ks : List Nat} {P : PP} {a k : Nat} {v : Int64} : EK ks P (pSJ P a k v) := ⟨ES.setJ, fun _ _ _ => rfl, fun _ _ _ => rfl⟩
theorem EK.setR {ks : List Nat} {P : PP} {a c k : Nat} {v : Option Nat} (h : pK P a = c) (hc : 13 ≤ c) : EK ks P (pSR P a k v) := ⟨ES.setR, fun _ _ _ => rfl, fun b _ hk => by
  have e : b ≠ a := fun e => by rw [e, h] at hk; omega
  show va_up (pR P) a _ b = pR P b
  rw [up_ne e]⟩
theorem EK.new {ks : List Nat} {P : PP} {q kd n : Nat} (hq : q ∉ pL P) : EK ks P (pNw P q kd n) := ⟨ES.new hq, fun a ha _ => ((xExt.new (S := []) hq).2 a ha List.not_mem_nil).1, fun a ha _ => ((xExt.new (S := []) hq).2 a ha List.not_mem_nil).2.1⟩
theorem wI_same {P : PP} {a k j : Nat} {v : Int32} (h : j ≠ k) : (pI (pSI P a k v) a j).toInt = (pI P a j).toInt := by
  show (va_up (pI P) a (va_up (pI P a) k v) a j).toInt = _
  rw [up_self, up_ne h]
theorem wI_self {P : PP} {a k : Nat} {v : Int32} : (pI (pSI P a k v) a k).toInt = v.toInt := by
  show (va_up (pI P) a (va_up (pI P a) k v) a k).toInt = _
  rw [up_self, up_self]
theorem Ar.at {P : PP} {a kd n : Nat} (h : Ar P a kd n) : At P a kd := ⟨h.1, h.2.1⟩
theorem IV.elm {P : PP} {a c n : Nat} (I : IV P) (h : Ar P a c n) (h16 : 16 ≤ c ∧ c ≤ 19) (j : Nat) (hj : j < n) : ∃ b, pR P a j = some b ∧ At P b (ek c) := by
  obtain ⟨b, h1, h2, h3⟩ := xAr.at (I.1 a h.1 List.not_mem_nil) h.2.1 h16 j (by rw [h.2.2]; exact hj)
  exact ⟨b, h1, h2, h3⟩
theorem IV.pap {P : PP} {a n : Nat} (I : IV P) (h : Ar P a 20 n) (j : Nat) : pR P a j = none ∨ ∃ b, pR P a j = some b ∧ At P b 7 := by
  cases e : pR P a j with
  | none => exact Or.inl rfl
  | some b => exact Or.inr ⟨b, rfl, I.2.2 a h.1 h.2.1 j b e⟩
theorem IV.rg {P : PP} {a c : Nat} (I : IV P) (h : At P a c) (k : Nat) {lo hi : Int} (hr : rgT c k = some (lo, hi)) : lo ≤ (pI P a k).toInt ∧ (pI P a k).toInt ≤ hi := by
  have := I.2.1 a h.1 k
  rw [h.2] at this
  exact this lo hi hr
theorem IV.setI {P : PP} {a c k : Nat} {v : Int32} (I : IV P) (h : At P a c) (hv : rgOk c k v) : IV (pSI P a k v) := by
  refine ⟨I.1.setI, fun b hb j => ?_, fun b hb hk j z hz => I.2.2 b hb hk j z hz⟩
  show rgOk (pK P b) j (va_up (pI P) a (va_up (pI P a) k v) b j)
  by_cases e : b = a
  · subst e
    rw [up_self]
    by_cases ej : j = k
    · subst ej
      rw [up_self, h.2]; exact hv
    · rw [up_ne ej]; exact I.2.1 b hb j
  · rw [up_ne e]; exact I.2.1 b hb j
theorem IV.setA {P : PP} {a c n j : Nat} {v : Int32} (I : IV P) (h : Ar P a c n) (hc : 13 ≤ c) : IV (pSI P a j v) := I.setI h.at (rgOk.none (rgT_arr hc))
theorem IV.setJ {P : PP} {a k : Nat} {v : Int64} (I : IV P) : IV (pSJ P a k v) := ⟨I.1.setJ, fun b hb j => I.2.1 b hb j, fun b hb hk j z hz => I.2.2 b hb hk j z hz⟩
theorem IV.setP {P : PP} {a n j : Nat} {v : Option Nat} (I : IV P) (h : Ar P a 20 n) (hv : ∀ b, v = some b → At P b 7) : IV (pSR P a j v) := by
  refine ⟨fun b hb _ => ?_, fun b hb k => I.2.1 b hb k, fun b hb hk k z hz => ?_⟩
  · by_cases e : b = a
    · subst e
      exact xOk.plain (P := pSR P b j v) (a := b) (by show 13 ≤ pK P b; rw [h.2.1]; decide) (Or.inr (by show 19 < pK P b; rw [h.2.1]; decide))
    · exact (I.1 b hb List.not_mem_nil).ext (xExt.setR (S := [a]) List.mem_cons_self) hb (by show va_up (pR P) a _ b = pR P b; rw [up_ne e])
  · have hz : va_up (pR P) a (va_up (pR P a) j v) b k = some z := hz
    by_cases e : b = a
    · subst e
      rw [up_self] at hz
      by_cases ek : k = j
      · subst ek
        rw [up_self] at hz
        exact hv z hz
      · rw [up_ne ek] at hz
        exact I.2.2 b hb hk k z hz
    · rw [up_ne e] at hz
      exact I.2.2 b hb hk k z hz
theorem IV.newP {P : PP} {q : Nat} (I : IV P) (hq : q ∉ pL P) : IV (pNw P q 7 0) := by
  have hx := xExt.new (S := []) (kd := 7) (n := 0) hq
  refine ⟨fun b hb _ => ?_, fun b hb k => ?_, fun b hb hk j z hz => ?_⟩
  · by_cases e : b = q
    · subst e
      refine ⟨fun k kd n hs => ?_, fun h _ => ?_⟩
      · rw [K_new] at hs; cases hs
      · rw [K_new] at h; omega
    · rcases mem_new hb with h | h
      · exact (I.1 b h List.not_mem_nil).ext hx h (hx.2 b h List.not_mem_nil).2.1
      · exact absurd h e
  · by_cases e : b = q
    · subst e
      rw [I_new]
      exact rgOk.zero _ _
    · rcases mem_new hb with h | h
      · rw [(hx.1 b h).2.1, (hx.2 b h List.not_mem_nil).1]
        exact I.2.1 b h k
      · exact absurd h e
  · by_cases e : b = q
    · subst e
      rw [R_new] at hz; cases hz
    · rcases mem_new hb with h | h
      · rw [(hx.2 b h List.not_mem_nil).2.1] at hz
        rw [(hx.1 b h).2.1] at hk
        obtain ⟨z1, z2⟩ := I.2.2 b h hk j z hz
        exact ⟨(hx.1 z z1).1, (hx.1 z z1).2.1.trans z2⟩
      · exact absurd h e
theorem At.new {P : PP} {q kd n : Nat} : At (pNw P q kd n) q kd := ⟨in_new, K_new⟩
/-! numbers -/
theorem bm32 {n : Int} (h : -2147483648 ≤ n ∧ n ≤ 2147483647) : n.bmod (2 ^ 32) = n := by
  rw [Int.bmod_def]; omega
theorem ti_add {x y : Int32} (h : -2147483648 ≤ x.toInt + y.toInt ∧ x.toInt + y.toInt ≤ 2147483647) : (x + y).toInt = x.toInt + y.toInt := by
  rw [Int32.toInt_add]; exact bm32 h
theorem ti_sub {x y : Int32} (h : -2147483648 ≤ x.toInt - y.toInt ∧ x.toInt - y.toInt ≤ 2147483647) : (x - y).toInt = x.toInt - y.toInt := by
  rw [Int32.toInt_sub]; exact bm32 h
theorem ti_mul {x y : Int32} (h : -2147483648 ≤ x.toInt * y.toInt ∧ x.toInt * y.toInt ≤ 2147483647) : (x * y).toInt = x.toInt * y.toInt := by
  rw [Int32.toInt_mul]; exact bm32 h
theorem ti_rng (x : Int32) : -2147483648 ≤ x.toInt ∧ x.toInt ≤ 2147483647 := by
  have h1 := x.toInt_lt
  have h2 := x.le_toInt
  omega
theorem ti_ne {x y : Int32} (h : ¬ x = y) : x.toInt ≠ y.toInt := fun e => h (Int32.toInt_inj.mp e)
theorem i_and {x y : Int32} (h : 0 ≤ y.toInt) : 0 ≤ (x &&& y).toInt ∧ (x &&& y).toInt ≤ y.toInt := by
  have e : (x &&& y).toBitVec.toNat ≤ y.toBitVec.toNat := by
    have e1 : (x &&& y).toBitVec = x.toBitVec &&& y.toBitVec := rfl
    rw [e1, BitVec.toNat_and]; exact Nat.and_le_right
  have hb := y.toBitVec.isLt
  change 0 ≤ (x &&& y).toBitVec.toInt ∧ (x &&& y).toBitVec.toInt ≤ y.toBitVec.toInt
  change 0 ≤ y.toBitVec.toInt at h
  simp only [BitVec.toInt_eq_toNat_cond] at h ⊢
  split at h
  · split <;> omega
  · omega
theorem b01 {v : Int32} (h : 0 ≤ v.toInt ∧ v.toInt ≤ 1) : v = 0 ∨ v = 1 := by
  rcases (show v.toInt = 0 ∨ v.toInt = 1 by omega) with e | e
  · exact Or.inl (Int32.toInt_inj.mp e)
  · exact Or.inr (Int32.toInt_inj.mp e)
theorem ix_in {i : Int32} {n N : Nat} (hN : n = N) (h : 0 ≤ i.toInt ∧ i.toInt < (N : Int)) : IX i n i.toInt.toNat := IX.intn hN h.1 h.2
section SR
variable {E : EV} {R : Room} {D : va_G} {cy : Nat → ClassId} {nL : Nat} {P : PP} {cs sl pc : Nat} {lv : List (Nat × Value)} {rest : List Value} {cc : ByteArray} {own : String}
theorem s_iadd (C : Cx E D cy nL cc own) {x y : Int32} (d : decode cc pc = .ok (.iadd, 1)) (h : -2147483648 ≤ x.toInt + y.toInt ∧ x.toInt + y.toInt ≤ 2147483647) (k : ∀ z : Int32, z.toInt = x.toInt + y.toInt → G E R D cy nL P cs sl (pc + 1) lv (.int z :: rest)) : G E R D cy nL P cs sl pc lv (.int y :: .int x :: rest) := g_iadd C d (k _ (ti_add h))
theorem s_isub (C : Cx E D cy nL cc own) {x y : Int32} (d : decode cc pc = .ok (.isub, 1)) (h : -2147483648 ≤ x.toInt - y.toInt ∧ x.toInt - y.toInt ≤ 2147483647) (k : ∀ z : Int32, z.toInt = x.toInt - y.toInt → G E R D cy nL P cs sl (pc + 1) lv (.int z :: rest)) : G E R D cy nL P cs sl pc lv (.int y :: .int x :: rest) := g_isub C d (k _ (ti_sub h))
theorem s_imul (C : Cx E D cy nL cc own) {x y : Int32} (d : decode cc pc = .ok (.imul, 1)) (h : -2147483648 ≤ x.toInt * y.toInt ∧ x.toInt * y.toInt ≤ 2147483647) (k : ∀ z : Int32, z.toInt = x.toInt * y.toInt → G E R D cy nL P cs sl (pc + 1) lv (.int z :: rest)) : G E R D cy nL P cs sl pc lv (.int y :: .int x :: rest) := g_imul C d (k _ (ti_mul h))
theorem s_iand (C : Cx E D cy nL cc own) {x y : Int32} (d : decode cc pc = .ok (.iand, 1)) (h : 0 ≤ y.toInt) (k : ∀ z : Int32, 0 ≤ z.toInt ∧ z.toInt ≤ y.toInt → G E R D cy nL P cs sl (pc + 1) lv (.int z :: rest)) : G E R D cy nL P cs sl pc lv (.int y :: .int x :: rest) := g_iand C d (k _ (i_and h))
theorem a_iadd (C : Cx E D cy nL cc own) {x y : Int32} (d : decode cc pc = .ok (.iadd, 1)) (k : ∀ z : Int32, G E R D cy nL P cs sl (pc + 1) lv (.int z :: rest)) : G E R D cy nL P cs sl pc lv (.int y :: .int x :: rest) := g_iadd C d (k _)
theorem a_isub (C : Cx E D cy nL cc own) {x y : Int32} (d : decode cc pc = .ok (.isub, 1)) (k : ∀ z : Int32, G E R D cy nL P cs sl (pc + 1) lv (.int z :: rest)) : G E R D cy nL P cs sl pc lv (.int y :: .int x :: rest) := g_isub C d (k _)
theorem a_imul (C : Cx E D cy nL cc own) {x y : Int32} (d : decode cc pc = .ok (.imul, 1)) (k : ∀ z : Int32, G E R D cy nL P cs sl (pc + 1) lv (.int z :: rest)) : G E R D cy nL P cs sl pc lv (.int y :: .int x :: rest) := g_imul C d (k _)
theorem a_iand (C : Cx E D cy nL cc own) {x y : Int32} (d : decode cc pc = .ok (.iand, 1)) (k : ∀ z : Int32, G E R D cy nL P cs sl (pc + 1) lv (.int z :: rest)) : G E R D cy nL P cs sl pc lv (.int y :: .int x :: rest) := g_iand C d (k _)
theorem a_ior (C : Cx E D cy nL cc own) {x y : Int32} (d : decode cc pc = .ok (.ior, 1)) (k : ∀ z : Int32, G E R D cy nL P cs sl (pc + 1) lv (.int z :: rest)) : G E R D cy nL P cs sl pc lv (.int y :: .int x :: rest) := g_ior C d (k _)
theorem a_ixor (C : Cx E D cy nL cc own) {x y : Int32} (d : decode cc pc = .ok (.ixor, 1)) (k : ∀ z : Int32, G E R D cy nL P cs sl (pc + 1) lv (.int z :: rest)) : G E R D cy nL P cs sl pc lv (.int y :: .int x :: rest) := g_ixor C d (k _)
theorem a_ishl (C : Cx E D cy nL cc own) {x y : Int32} (d : decode cc pc = .ok (.ishl, 1)) (k : ∀ z : Int32, G E R D cy nL P cs sl (pc + 1) lv (.int z :: rest)) : G E R D cy nL P cs sl pc lv (.int y :: .int x :: rest) := g_ishl C d (k _)
theorem a_ishr (C : Cx E D cy nL cc own) {x y : Int32} (d : decode cc pc = .ok (.ishr, 1)) (k : ∀ z : Int32, G E R D cy nL P cs sl (pc + 1) lv (.int z :: rest)) : G E R D cy nL P cs sl pc lv (.int y :: .int x :: rest) := g_ishr C d (k _)
theorem a_iushr (C : Cx E D cy nL cc own) {x y : Int32} (d : decode cc pc = .ok (.iushr, 1)) (k : ∀ z : Int32, G E R D cy nL P cs sl (pc + 1) lv (.int z :: rest)) : G E R D cy nL P cs sl pc lv (.int y :: .int x :: rest) := g_iushr C d rfl (k _)
theorem a_ladd (C : Cx E D cy nL cc own) {x y : Int64} (d : decode cc pc = .ok (.ladd, 1)) (k : ∀ z : Int64, G E R D cy nL P cs sl (pc + 1) lv (.long z :: rest)) : G E R D cy nL P cs sl pc lv (.long y :: .long x :: rest) := g_ladd C d (k _)
theorem a_lsub (C : Cx E D cy nL cc own) {x y : Int64} (d : decode cc pc = .ok (.lsub, 1)) (k : ∀ z : Int64, G E R D cy nL P cs sl (pc + 1) lv (.long z :: rest)) : G E R D cy nL P cs sl pc lv (.long y :: .long x :: rest) := g_lsub C d (k _)
theorem a_lmul (C : Cx E D cy nL cc own) {x y : Int64} (d : decode cc pc = .ok (.lmul, 1)) (k : ∀ z : Int64, G E R D cy nL P cs sl (pc + 1) lv (.long z :: rest)) : G E R D cy nL P cs sl pc lv (.long y :: .long x :: rest) := g_lmul C d (k _)
theorem a_land (C : Cx E D cy nL cc own) {x y : Int64} (d : decode cc pc = .ok (.land, 1)) (k : ∀ z : Int64, G E R D cy nL P cs sl (pc + 1) lv (.long z :: rest)) : G E R D cy nL P cs sl pc lv (.long y :: .long x :: rest) := g_land C d (k _)
theorem a_lor (C : Cx E D cy nL cc own) {x y : Int64} (d : decode cc pc = .ok (.lor, 1)) (k : ∀ z : Int64, G E R D cy nL P cs sl (pc + 1) lv (.long z :: rest)) : G E R D cy nL P cs sl pc lv (.long y :: .long x :: rest) := g_lor C d (k _)
theorem a_lxor (C : Cx E D cy nL cc own) {x y : Int64} (d : decode cc pc = .ok (.lxor, 1)) (k : ∀ z : Int64, G E R D cy nL P cs sl (pc + 1) lv (.long z :: rest)) : G E R D cy nL P cs sl pc lv (.long y :: .long x :: rest) := g_lxor C d (k _)
theorem a_lshl (C : Cx E D cy nL cc own) {x : Int64} {y : Int32} (d : decode cc pc = .ok (.lshl, 1)) (k : ∀ z : Int64, G E R D cy nL P cs sl (pc + 1) lv (.long z :: rest)) : G E R D cy nL P cs sl pc lv (.int y :: .long x :: rest) := g_lshl C d rfl (k _)
theorem a_lshr (C : Cx E D cy nL cc own) {x : Int64} {y : Int32} (d : decode cc pc = .ok (.lshr, 1)) (k : ∀ z : Int64, G E R D cy nL P cs sl (pc + 1) lv (.long z :: rest)) : G E R D cy nL P cs sl pc lv (.int y :: .long x :: rest) := g_lshr C d rfl (k _)
theorem a_lushr (C : Cx E D cy nL cc own) {x : Int64} {y : Int32} (d : decode cc pc = .ok (.lushr, 1)) (k : ∀ z : Int64, G E R D cy nL P cs sl (pc + 1) lv (.long z :: rest)) : G E R D cy nL P cs sl pc lv (.int y :: .long x :: rest) := g_lushr C d rfl (k _)
theorem a_ldiv (C : Cx E D cy nL cc own) {x y : Int64} (d : decode cc pc = .ok (.ldiv, 1)) (h : ¬ y = 0) (k : ∀ z : Int64, G E R D cy nL P cs sl (pc + 1) lv (.long z :: rest)) : G E R D cy nL P cs sl pc lv (.long y :: .long x :: rest) := g_ldiv C d h (k _)
theorem a_lrem (C : Cx E D cy nL cc own) {x y : Int64} (d : decode cc pc = .ok (.lrem, 1)) (h : ¬ y = 0) (k : ∀ z : Int64, G E R D cy nL P cs sl (pc + 1) lv (.long z :: rest)) : G E R D cy nL P cs sl pc lv (.long y :: .long x :: rest) := g_lrem C d h (k _)
theorem a_idiv (C : Cx E D cy nL cc own) {x y : Int32} (d : decode cc pc = .ok (.idiv, 1)) (h : y.toInt ≠ 0) (k : ∀ z : Int32, G E R D cy nL P cs sl (pc + 1) lv (.int z :: rest)) : G E R D cy nL P cs sl pc lv (.int y :: .int x :: rest) := g_idiv C d (fun e => h (by rw [e]; rfl)) (k _)
theorem a_irem (C : Cx E D cy nL cc own) {x y : Int32} (d : decode cc pc = .ok (.irem, 1)) (h : y.toInt ≠ 0) (k : ∀ z : Int32, G E R D cy nL P cs sl (pc + 1) lv (.int z :: rest)) : G E R D cy nL P cs sl pc lv (.int y :: .int x :: rest) := g_irem C d (fun e => h (by rw [e]; rfl)) (k _)
theorem a_ineg (C : Cx E D cy nL cc own) {x : Int32} (d : decode cc pc = .ok (.ineg, 1)) (k : ∀ z : Int32, G E R D cy nL P cs sl (pc + 1) lv (.int z :: rest)) : G E R D cy nL P cs sl pc lv (.int x :: rest) := g_ineg C d (k _)
theorem a_i2l (C : Cx E D cy nL cc own) {x : Int32} (d : decode cc pc = .ok (.i2l, 1)) (k : ∀ z : Int64, G E R D cy nL P cs sl (pc + 1) lv (.long z :: rest)) : G E R D cy nL P cs sl pc lv (.int x :: rest) := g_i2l C d rfl (k _)
theorem a_l2i (C : Cx E D cy nL cc own) {x : Int64} (d : decode cc pc = .ok (.l2i, 1)) (k : ∀ z : Int32, G E R D cy nL P cs sl (pc + 1) lv (.int z :: rest)) : G E R D cy nL P cs sl pc lv (.long x :: rest) := g_l2i C d rfl (k _)
theorem a_lcmp (C : Cx E D cy nL cc own) {x y : Int64} (d : decode cc pc = .ok (.lcmp, 1)) (k : ∀ z : Int32, G E R D cy nL P cs sl (pc + 1) lv (.int z :: rest)) : G E R D cy nL P cs sl pc lv (.long y :: .long x :: rest) := g_lcmp C d (k _)
theorem a_lcmp0 (C : Cx E D cy nL cc own) {x : Int64} (d : decode cc pc = .ok (.lcmp, 1)) (k : ∀ z : Int32, (z.toInt ≠ 0 → ¬ x = 0) → G E R D cy nL P cs sl (pc + 1) lv (.int z :: rest)) : G E R D cy nL P cs sl pc lv (.long 0 :: .long x :: rest) := g_lcmp C d (k _ (fun h e => h (by subst e; decide)))
theorem a_lcmp1 (C : Cx E D cy nL cc own) {x : Int64} (d : decode cc pc = .ok (.lcmp, 1)) (k : ∀ z : Int32, (0 < z.toInt → ¬ x = 0) → G E R D cy nL P cs sl (pc + 1) lv (.int z :: rest)) : G E R D cy nL P cs sl pc lv (.long 1 :: .long x :: rest) := g_lcmp C d (k _ (fun h e => by subst e; exact absurd h (by decide)))
theorem a_iinc (C : Cx E D cy nL cc own) {i : Nat} {n : Int} {x : Int32} {lv0 : List (Nat × Value)} (d : decode cc pc = .ok (.iinc i n, 3)) (j : Nat) (h : lv[j]? = some (i, .int x)) (hn : i < nL) (hw : lv.filter (fun q => !(q.1 == i) && !(q.1 + 1 == i && q.2.category == 2)) = lv0) (k : ∀ z : Int32, G E R D cy nL P cs sl (pc + 3) ((i, .int z) :: lv0) rest) : G E R D cy nL P cs sl pc lv rest := g_iinc (v := x + Int32.ofInt n) (lv' := (i, .int (x + Int32.ofInt n)) :: lv0) C d j h rfl hn (by rw [hw]) (k _)
theorem s_iinc (C : Cx E D cy nL cc own) {i : Nat} {n m : Int} {x : Int32} {lv0 : List (Nat × Value)} (d : decode cc pc = .ok (.iinc i n, 3)) (j : Nat) (h : lv[j]? = some (i, .int x)) (hn : i < nL) (hw : lv.filter (fun q => !(q.1 == i) && !(q.1 + 1 == i && q.2.category == 2)) = lv0) (hm : (Int32.ofInt n).toInt = m) (hb : -2147483648 ≤ x.toInt + m ∧ x.toInt + m ≤ 2147483647) (k : ∀ z : Int32, z.toInt = x.toInt + m → G E R D cy nL P cs sl (pc + 3) ((i, .int z) :: lv0) rest) : G E R D cy nL P cs sl pc lv rest := g_iinc (v := x + Int32.ofInt n) (lv' := (i, .int (x + Int32.ofInt n)) :: lv0) C d j h rfl hn (by rw [hw]) (k _ (by subst hm; exact ti_add hb))
/-- behind a write or a call: any pool that is in order -/
theorem gp {P0 : PP} {ks : List Nat} {st : List Value} (I : IV P) (X : EK ks P0 P) (k : ∀ P2, IV P2 → EK ks P0 P2 → G E R D cy nL P2 cs sl pc lv st) : G E R D cy nL P cs sl pc lv st := k P I X
/-- .. a field of an object: its other fields stay, this one is v -/
theorem gpW {P0 : PP} {ks : List Nat} {a f : Nat} {v : Int32} {st : List Value} (I : IV (pSI P0 a f v)) (X : EK ks P0 (pSI P0 a f v)) (k : ∀ P2, IV P2 → EK ks P0 P2 → (∀ j, j ≠ f → (pI P2 a j).toInt = (pI P0 a j).toInt) → (pI P2 a f).toInt = v.toInt → G E R D cy nL P2 cs sl pc lv st) : G E R D cy nL (pSI P0 a f v) cs sl pc lv st := k _ I X (fun _ h => wI_same h) wI_self
theorem g_aloadN (C : Cx E D cy nL cc own) {i : Nat} (d : decode cc pc = .ok (.aload i, 2)) (j : Nat) (h : lv[j]? = some (i, .null)) (k : G E R D cy nL P cs sl (pc + 2) lv (.null :: rest)) : G E R D cy nL P cs sl pc lv rest := by
  obtain ⟨p, l, e, s, m, args, below, meth, c, Q, A⟩ := E
  obtain ⟨hx, hb, hml, hown, hT, hK, hA, hlk, hZ⟩ := C
  intro H locs ls hP hD hS hl
  exact lv_aloadN hx hb d (lv_at hl j h) (k H locs ls hP hD hS hl)
theorem g_mmin (C : Cx E D cy nL cc own) {idx : Nat} {x y : Int32} (ms : MS own idx yJ9_min_7cf53 cJ9_min_7cf53 2 (some .int) 2) (hf : 1 ≤ R.frames) (hl9 : 40 ≤ R.locals) (hr : (rest.map fun v => v.category).sum ≤ 8) (hc : cs ≤ R.cells ∧ sl ≤ R.slots) (d : decode cc pc = .ok (.invokestatic idx, 3)) (k : ∀ z : Int32, (z.toInt ≤ x.toInt ∧ z.toInt ≤ y.toInt ∧ (z.toInt = x.toInt ∨ z.toInt = y.toInt)) → G E R D cy nL P cs sl (pc + 3) lv (.int z :: rest)) : G E R D cy nL P cs sl pc lv (.int y :: .int x :: rest) := by
  obtain ⟨p, l, e, s, m, args, below, meth, c, Q, A⟩ := E
  obtain ⟨hx, hb, hml, hown, hT, hK, hA, hlk, hZ⟩ := C
  obtain ⟨⟨m1, m2, m3, m4⟩, m5⟩ := ms
  intro H locs ls hP hD hS hl
  refine va_mmin hx hb (hml.trans hl.1.symm) hown (m1 s hT args) (m5 s hT args) (m2 s hT args) (m3 s hT args) hf (by omega) hc.1 hc.2 d (k _ ?_ H locs ls hP hD hS hl)
  by_cases h : y < x
  · rw [if_pos h]
    rw [Int32.lt_iff_toInt_lt] at h
    omega
  · rw [if_neg h]
    rw [Int32.lt_iff_toInt_lt] at h
    omega
theorem g_ldcw (C : Cx E D cy nL cc own) {index : Nat} {v : Int32} (hw : TW (.constant own index v)) (d : decode cc pc = .ok (.ldc_w index, 3)) (k : G E R D cy nL P cs sl (pc + 3) lv (.int v :: rest)) : G E R D cy nL P cs sl pc lv rest := by
  obtain ⟨p, l, e, s, m, args, below, meth, c, Q, A⟩ := E
  obtain ⟨hx, hb, hml, hown, hT, hK, hA, hlk, hZ⟩ := C
  intro H locs ls hP hD hS hl
  exact lv_ldcw hx hb hown (hw s hT args) d (k H locs ls hP hD hS hl)
theorem g_astN (C : Cx E D cy nL cc own) {a j kd : Nat} {i : Int32} (haL : a ∈ pL P) (haK : pK P a = kd) (h16 : 16 ≤ kd ∧ kd ≤ 20) (hi : IX i (pN P a) j) (d : decode cc pc = .ok (.aastore, 1)) (kk : G E R D cy nL (pSR P a j none) cs sl (pc + 1) lv rest) : G E R D cy nL P cs sl pc lv (.null :: .int i :: .ref a :: rest) := by
  obtain ⟨p, l, e, s, m, args, below, meth, c, Q, A⟩ := E
  obtain ⟨hx, hb, hml, hown, hT, hK, hA, hlk, hZ⟩ := C
  intro H locs ls hP hD hS hl
  obtain ⟨rfl, hin⟩ := hi
  obtain ⟨q0, hq⟩ := pw_get (cy := cy) haL
  have hq2 := hq
  rw [pe_ref haK h16.1] at hq
  refine va_astqN hx hb hK hP hD hS q0 (kd - 13) hq (by rw [tysL_rk cy h16.1 h16.2]) hin d (fun H1 locs1 hP1 hD1 hS1 => ?_)
  have e9 := pw_set (P' := pSR P a i.toNatClampNeg none) (x := .inl (cy kd, pN P a, .inr (.inr (.inr (.inr (va_up (pR P a) i.toNatClampNeg none)))))) hD haL hq2 rfl (pe_AR haK h16.1)
  rw [e9] at hP1 hD1
  exact kk H1 locs1 ls hP1 hD1 hS1 hl
end SR
