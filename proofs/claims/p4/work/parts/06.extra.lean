theorem xFd.at {P : PP} {a c : Nat} (h : xOk P a) (hc : pK P a = c) (k kd n : Nat) (hs : shp c k = some (kd, n)) : ∃ b, pR P a k = some b ∧ b ∈ pL P ∧ pK P b = kd ∧ pN P b = n := h.1 k kd n (by rw [hc]; exact hs)
theorem xAr.at {P : PP} {a c : Nat} (h : xOk P a) (hc : pK P a = c) (h16 : 16 ≤ c ∧ c ≤ 19) (j : Nat) (hj : j < pN P a) : ∃ b, pR P a j = some b ∧ b ∈ pL P ∧ pK P b = ek c := by
  subst hc
  exact h.2 h16.1 h16.2 j hj
theorem nar_b {v : Int32} (h : v = 0 ∨ v = 1) : narrow .boolean (.int v) = .int v := by rcases h with rfl | rfl <;> rfl
theorem i_nlt {a b : Int32} (h : ¬ a < b) : b.toInt ≤ a.toInt := by
  rw [Int32.lt_iff_toInt_lt] at h; omega
theorem i_nle {a b : Int32} (h : ¬ a ≤ b) : b.toInt < a.toInt := by
  rw [Int32.le_iff_toInt_le] at h; omega
theorem IX.int {i : Int32} {n : Nat} (h0 : 0 ≤ i.toInt) (h1 : i.toInt < n) : IX i n i.toInt.toNat := by
  refine ⟨rfl, ?_⟩
  exact vp_in_iff.mpr ⟨h0, h1⟩
section GB
variable {E : EV} {R : Room} {D : va_G} {cy : Nat → ClassId} {nL : Nat} {P : PP} {cs sl pc : Nat} {lv : List (Nat × Value)} {rest : List Value} {cc : ByteArray} {own : String}
theorem b_if_lt (C : Cx E D cy nL cc own) {x : Int32} {off : Int} (tgt : Nat) (d : decode cc pc = .ok (.ifCond .lt off, 3)) (ht : (pc : Int) + off = (tgt : Int)) (kt : x.toInt < 0 → G E R D cy nL P cs sl tgt lv rest) (kf : 0 ≤ x.toInt → G E R D cy nL P cs sl (pc + 3) lv rest) : G E R D cy nL P cs sl pc lv (.int x :: rest) := g_if_lt C tgt d ht (fun q => kt (Int32.lt_iff_toInt_lt.mp q)) (fun q => kf (i_nlt q))
theorem b_icmp_lt (C : Cx E D cy nL cc own) {x y : Int32} {off : Int} (tgt : Nat) (d : decode cc pc = .ok (.if_icmp .lt off, 3)) (ht : (pc : Int) + off = (tgt : Int)) (kt : x.toInt < y.toInt → G E R D cy nL P cs sl tgt lv rest) (kf : y.toInt ≤ x.toInt → G E R D cy nL P cs sl (pc + 3) lv rest) : G E R D cy nL P cs sl pc lv (.int y :: .int x :: rest) := g_icmp_lt C tgt d ht (fun q => kt (Int32.lt_iff_toInt_lt.mp q)) (fun q => kf (i_nlt q))
theorem b_if_ge (C : Cx E D cy nL cc own) {x : Int32} {off : Int} (tgt : Nat) (d : decode cc pc = .ok (.ifCond .ge off, 3)) (ht : (pc : Int) + off = (tgt : Int)) (kt : 0 ≤ x.toInt → G E R D cy nL P cs sl tgt lv rest) (kf : x.toInt < 0 → G E R D cy nL P cs sl (pc + 3) lv rest) : G E R D cy nL P cs sl pc lv (.int x :: rest) := g_if_ge C tgt d ht (fun q => kt (Int32.le_iff_toInt_le.mp q)) (fun q => kf (i_nle q))
theorem b_icmp_ge (C : Cx E D cy nL cc own) {x y : Int32} {off : Int} (tgt : Nat) (d : decode cc pc = .ok (.if_icmp .ge off, 3)) (ht : (pc : Int) + off = (tgt : Int)) (kt : y.toInt ≤ x.toInt → G E R D cy nL P cs sl tgt lv rest) (kf : x.toInt < y.toInt → G E R D cy nL P cs sl (pc + 3) lv rest) : G E R D cy nL P cs sl pc lv (.int y :: .int x :: rest) := g_icmp_ge C tgt d ht (fun q => kt (Int32.le_iff_toInt_le.mp q)) (fun q => kf (i_nle q))
theorem b_if_gt (C : Cx E D cy nL cc own) {x : Int32} {off : Int} (tgt : Nat) (d : decode cc pc = .ok (.ifCond .gt off, 3)) (ht : (pc : Int) + off = (tgt : Int)) (kt : 0 < x.toInt → G E R D cy nL P cs sl tgt lv rest) (kf : x.toInt ≤ 0 → G E R D cy nL P cs sl (pc + 3) lv rest) : G E R D cy nL P cs sl pc lv (.int x :: rest) := g_if_gt C tgt d ht (fun q => kt (Int32.lt_iff_toInt_lt.mp q)) (fun q => kf (i_nlt q))
theorem b_icmp_gt (C : Cx E D cy nL cc own) {x y : Int32} {off : Int} (tgt : Nat) (d : decode cc pc = .ok (.if_icmp .gt off, 3)) (ht : (pc : Int) + off = (tgt : Int)) (kt : y.toInt < x.toInt → G E R D cy nL P cs sl tgt lv rest) (kf : x.toInt ≤ y.toInt → G E R D cy nL P cs sl (pc + 3) lv rest) : G E R D cy nL P cs sl pc lv (.int y :: .int x :: rest) := g_icmp_gt C tgt d ht (fun q => kt (Int32.lt_iff_toInt_lt.mp q)) (fun q => kf (i_nlt q))
theorem b_if_le (C : Cx E D cy nL cc own) {x : Int32} {off : Int} (tgt : Nat) (d : decode cc pc = .ok (.ifCond .le off, 3)) (ht : (pc : Int) + off = (tgt : Int)) (kt : x.toInt ≤ 0 → G E R D cy nL P cs sl tgt lv rest) (kf : 0 < x.toInt → G E R D cy nL P cs sl (pc + 3) lv rest) : G E R D cy nL P cs sl pc lv (.int x :: rest) := g_if_le C tgt d ht (fun q => kt (Int32.le_iff_toInt_le.mp q)) (fun q => kf (i_nle q))
theorem b_icmp_le (C : Cx E D cy nL cc own) {x y : Int32} {off : Int} (tgt : Nat) (d : decode cc pc = .ok (.if_icmp .le off, 3)) (ht : (pc : Int) + off = (tgt : Int)) (kt : x.toInt ≤ y.toInt → G E R D cy nL P cs sl tgt lv rest) (kf : y.toInt < x.toInt → G E R D cy nL P cs sl (pc + 3) lv rest) : G E R D cy nL P cs sl pc lv (.int y :: .int x :: rest) := g_icmp_le C tgt d ht (fun q => kt (Int32.le_iff_toInt_le.mp q)) (fun q => kf (i_nle q))
theorem b_if_eq (C : Cx E D cy nL cc own) {x : Int32} {off : Int} (tgt : Nat) (d : decode cc pc = .ok (.ifCond .eq off, 3)) (ht : (pc : Int) + off = (tgt : Int)) (kt : x = 0 → G E R D cy nL P cs sl tgt lv rest) (kf : ¬ x = 0 → G E R D cy nL P cs sl (pc + 3) lv rest) : G E R D cy nL P cs sl pc lv (.int x :: rest) := g_if_eq C tgt d ht kt kf
theorem b_icmp_eq (C : Cx E D cy nL cc own) {x y : Int32} {off : Int} (tgt : Nat) (d : decode cc pc = .ok (.if_icmp .eq off, 3)) (ht : (pc : Int) + off = (tgt : Int)) (kt : x = y → G E R D cy nL P cs sl tgt lv rest) (kf : ¬ x = y → G E R D cy nL P cs sl (pc + 3) lv rest) : G E R D cy nL P cs sl pc lv (.int y :: .int x :: rest) := g_icmp_eq C tgt d ht kt kf
theorem b_if_ne (C : Cx E D cy nL cc own) {x : Int32} {off : Int} (tgt : Nat) (d : decode cc pc = .ok (.ifCond .ne off, 3)) (ht : (pc : Int) + off = (tgt : Int)) (kt : ¬ x = 0 → G E R D cy nL P cs sl tgt lv rest) (kf : x = 0 → G E R D cy nL P cs sl (pc + 3) lv rest) : G E R D cy nL P cs sl pc lv (.int x :: rest) := g_if_ne C tgt d ht kt kf
theorem b_icmp_ne (C : Cx E D cy nL cc own) {x y : Int32} {off : Int} (tgt : Nat) (d : decode cc pc = .ok (.if_icmp .ne off, 3)) (ht : (pc : Int) + off = (tgt : Int)) (kt : ¬ x = y → G E R D cy nL P cs sl tgt lv rest) (kf : x = y → G E R D cy nL P cs sl (pc + 3) lv rest) : G E R D cy nL P cs sl pc lv (.int y :: .int x :: rest) := g_icmp_ne C tgt d ht kt kf
theorem g_astore_nN (C : Cx E D cy nL cc own) {z : Fin 4} {i : Nat} {lv' : List (Nat × Value)} (d : decode cc pc = .ok (.astore_n z, 1)) (hi : (z : Nat) = i) (hn : i < nL) (hv : (i, Value.null) :: lv.filter (fun q => !(q.1 == i) && !(q.1 + 1 == i && q.2.category == 2)) = lv') (k : G E R D cy nL P cs sl (pc + 1) lv' rest) : G E R D cy nL P cs sl pc lv (.null :: rest) := by
  obtain ⟨p, l, e, s, m, args, below, meth, c, Q, A⟩ := E
  obtain ⟨hx, hb, hml, hown, hT, hK, hA, hlk, hZ⟩ := C
  intro H locs ls hP hD hS hl
  exact lv_astore_nN hx hb d hi hl hn hv (fun ls' hl' => k H locs ls' hP hD hS hl')
theorem g_astoreN (C : Cx E D cy nL cc own) {i : Nat} {lv' : List (Nat × Value)} (d : decode cc pc = .ok (.astore i, 2)) (hn : i < nL) (hv : (i, Value.null) :: lv.filter (fun q => !(q.1 == i) && !(q.1 + 1 == i && q.2.category == 2)) = lv') (k : G E R D cy nL P cs sl (pc + 2) lv' rest) : G E R D cy nL P cs sl pc lv (.null :: rest) := by
  obtain ⟨p, l, e, s, m, args, below, meth, c, Q, A⟩ := E
  obtain ⟨hx, hb, hml, hown, hT, hK, hA, hlk, hZ⟩ := C
  intro H locs ls hP hD hS hl
  exact lv_astoreN hx hb d hl hn hv (fun ls' hl' => k H locs ls' hP hD hS hl')
end GB
/-- the pool with other numbers in its cells -/
def pWI (P : PP) (I2 : Nat → Nat → Int32) (J2 : Nat → Nat → Int64) : PP := (pL P, pK P, pN P, I2, pR P, J2)
theorem pWI_self (P : PP) : P = pWI P (pI P) (pJ P) := rfl
theorem ti_nI {i : Nat} (h : i < 2147483648) : (nI i).toInt = (i : Int) := nI_toInt h
theorem IX.ofI {i n : Nat} (h : i < n) (hn : n < 2 ^ 31) : IX (nI i) n i := IX.of rfl h hn
theorem IX.inn {i n N : Nat} (hN : n = N) (h : i < N) (h2 : N < 2147483648) : IX (nI i) n i := by subst hN; exact IX.ofI h h2
theorem IX.litn {i : Int32} {j n N : Nat} (hN : n = N) (hi : i = Int32.ofNat j) (h : j < N) (h2 : N < 2147483648) : IX i n j := by subst hN; exact IX.of (j := j) hi h h2
theorem IX.intn {i : Int32} {n N : Nat} (hN : n = N) (h0 : 0 ≤ i.toInt) (h1 : i.toInt < (N : Int)) : IX i n i.toInt.toNat := by subst hN; exact IX.int h0 h1
theorem ix_of {x : Int32} {n : Nat} (h0 : 0 ≤ x.toInt) (h1 : x.toInt < (n : Int)) (hn : n < 2147483648) : ∃ j : Nat, j < n ∧ x = nI j := by
  obtain ⟨j, h2, h3⟩ := nI_of (x := x) (by rw [Int32.lt_iff_toInt_lt]; show ¬ x.toInt < 0; omega)
  refine ⟨j, ?_, h3⟩
  rw [h3, nI_toInt h2] at h1
  omega
theorem ix_4 (j i : Nat) : nI j * 4 + nI i = nI (j * 4 + i) := by
  rw [show (4 : Int32) = nI 4 from rfl, pk_mul, nI_add]
theorem lt_n {j n N : Nat} (hN : n = N) (h : j < N) : j < n := by subst hN; exact h
/-- a new object of the class, as it is seen by the calls -/
def FC (P : PP) (x : Nat) : Prop := x ∈ pL P ∧ pK P x = 11 ∧ (∀ a, a ∈ pL P → xOk P a) ∧ (∀ a, a ∈ pL P → pK P a = 1 → pI P a 4 = 0) ∧ (∀ a, a ∈ pL P → pK P a = 6 → pI P a 1 = 0) ∧ (∀ a, a ∈ pL P → pK P a = 9 → pI P a 1 = 0) ∧ pI P x 13 = 0 ∧ (∀ b, pR P x 5 = some b → ∀ j, j < 4 → pI P b j = 1) ∧ (∀ b, pR P x 3 = some b → ∀ j, j < 4 → pI P b j = 0)
/-- a new object of the reference -/
def FM (P : PP) (x : Nat) : Prop := x ∈ pL P ∧ pK P x = 12 ∧ (∀ a, a ∈ pL P → xOk P a) ∧ (∀ k k2 b, pR P x k = some b → pR P x k2 = some b → k = k2) ∧ (∀ b, pR P x 10 = some b → ∀ j, pI P b j = 0) ∧ (∀ b, pR P x 20 = some b → ∀ j, pI P b j = 0) ∧ (∀ b, pR P x 26 = some b → ∀ j, pI P b j = 0) ∧ pI P x 2 = 0 ∧ pI P x 27 = 0 ∧ (∀ b, pR P x 46 = some b → ∀ j, j < 4 → pI P b j = 1)
