/-! ===== Int32 by its bits: bt x i ===== -/
def bt (x : Int32) (i : Nat) : Bool := x.toBitVec.getLsbD i
theorem b_ext {x y : Int32} (h : ∀ i, i < 32 → bt x i = bt y i) : x = y := Int32.toBitVec_inj.mp (BitVec.eq_of_getLsbD_eq (fun i hi => h i hi))
theorem b_or (x y : Int32) (i : Nat) : bt (x ||| y) i = (bt x i || bt y i) := by unfold bt; rw [Int32.toBitVec_or, BitVec.getLsbD_or]
theorem b_and (x y : Int32) (i : Nat) : bt (x &&& y) i = (bt x i && bt y i) := by unfold bt; rw [Int32.toBitVec_and, BitVec.getLsbD_and]
theorem b_xor (x y : Int32) (i : Nat) : bt (x ^^^ y) i = (bt x i ^^ bt y i) := by unfold bt; rw [Int32.toBitVec_xor, BitVec.getLsbD_xor]
theorem b_big {x : Int32} {i : Nat} (h : 32 ≤ i) : bt x i = false := BitVec.getLsbD_of_ge _ _ h
theorem b_255 (i : Nat) : bt 255 i = decide (i < 8) := by
  rcases Nat.lt_or_ge i 32 with h | h
  · exact (by decide +kernel : ∀ i, i < 32 → bt 255 i = decide (i < 8)) i h
  · rw [b_big h, decide_eq_false (by omega)]
theorem b_65535 (i : Nat) : bt 65535 i = decide (i < 16) := by
  rcases Nat.lt_or_ge i 32 with h | h
  · exact (by decide +kernel : ∀ i, i < 32 → bt 65535 i = decide (i < 16)) i h
  · rw [b_big h, decide_eq_false (by omega)]
theorem b_m1 : ∀ i, i < 32 → bt (-1) i = true := by decide +kernel
theorem b_0 (i : Nat) : bt 0 i = false := BitVec.getLsbD_zero
theorem s_l : ∀ n, n < 32 → ((nI n &&& 31).toBitVec.smod 32).toNat = n := by decide +kernel
theorem s_u : ∀ n, n < 32 → (((nI n).toUInt32 &&& Int32.toUInt32 31).toBitVec % 32).toNat = n := by decide +kernel
theorem b_shl (n : Nat) (hn : n < 32) (x : Int32) {i : Nat} (hi : i < 32) : bt (x <<< (nI n &&& 31)) i = (decide (n ≤ i) && bt x (i - n)) := by
  unfold bt
  rw [Int32.toBitVec_shiftLeft]
  show (x.toBitVec <<< ((nI n &&& 31).toBitVec.smod 32).toNat).getLsbD i = _
  rw [s_l n hn, BitVec.getLsbD_shiftLeft]
  rcases Nat.lt_or_ge i n with h | h
  · simp [h, Nat.not_le.mpr h]
  · simp [hi, h, Nat.not_lt.mpr h]
theorem b_ushr (n : Nat) (hn : n < 32) (x : Int32) (i : Nat) : bt ((x.toUInt32 >>> ((nI n).toUInt32 &&& Int32.toUInt32 31)).toInt32) i = bt x (n + i) := by
  show (x.toUInt32 >>> ((nI n).toUInt32 &&& Int32.toUInt32 31)).toBitVec.getLsbD i = x.toUInt32.toBitVec.getLsbD (n + i)
  rw [UInt32.toBitVec_shiftRight]
  show (x.toUInt32.toBitVec >>> (((nI n).toUInt32 &&& Int32.toUInt32 31).toBitVec % 32).toNat).getLsbD i = _
  rw [s_u n hn, BitVec.getLsbD_ushiftRight]
theorem b_sshr (n : Nat) (hn : n < 32) (x : Int32) {i : Nat} (hi : i < 32) : bt (x >>> (nI n &&& 31)) i = if n + i < 32 then bt x (n + i) else bt x 31 := by
  unfold bt
  rw [Int32.toBitVec_shiftRight]
  show (x.toBitVec.sshiftRight ((nI n &&& 31).toBitVec.smod 32).toNat).getLsbD i = _
  rw [s_l n hn, BitVec.getLsbD_sshiftRight, BitVec.msb_eq_getLsbD_last]
  simp [hi]
theorem b_shl8 (x : Int32) {i : Nat} (hi : i < 32) : bt (x <<< ((8 : Int32) &&& 31)) i = (decide (8 ≤ i) && bt x (i - 8)) := b_shl 8 (by omega) x hi
theorem b_shl16 (x : Int32) {i : Nat} (hi : i < 32) : bt (x <<< ((16 : Int32) &&& 31)) i = (decide (16 ≤ i) && bt x (i - 16)) := b_shl 16 (by omega) x hi
theorem b_shl24 (x : Int32) {i : Nat} (hi : i < 32) : bt (x <<< ((24 : Int32) &&& 31)) i = (decide (24 ≤ i) && bt x (i - 24)) := b_shl 24 (by omega) x hi
theorem b_sshr8 (x : Int32) {i : Nat} (hi : i < 32) : bt (x >>> ((8 : Int32) &&& 31)) i = if 8 + i < 32 then bt x (8 + i) else bt x 31 := b_sshr 8 (by omega) x hi
/-! ===== Int32 as a set of bits: test, set ===== -/
def nf_M (m : Int32) : Nat := 4294967296 - m.toBitVec.toNat
theorem nf_sh : ∀ l, l < 32 → ((1 : Int32) <<< (nI l &&& 31)).toBitVec = BitVec.twoPow 32 l := by decide +kernel
theorem nf_sl : ∀ l, l < 32 → (((nI l).toUInt32 &&& Int32.toUInt32 31).toBitVec % 32).toNat = l := by decide +kernel
theorem nf_tp : ∀ l, l < 32 → BitVec.twoPow 32 l ≠ 0#32 := by decide +kernel
theorem nf_bit (m : Int32) (l : Nat) (hl : l < 32) : ((m.toUInt32 >>> ((nI l).toUInt32 &&& Int32.toUInt32 31)).toInt32 &&& 1) = 0 ↔ (m &&& ((1 : Int32) <<< (nI l &&& 31))) = 0 := by
  have e : ((m.toUInt32 >>> ((nI l).toUInt32 &&& Int32.toUInt32 31)).toInt32).toBitVec = m.toBitVec >>> l := by
    show m.toBitVec >>> (((nI l).toUInt32 &&& Int32.toUInt32 31).toBitVec % 32) = m.toBitVec >>> l
    rw [BitVec.ushiftRight_eq', nf_sl l hl]
  rw [← Int32.toBitVec_inj, ← Int32.toBitVec_inj, Int32.toBitVec_and, Int32.toBitVec_and, nf_sh l hl, e, BitVec.and_twoPow]
  show (m.toBitVec >>> l &&& 1#32) = 0#32 ↔ _ = 0#32
  rw [BitVec.and_one_eq_setWidth_ofBool_getLsbD, BitVec.getLsbD_ushiftRight, Nat.add_zero]
  cases hb : m.toBitVec.getLsbD l
  · exact ⟨fun _ => by simp, fun _ => by decide⟩
  · exact ⟨fun z => absurd z (by decide), fun z => absurd ((if_pos rfl).symm.trans z) (nf_tp l hl)⟩
theorem nf_gr (m k : Int32) (h : m &&& k = 0) (hk : k ≠ 0) : nf_M (m ||| k) < nf_M m := by
  have hm := m.toBitVec.isLt
  have hm' := (m ||| k).toBitVec.isLt
  have h1 : m.toBitVec.toNat ≤ (m ||| k).toBitVec.toNat := by
    rw [Int32.toBitVec_or, BitVec.toNat_or]
    exact Nat.left_le_or
  have h2 : m.toBitVec.toNat ≠ (m ||| k).toBitVec.toNat := by
    intro e
    have e2 : m = m ||| k := Int32.toBitVec_inj.mp (BitVec.eq_of_toNat_eq e)
    apply hk
    apply Int32.toBitVec_inj.mp
    show k.toBitVec = 0#32
    apply BitVec.eq_of_getLsbD_eq
    intro i hi
    have a : m.toBitVec.getLsbD i = (m.toBitVec.getLsbD i || k.toBitVec.getLsbD i) := by rw [← BitVec.getLsbD_or, ← Int32.toBitVec_or, ← e2]
    have b : (m.toBitVec.getLsbD i && k.toBitVec.getLsbD i) = false := by
      rw [← BitVec.getLsbD_and, ← Int32.toBitVec_and, h]
      exact BitVec.getLsbD_zero
    rw [BitVec.getLsbD_zero]
    revert a b
    cases m.toBitVec.getLsbD i <;> cases k.toBitVec.getLsbD i <;> simp
  unfold nf_M
  omega
/-! bits: what is added to a set leaves less out -/
theorem and_rest (p s : Int32) : p &&& (s &&& (p ^^^ (-1))) = 0 := b_ext (fun i hi => by
  rw [b_and, b_and, b_xor, b_m1 i hi, b_0]
  cases bt p i <;> cases bt s i <;> rfl)
theorem bit_of0 {a k z w : Int32} (h1 : z = a >>> (k &&& 31)) (h2 : w = z &&& 1) (h0 : 0 ≤ k.toInt ∧ k.toInt ≤ 31) : a.toInt ≠ 0 ∨ w.toInt = 0 := by
  by_cases e : a.toInt = 0
  · refine Or.inr ?_
    have ea : a = 0 := Int32.toInt_inj.mp e
    obtain ⟨j, hj, rfl⟩ := ix_of (x := k) (n := 32) h0.1 (by omega) (by decide)
    have : w = 0 := by
      rw [h2, h1, ea]
      exact b_ext (fun i hi => by
        rw [b_and, b_sshr j hj 0 hi, b_0, b_0, b_0]
        split <;> rfl)
    rw [this]; rfl
  · exact Or.inl e
/-! sums that a search walks along -/
def opos (v : Int32) : Int := if v.toInt < 0 then 0 else v.toInt
def oS (f : Nat → Int32) (o : Nat) : Nat → Int
  | 0 => 0
  | n + 1 => oS f o n + opos (f (o + (n + 1)))
theorem oS_step {f : Nat → Int32} {o k : Nat} {d d2 : Int} (h1 : 1 ≤ d) (h2 : d2 = d + 1) (hk : k = o + d.toNat) : oS f o (d2 - 1).toNat = oS f o (d - 1).toNat + opos (f k) := by
  rw [show (d2 - 1).toNat = (d - 1).toNat + 1 by omega, hk, show d.toNat = (d - 1).toNat + 1 by omega]
  rfl
theorem oS_step2 {f : Nat → Int32} {o k : Nat} {d d2 : Int} (h1 : 0 ≤ d) (h2 : d2 = d + 1) (hk : k = o + d2.toNat) : oS f o d2.toNat = oS f o d.toNat + opos (f k) := by
  rw [hk, show d2.toNat = d.toNat + 1 by omega]
  rfl
theorem oS_first {f : Nat → Int32} {o k : Nat} (hk : k = o + 1) : oS f o (1 : Int).toNat = opos (f k) := by
  rw [hk]
  show 0 + opos (f (o + (0 + 1))) = _
  rw [Int.zero_add]
theorem oS_zero {f : Nat → Int32} {o : Nat} : oS f o ((1 : Int) - 1).toNat = 0 := rfl
section SRM
variable {E : EV} {R : Room} {D : va_G} {cy : Nat → ClassId} {nL : Nat} {P : PP} {cs sl pc : Nat} {lv : List (Nat × Value)} {rest : List Value} {cc : ByteArray} {own : String}
theorem s_irem (C : Cx E D cy nL cc own) {x y : Int32} (d : decode cc pc = .ok (.irem, 1)) (h : 0 < y.toInt) (k : ∀ z : Int32, (-y.toInt < z.toInt ∧ z.toInt < y.toInt) → G E R D cy nL P cs sl (pc + 1) lv (.int z :: rest)) : G E R D cy nL P cs sl pc lv (.int y :: .int x :: rest) :=
  g_irem C d (fun e => by rw [e] at h; exact absurd h (by decide)) (k _ (by rw [rem_toInt]; exact ⟨Int.lt_tmod_of_pos _ h, Int.tmod_lt_of_pos _ h⟩))
end SRM
/-! a draw of pages: sums over what is not yet in the set -/
def bI (s : Int32) (p : Nat) : Int := if bt s p then 1 else 0
theorem b_1 (i : Nat) : bt 1 i = decide (i = 0) := by
  rcases Nat.lt_or_ge i 32 with h | h
  · exact (by decide +kernel : ∀ i, i < 32 → bt 1 i = decide (i = 0)) i h
  · rw [b_big h, decide_eq_false (by omega)]
theorem and1_val (z : Int32) : (z &&& 1).toInt = bI z 0 := by
  unfold bI
  cases h : bt z 0
  · have : z &&& 1 = 0 := b_ext (fun i hi => by
      rw [b_and, b_1, b_0]
      rcases Nat.eq_zero_or_pos i with e | e
      · rw [e, h]; rfl
      · rw [decide_eq_false (by omega), Bool.and_false])
    rw [this]; rfl
  · have : z &&& 1 = 1 := b_ext (fun i hi => by
      rw [b_and, b_1]
      rcases Nat.eq_zero_or_pos i with e | e
      · rw [e, h]; rfl
      · rw [decide_eq_false (by omega), Bool.and_false])
    rw [this]; rfl
theorem bit_val {s k z w : Int32} (h1 : z = s >>> (k &&& 31)) (h2 : w = z &&& 1) (h0 : 0 ≤ k.toInt ∧ k.toInt ≤ 31) : w.toInt = bI s k.toInt.toNat := by
  obtain ⟨j, hj, rfl⟩ := ix_of (x := k) (n := 32) h0.1 (by omega) (by decide)
  have ej : (nI j).toInt.toNat = j := by
    have := (by decide +kernel : ∀ j, j < 32 → (nI j).toInt.toNat = j) j hj
    exact this
  rw [h2, and1_val, h1, ej]
  unfold bI
  rw [b_sshr j hj s (show 0 < 32 by omega), show (if j + 0 < 32 then bt s (j + 0) else bt s 31) = bt s j from if_pos hj]
def wt (a c : Int) (p : Nat) : Int := if (p : Int) < a then c else 1
def fS (s : Int32) (a c : Int) (p : Nat) : Int := if bt s p then 0 else wt a c p
def cS (s : Int32) (a c : Int) : Nat → Int
  | 0 => 0
  | n + 1 => cS s a c n + fS s a c n
def cB (s : Int32) : Nat → Int
  | 0 => 0
  | n + 1 => cB s n + bI s n
theorem fS_of {s w : Int32} {p : Nat} (a c : Int) (h : w.toInt = bI s p) : (w.toInt = 0 ∧ fS s a c p = wt a c p) ∨ (w.toInt = 1 ∧ fS s a c p = 0) := by
  rw [h]
  unfold bI fS
  cases bt s p
  · exact Or.inl ⟨rfl, rfl⟩
  · exact Or.inr ⟨rfl, rfl⟩
theorem wt_rg {a c : Int} (p : Nat) (h : 1 ≤ c ∧ c ≤ 9) : 1 ≤ wt a c p ∧ wt a c p ≤ 9 := by
  unfold wt; split <;> omega
theorem fS_ge {s : Int32} {a c : Int} {p : Nat} (h : 1 ≤ c) : 1 - bI s p ≤ fS s a c p ∧ 0 ≤ fS s a c p := by
  unfold bI fS wt
  cases bt s p
  · simp only [Bool.false_eq_true, if_false]; split <;> omega
  · simp
theorem cS_ge {s : Int32} {a c : Int} (h : 1 ≤ c) : ∀ n : Nat, (n : Int) - cB s n ≤ cS s a c n
  | 0 => by show ((0 : Nat) : Int) - 0 ≤ 0; omega
  | n + 1 => by
    have h1 := cS_ge (s := s) (a := a) h n
    have h2 := (fS_ge (s := s) (a := a) (p := n) h).1
    show ((n + 1 : Nat) : Int) - (cB s n + bI s n) ≤ cS s a c n + fS s a c n
    omega
theorem bI_rg (s : Int32) (p : Nat) : 0 ≤ bI s p ∧ bI s p ≤ 1 := by unfold bI; split <;> omega
theorem cB_mono {s : Int32} {n m : Nat} (h : n ≤ m) : cB s n ≤ cB s m := by
  induction m with
  | zero => rw [show n = 0 by omega]; exact Int.le_refl _
  | succ k ih =>
    rcases Nat.lt_or_ge k n with e | e
    · rw [show n = k + 1 by omega]; exact Int.le_refl _
    · have h1 := ih e
      have h2 := (bI_rg s k).1
      show cB s n ≤ cB s k + bI s k
      omega
theorem cS_pos {s : Int32} {a c N : Int} (h : 1 ≤ c) (h1 : N ≤ 20) (h2 : cB s 20 < N) : 0 < cS s a c N.toNat := by
  have e := cB_mono (s := s) (show (0 : Nat) ≤ 20 by omega)
  have e0 : cB s 0 = 0 := rfl
  have e1 := cB_mono (s := s) (show N.toNat ≤ 20 by omega)
  have e2 := cS_ge (s := s) (a := a) h N.toNat
  omega
theorem cS_step {s : Int32} {a c : Int} {d d2 : Int} (h1 : 0 ≤ d) (h2 : d2 = d + 1) : cS s a c d2.toNat = cS s a c d.toNat + fS s a c d.toNat := by
  rw [show d2.toNat = d.toNat + 1 by omega]; rfl
theorem cS_one {s : Int32} {a c : Int} : cS s a c (0 + 1 : Int).toNat = fS s a c (0 : Int).toNat := by
  show 0 + fS s a c 0 = _
  rw [Int.zero_add]; rfl
theorem bI_set {s w : Int32} {j : Nat} (hj : j < 32) (h2 : w = s ||| ((1 : Int32) <<< (nI j &&& 31))) (q : Nat) (hq : q < 32) : bI w q ≤ bI s q + (if q = j then 1 else 0) := by
  rw [h2]
  unfold bI
  rw [b_or, b_shl j hj 1 hq, b_1]
  by_cases e : q = j
  · rw [if_pos e]; cases bt s q <;> simp <;> split <;> omega
  · rw [if_neg e]
    have : (decide (j ≤ q) && decide (q - j = 0)) = false := by
      rcases Nat.lt_or_ge q j with h | h
      · rw [decide_eq_false (by omega)]; rfl
      · rw [decide_eq_false (p := q - j = 0) (by omega), Bool.and_false]
    rw [this, Bool.or_false]
    omega
theorem cB_set {s w : Int32} {j : Nat} (hj : j < 32) (h2 : w = s ||| ((1 : Int32) <<< (nI j &&& 31))) : ∀ n, n ≤ 32 → cB w n ≤ cB s n + (if j < n then 1 else 0)
  | 0, _ => by show (0 : Int) ≤ 0 + _; split <;> omega
  | n + 1, hn => by
    have h1 := cB_set hj h2 n (by omega)
    have h3 := bI_set hj h2 n (by omega)
    show cB w n + bI w n ≤ cB s n + bI s n + _
    split at h1 <;> split at h3 <;> split <;> omega
theorem set_bit {s k z w : Int32} (h1 : z = (1 : Int32) <<< (k &&& 31)) (h2 : w = s ||| z) (h0 : 0 ≤ k.toInt ∧ k.toInt ≤ 31) : cB w 20 ≤ cB s 20 + 1 := by
  obtain ⟨j, hj, rfl⟩ := ix_of (x := k) (n := 32) h0.1 (by omega) (by decide)
  have := cB_set hj (h2.trans (by rw [h1])) 20 (by omega)
  split at this <;> omega
theorem cB_zero : cB 0 20 = 0 := by decide +kernel
