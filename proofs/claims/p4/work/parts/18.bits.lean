/-! ===== Int32 by its bits: bt x i ===== -/
def bt (x : Int32) (i : Nat) : Bool := x.toBitVec.getLsbD i
theorem b_ext {x y : Int32} (h : ∀ i, i < 32 → bt x i = bt y i) : x = y := Int32.toBitVec_inj.mp (BitVec.eq_of_getLsbD_eq (fun i hi => h i hi))
theorem b_or (x y : Int32) (i : Nat) : bt (x ||| y) i = (bt x i || bt y i) := by unfold bt; rw [Int32.toBitVec_or, BitVec.getLsbD_or]
theorem b_and (x y : Int32) (i : Nat) : bt (x &&& y) i = (bt x i && bt y i) := by unfold bt; rw [Int32.toBitVec_and, BitVec.getLsbD_and]
theorem b_xor (x y : Int32) (i : Nat) : bt (x ^^^ y) i = (bt x i ^^ bt y i) := by unfold bt; rw [Int32.toBitVec_xor, BitVec.getLsbD_xor]
theorem b_big {x : Int32} {i : Nat} (h : 32 ≤ i) : bt x i = false := BitVec.getLsbD_of_ge _ _ h
theorem b_255 (i : Nat) : bt 255 i = decide (i < 8) := by
  rcases Nat.lt_or_ge i 32 with h | h
  · exact (by decide +kernel : ∀ i, i < 32 → bt 255 i = decide (i < 8)) i h
  · rw [b_big h, decide_eq_false (by omega)]
theorem b_65535 (i : Nat) : bt 65535 i = decide (i < 16) := by
  rcases Nat.lt_or_ge i 32 with h | h
  · exact (by decide +kernel : ∀ i, i < 32 → bt 65535 i = decide (i < 16)) i h
  · rw [b_big h, decide_eq_false (by omega)]
theorem b_m1 : ∀ i, i < 32 → bt (-1) i = true := by decide +kernel
theorem b_0 (i : Nat) : bt 0 i = false := BitVec.getLsbD_zero
theorem s_l : ∀ n, n < 32 → ((nI n &&& 31).toBitVec.smod 32).toNat = n := by decide +kernel
theorem s_u : ∀ n, n < 32 → (((nI n).toUInt32 &&& Int32.toUInt32 31).toBitVec % 32).toNat = n := by decide +kernel
theorem b_shl (n : Nat) (hn : n < 32) (x : Int32) {i : Nat} (hi : i < 32) : bt (x <<< (nI n &&& 31)) i = (decide (n ≤ i) && bt x (i - n)) := by
  unfold bt
  rw [Int32.toBitVec_shiftLeft]
  show (x.toBitVec <<< ((nI n &&& 31).toBitVec.smod 32).toNat).getLsbD i = _
  rw [s_l n hn, BitVec.getLsbD_shiftLeft]
  rcases Nat.lt_or_ge i n with h | h
  · simp [h, Nat.not_le.mpr h]
  · simp [hi, h, Nat.not_lt.mpr h]
theorem b_ushr (n : Nat) (hn : n < 32) (x : Int32) (i : Nat) : bt ((x.toUInt32 >>> ((nI n).toUInt32 &&& Int32.toUInt32 31)).toInt32) i = bt x (n + i) := by
  show (x.toUInt32 >>> ((nI n).toUInt32 &&& Int32.toUInt32 31)).toBitVec.getLsbD i = x.toUInt32.toBitVec.getLsbD (n + i)
  rw [UInt32.toBitVec_shiftRight]
  show (x.toUInt32.toBitVec >>> (((nI n).toUInt32 &&& Int32.toUInt32 31).toBitVec % 32).toNat).getLsbD i = _
  rw [s_u n hn, BitVec.getLsbD_ushiftRight]
theorem b_sshr (n : Nat) (hn : n < 32) (x : Int32) {i : Nat} (hi : i < 32) : bt (x >>> (nI n &&& 31)) i = if n + i < 32 then bt x (n + i) else bt x 31 := by
  unfold bt
  rw [Int32.toBitVec_shiftRight]
  show (x.toBitVec.sshiftRight ((nI n &&& 31).toBitVec.smod 32).toNat).getLsbD i = _
  rw [s_l n hn, BitVec.getLsbD_sshiftRight, BitVec.msb_eq_getLsbD_last]
  simp [hi]
theorem b_shl8 (x : Int32) {i : Nat} (hi : i < 32) : bt (x <<< ((8 : Int32) &&& 31)) i = (decide (8 ≤ i) && bt x (i - 8)) := b_shl 8 (by omega) x hi
theorem b_shl16 (x : Int32) {i : Nat} (hi : i < 32) : bt (x <<< ((16 : Int32) &&& 31)) i = (decide (16 ≤ i) && bt x (i - 16)) := b_shl 16 (by omega) x hi
theorem b_shl24 (x : Int32) {i : Nat} (hi : i < 32) : bt (x <<< ((24 : Int32) &&& 31)) i = (decide (24 ≤ i) && bt x (i - 24)) := b_shl 24 (by omega) x hi
theorem b_sshr8 (x : Int32) {i : Nat} (hi : i < 32) : bt (x >>> ((8 : Int32) &&& 31)) i = if 8 + i < 32 then bt x (8 + i) else bt x 31 := b_sshr 8 (by omega) x hi
/-! ===== Int32 as a set of bits: test, set ===== -/
def nf_M (m : Int32) : Nat := 4294967296 - m.toBitVec.toNat
theorem nf_sh : ∀ l, l < 32 → ((1 : Int32) <<< (nI l &&& 31)).toBitVec = BitVec.twoPow 32 l := by decide +kernel
theorem nf_sl : ∀ l, l < 32 → (((nI l).toUInt32 &&& Int32.toUInt32 31).toBitVec % 32).toNat = l := by decide +kernel
theorem nf_tp : ∀ l, l < 32 → BitVec.twoPow 32 l ≠ 0#32 := by decide +kernel
theorem nf_bit (m : Int32) (l : Nat) (hl : l < 32) : ((m.toUInt32 >>> ((nI l).toUInt32 &&& Int32.toUInt32 31)).toInt32 &&& 1) = 0 ↔ (m &&& ((1 : Int32) <<< (nI l &&& 31))) = 0 := by
  have e : ((m.toUInt32 >>> ((nI l).toUInt32 &&& Int32.toUInt32 31)).toInt32).toBitVec = m.toBitVec >>> l := by
    show m.toBitVec >>> (((nI l).toUInt32 &&& Int32.toUInt32 31).toBitVec % 32) = m.toBitVec >>> l
    rw [BitVec.ushiftRight_eq', nf_sl l hl]
  rw [← Int32.toBitVec_inj, ← Int32.toBitVec_inj, Int32.toBitVec_and, Int32.toBitVec_and, nf_sh l hl, e, BitVec.and_twoPow]
  show (m.toBitVec >>> l &&& 1#32) = 0#32 ↔ _ = 0#32
  rw [BitVec.and_one_eq_setWidth_ofBool_getLsbD, BitVec.getLsbD_ushiftRight, Nat.add_zero]
  cases hb : m.toBitVec.getLsbD l
  · exact ⟨fun _ => by simp, fun _ => by decide⟩
  · exact ⟨fun z => absurd z (by decide), fun z => absurd ((if_pos rfl).symm.trans z) (nf_tp l hl)⟩
theorem nf_gr (m k : Int32) (h : m &&& k = 0) (hk : k ≠ 0) : nf_M (m ||| k) < nf_M m := by
  have hm := m.toBitVec.isLt
  have hm' := (m ||| k).toBitVec.isLt
  have h1 : m.toBitVec.toNat ≤ (m ||| k).toBitVec.toNat := by
    rw [Int32.toBitVec_or, BitVec.toNat_or]
    exact Nat.left_le_or
  have h2 : m.toBitVec.toNat ≠ (m ||| k).toBitVec.toNat := by
    intro e
    have e2 : m = m ||| k := Int32.toBitVec_inj.mp (BitVec.eq_of_toNat_eq e)
    apply hk
    apply Int32.toBitVec_inj.mp
    show k.toBitVec = 0#32
    apply BitVec.eq_of_getLsbD_eq
    intro i hi
    have a : m.toBitVec.getLsbD i = (m.toBitVec.getLsbD i || k.toBitVec.getLsbD i) := by rw [← BitVec.getLsbD_or, ← Int32.toBitVec_or, ← e2]
    have b : (m.toBitVec.getLsbD i && k.toBitVec.getLsbD i) = false := by
      rw [← BitVec.getLsbD_and, ← Int32.toBitVec_and, h]
      exact BitVec.getLsbD_zero
    rw [BitVec.getLsbD_zero]
    revert a b
    cases m.toBitVec.getLsbD i <;> cases k.toBitVec.getLsbD i <;> simp
  unfold nf_M
  omega
/-! bits: what is added to a set leaves less out -/
theorem and_rest (p s : Int32) : p &&& (s &&& (p ^^^ (-1))) = 0 := b_ext (fun i hi => by
  rw [b_and, b_and, b_xor, b_m1 i hi, b_0]
  cases bt p i <;> cases bt s i <;> rfl)
theorem bit_of0 {a k z w : Int32} (h1 : z = a >>> (k &&& 31)) (h2 : w = z &&& 1) (h0 : 0 ≤ k.toInt ∧ k.toInt ≤ 31) : a.toInt ≠ 0 ∨ w.toInt = 0 := by
  by_cases e : a.toInt = 0
  · refine Or.inr ?_
    have ea : a = 0 := Int32.toInt_inj.mp e
    obtain ⟨j, hj, rfl⟩ := ix_of (x := k) (n := 32) h0.1 (by omega) (by decide)
    have : w = 0 := by
      rw [h2, h1, ea]
      exact b_ext (fun i hi => by
        rw [b_and, b_sshr j hj 0 hi, b_0, b_0, b_0]
        split <;> rfl)
    rw [this]; rfl
  · exact Or.inl e
/-! sums that a search walks along -/
def opos (v : Int32) : Int := if v.toInt < 0 then 0 else v.toInt
def oS (f : Nat → Int32) (o : Nat) : Nat → Int
  | 0 => 0
  | n + 1 => oS f o n + opos (f (o + (n + 1)))
theorem oS_step {f : Nat → Int32} {o k : Nat} {d d2 : Int} (h1 : 1 ≤ d) (h2 : d2 = d + 1) (hk : k = o + d.toNat) : oS f o (d2 - 1).toNat = oS f o (d - 1).toNat + opos (f k) := by
  rw [show (d2 - 1).toNat = (d - 1).toNat + 1 by omega, hk, show d.toNat = (d - 1).toNat + 1 by omega]
  rfl
theorem oS_step2 {f : Nat → Int32} {o k : Nat} {d d2 : Int} (h1 : 0 ≤ d) (h2 : d2 = d + 1) (hk : k = o + d2.toNat) : oS f o d2.toNat = oS f o d.toNat + opos (f k) := by
  rw [hk, show d2.toNat = d.toNat + 1 by omega]
  rfl
theorem oS_first {f : Nat → Int32} {o k : Nat} (hk : k = o + 1) : oS f o (1 : Int).toNat = opos (f k) := by
  rw [hk]
  show 0 + opos (f (o + (0 + 1))) = _
  rw [Int.zero_add]
theorem oS_zero {f : Nat → Int32} {o : Nat} : oS f o ((1 : Int) - 1).toNat = 0 := rfl
section SRM
variable {E : EV} {R : Room} {D : va_G} {cy : Nat → ClassId} {nL : Nat} {P : PP} {cs sl pc : Nat} {lv : List (Nat × Value)} {rest : List Value} {cc : ByteArray} {own : String}
theorem s_irem (C : Cx E D cy nL cc own) {x y : Int32} (d : decode cc pc = .ok (.irem, 1)) (h : 0 < y.toInt) (k : ∀ z : Int32, (-y.toInt < z.toInt ∧ z.toInt < y.toInt) → G E R D cy nL P cs sl (pc + 1) lv (.int z :: rest)) : G E R D cy nL P cs sl pc lv (.int y :: .int x :: rest) :=
  g_irem C d (fun e => by rw [e] at h; exact absurd h (by decide)) (k _ (by rw [rem_toInt]; exact ⟨Int.lt_tmod_of_pos _ h, Int.tmod_lt_of_pos _ h⟩))
end SRM
/-! a draw of pages: sums over what is not yet in the set -/
def bI (s : Int32) (p : Nat) : Int := if bt s p then 1 else 0
theorem b_1 (i : Nat) : bt 1 i = decide (i = 0) := by
  rcases Nat.lt_or_ge i 32 with h | h
  · exact (by decide +kernel : ∀ i, i < 32 → bt 1 i = decide (i = 0)) i h
  · rw [b_big h, decide_eq_false (by omega)]
theorem and1_val (z : Int32) : (z &&& 1).toInt = bI z 0 := by
  unfold bI
  cases h : bt z 0
  · have : z &&& 1 = 0 := b_ext (fun i hi => by
      rw [b_and, b_1, b_0]
      rcases Nat.eq_zero_or_pos i with e | e
      · rw [e, h]; rfl
      · rw [decide_eq_false (by omega), Bool.and_false])
    rw [this]; rfl
  · have : z &&& 1 = 1 := b_ext (fun i hi => by
      rw [b_and, b_1]
      rcases Nat.eq_zero_or_pos i with e | e
      · rw [e, h]; rfl
      · rw [decide_eq_false (by omega), Bool.and_false])
    rw [this]; rfl
theorem bit_val {s k z w : Int32} (h1 : z = s >>> (k &&& 31)) (h2 : w = z &&& 1) (h0 : 0 ≤ k.toInt ∧ k.toInt ≤ 31) : w.toInt = bI s k.toInt.toNat := by
  obtain ⟨j, hj, rfl⟩ := ix_of (x := k) (n := 32) h0.1 (by omega) (by decide)
  have ej : (nI j).toInt.toNat = j := by
    have := (by decide +kernel : ∀ j, j < 32 → (nI j).toInt.toNat = j) j hj
    exact this
  rw [h2, and1_val, h1, ej]
  unfold bI
  rw [b_sshr j hj s (show 0 < 32 by omega), show (if j + 0 < 32 then bt s (j + 0) else bt s 31) = bt s j from if_pos hj]
def wt (a c : Int) (p : Nat) : Int := if (p : Int) < a then c else 1
def fS (s : Int32) (a c : Int) (p : Nat) : Int := if bt s p then 0 else wt a c p
def cS (s : Int32) (a c : Int) : Nat → Int
  | 0 => 0
  | n + 1 => cS s a c n + fS s a c n
def cB (s : Int32) : Nat → Int
  | 0 => 0
  | n + 1 => cB s n + bI s n
theorem fS_of {s w : Int32} {p : Nat} (a c : Int) (h : w.toInt = bI s p) : (w.toInt = 0 ∧ fS s a c p = wt a c p) ∨ (w.toInt = 1 ∧ fS s a c p = 0) := by
  rw [h]
  unfold bI fS
  cases bt s p
  · exact Or.inl ⟨rfl, rfl⟩
  · exact Or.inr ⟨rfl, rfl⟩
theorem wt_rg {a c : Int} (p : Nat) (h : 1 ≤ c ∧ c ≤ 9) : 1 ≤ wt a c p ∧ wt a c p ≤ 9 := by
  unfold wt; split <;> omega
theorem fS_ge {s : Int32} {a c : Int} {p : Nat} (h : 1 ≤ c) : 1 - bI s p ≤ fS s a c p ∧ 0 ≤ fS s a c p := by
  unfold bI fS wt
  cases bt s p
  · simp only [Bool.false_eq_true, if_false]; split <;> omega
  · simp
theorem cS_ge {s : Int32} {a c : Int} (h : 1 ≤ c) : ∀ n : Nat, (n : Int) - cB s n ≤ cS s a c n
  | 0 => by show ((0 : Nat) : Int) - 0 ≤ 0; omega
  | n + 1 => by
    have h1 := cS_ge (s := s) (a := a) h n
    have h2 := (fS_ge (s := s) (a := a) (p := n) h).1
    show ((n + 1 : Nat) : Int) - (cB s n + bI s n) ≤ cS s a c n + fS s a c n
    omega
theorem bI_rg (s : Int32) (p : Nat) : 0 ≤ bI s p ∧ bI s p ≤ 1 := by unfold bI; split <;> omega
theorem cB_mono {s : Int32} {n m : Nat} (h : n ≤ m) : cB s n ≤ cB s m := by
  induction m with
  | zero => rw [show n = 0 by omega]; exact Int.le_refl _
  | succ k ih =>
    rcases Nat.lt_or_ge k n with e | e
    · rw [show n = k + 1 by omega]; exact Int.le_refl _
    · have h1 := ih e
      have h2 := (bI_rg s k).1
      show cB s n ≤ cB s k + bI s k
      omega
theorem cS_pos {s : Int32} {a c N : Int} (h : 1 ≤ c) (h1 : N ≤ 20) (h2 : cB s 20 < N) : 0 < cS s a c N.toNat := by
  have e := cB_mono (s := s) (show (0 : Nat) ≤ 20 by omega)
  have e0 : cB s 0 = 0 := rfl
  have e1 := cB_mono (s := s) (show N.toNat ≤ 20 by omega)
  have e2 := cS_ge (s := s) (a := a) h N.toNat
  omega
theorem cS_step {s : Int32} {a c : Int} {d d2 : Int} (h1 : 0 ≤ d) (h2 : d2 = d + 1) : cS s a c d2.toNat = cS s a c d.toNat + fS s a c d.toNat := by
  rw [show d2.toNat = d.toNat + 1 by omega]; rfl
theorem cS_one {s : Int32} {a c : Int} : cS s a c (0 + 1 : Int).toNat = fS s a c (0 : Int).toNat := by
  show 0 + fS s a c 0 = _
  rw [Int.zero_add]; rfl
theorem bI_set {s w : Int32} {j : Nat} (hj : j < 32) (h2 : w = s ||| ((1 : Int32) <<< (nI j &&& 31))) (q : Nat) (hq : q < 32) : bI w q ≤ bI s q + (if q = j then 1 else 0) := by
  rw [h2]
  unfold bI
  rw [b_or, b_shl j hj 1 hq, b_1]
  by_cases e : q = j
  · rw [if_pos e]; cases bt s q <;> simp <;> split <;> omega
  · rw [if_neg e]
    have : (decide (j ≤ q) && decide (q - j = 0)) = false := by
      rcases Nat.lt_or_ge q j with h | h
      · rw [decide_eq_false (by omega)]; rfl
      · rw [decide_eq_false (p := q - j = 0) (by omega), Bool.and_false]
    rw [this, Bool.or_false]
    omega
theorem cB_set {s w : Int32} {j : Nat} (hj : j < 32) (h2 : w = s ||| ((1 : Int32) <<< (nI j &&& 31))) : ∀ n, n ≤ 32 → cB w n ≤ cB s n + (if j < n then 1 else 0)
  | 0, _ => by show (0 : Int) ≤ 0 + _; split <;> omega
  | n + 1, hn => by
    have h1 := cB_set hj h2 n (by omega)
    have h3 := bI_set hj h2 n (by omega)
    show cB w n + bI w n ≤ cB s n + bI s n + _
    split at h1 <;> split at h3 <;> split <;> omega
theorem set_bit {s k z w : Int32} (h1 : z = (1 : Int32) <<< (k &&& 31)) (h2 : w = s ||| z) (h0 : 0 ≤ k.toInt ∧ k.toInt ≤ 31) : cB w 20 ≤ cB s 20 + 1 := by
  obtain ⟨j, hj, rfl⟩ := ix_of (x := k) (n := 32) h0.1 (by omega) (by decide)
  have := cB_set hj (h2.trans (by rw [h1])) 20 (by omega)
  split at this <;> omega
theorem cB_zero : cB 0 20 = 0 := by decide +kernel
/-! longs: common, average -/
theorem rem64 (x y : Int64) : (x - (x / y) * y).toInt = x.toInt.tmod y.toInt := by
  have h1 := Int64.le_toInt (x % y)
  have h2 := Int64.toInt_lt (x % y)
  rw [← Int64.toInt_mod, Int64.toInt_sub, Int64.toInt_mul, Int64.toInt_div, Int.bmod_mul_bmod, Int.sub_bmod_bmod, Int.mul_comm (x.toInt.tdiv y.toInt), ← Int.tmod_def, ← Int64.toInt_mod]
  exact Int.bmod_eq_of_le_mul_two (by omega) (by omega)
theorem bm64 {n : Int} (h : -9223372036854775808 ≤ n ∧ n ≤ 9223372036854775807) : n.bmod (2 ^ 64) = n := by
  rw [Int.bmod_def]; omega
def gcI (x y a b : Int64) : Prop := Nat.gcd x.toInt.natAbs y.toInt.natAbs = Nat.gcd a.toInt.natAbs b.toInt.natAbs
theorem l_nz {y : Int64} (h : ¬ y = 0) : y.toInt ≠ 0 := fun e => h (Int64.toInt_inj.mp e)
theorem tm_abs (x y : Int) : (x.tmod y).natAbs = x.natAbs % y.natAbs := Int.natAbs_tmod x y
theorem gc_step {x y a b z : Int64} (h : gcI x y a b) (hy : ¬ y = 0) (hz : z = x - (x / y) * y) : gcI y z a b ∧ z.toInt.natAbs < y.toInt.natAbs := by
  have e : z.toInt.natAbs = x.toInt.natAbs % y.toInt.natAbs := by rw [hz, rem64]; exact tm_abs _ _
  have h0 : 0 < y.toInt.natAbs := by have := l_nz hy; omega
  refine ⟨?_, by rw [e]; exact Nat.mod_lt _ h0⟩
  unfold gcI at h ⊢
  rw [← h, e, Nat.gcd_comm x.toInt.natAbs, Nat.gcd_rec y.toInt.natAbs x.toInt.natAbs, Nat.gcd_comm]
theorem gc_end {x y a b : Int64} (h : gcI x y a b) (hy : y = 0) : x.toInt.natAbs = Nat.gcd a.toInt.natAbs b.toInt.natAbs := by
  unfold gcI at h
  rw [← h, hy]
  exact (Nat.gcd_zero_right _).symm
/-- a mean: the sum's denominator divides 27720 -/
def avI (u d : Int64) (k : Int) : Prop := d.toInt ≠ 0 ∧ d.toInt.natAbs ∣ 27720 ∧ u.toInt.natAbs ≤ 4294967296 * k.toNat * d.toInt.natAbs
theorem av_0 : avI 0 1 0 := by
  refine ⟨by decide, by decide, by decide⟩
theorem av_nat {L U D A N U1 D1 : Int} (hd : D ∣ L) (ha : A ∣ L) (e1 : U1 = U * A + N * D) (e2 : D1 = D * A) : D1 ∣ L * U1 := by
  obtain ⟨s, hs⟩ := hd
  obtain ⟨t, ht⟩ := ha
  refine ⟨s * U + t * N, ?_⟩
  have h1 : L * U1 = (L * (U * A)) + (L * (N * D)) := by rw [e1, Int.mul_add]
  have h2 : L * (U * A) = D1 * (s * U) := by rw [e2]; rw [hs]; simp only [Int.mul_assoc, Int.mul_comm, Int.mul_left_comm]
  have h3 : L * (N * D) = D1 * (t * N) := by rw [e2]; rw [ht]; simp only [Int.mul_assoc, Int.mul_comm, Int.mul_left_comm]
  rw [h1, h2, h3, Int.mul_add]
theorem av_div {L g u d : Nat} (hg : g = Nat.gcd d u) (hd : 0 < d) (h : d ∣ L * u) : 0 < d / g ∧ d / g ∣ L := by
  have g0 : 0 < Nat.gcd d u := Nat.gcd_pos_of_pos_left _ hd
  subst hg
  refine ⟨Nat.div_pos (Nat.le_of_dvd hd (Nat.gcd_dvd_left d u)) g0, ?_⟩
  have hc := Nat.coprime_div_gcd_div_gcd g0
  obtain ⟨d2, e2⟩ := Nat.gcd_dvd_left d u
  obtain ⟨u2, e3⟩ := Nat.gcd_dvd_right d u
  have ed : d / Nat.gcd d u = d2 := Nat.div_eq_of_eq_mul_right g0 e2
  have eu : u / Nat.gcd d u = u2 := Nat.div_eq_of_eq_mul_right g0 e3
  rw [ed, eu] at hc
  rw [ed]
  refine hc.dvd_of_dvd_mul_right ?_
  obtain ⟨w, hw⟩ := h
  refine ⟨w, ?_⟩
  apply Nat.eq_of_mul_eq_mul_left g0
  calc Nat.gcd d u * (L * u2) = L * (Nat.gcd d u * u2) := by rw [Nat.mul_left_comm]
    _ = L * u := by rw [← e3]
    _ = d * w := hw
    _ = Nat.gcd d u * (d2 * w) := by rw [← Nat.mul_assoc, ← e2]
/-- what choices gives -/
def chF (m : Int32) : Nat → Int32
  | 0 => 1
  | i + 1 => chF m i * (m - nI i) / (nI i + 1)
theorem chF_ok : ∀ m, m < 12 → ∀ k, k ≤ m → (1 ≤ (chF (nI m) k).toInt ∧ (chF (nI m) k).toInt ≤ 462) ∧ (chF (nI m) k).toInt.natAbs ∣ 27720 := by decide +kernel
theorem chF_rg {m : Int32} {k : Nat} (h0 : 0 ≤ m.toInt ∧ m.toInt ≤ 11) (hk : (k : Int) ≤ m.toInt) : (1 ≤ (chF m k).toInt ∧ (chF m k).toInt ≤ 462) ∧ (chF m k).toInt.natAbs ∣ 27720 := by
  obtain ⟨j, hj, rfl⟩ := ix_of (x := m) (n := 12) h0.1 (by omega) (by decide)
  have ej := (by decide +kernel : ∀ j, j < 12 → (nI j).toInt = j) j hj
  exact chF_ok j hj k (by omega)
theorem chF_step {m n i a b c z : Int32} (h : n.toInt = (chF m (i.toInt).toNat).toInt) (hi : 0 ≤ i.toInt ∧ i.toInt ≤ 11) (ha : a = m - i) (hb : b = n * a) (hc : c = i + 1) (hz : z = b / c) {d : Int} (hd : d = i.toInt + 1) : z.toInt = (chF m d.toNat).toInt := by
  have hn : n = chF m (i.toInt).toNat := Int32.toInt_inj.mp h
  obtain ⟨j, hj, rfl⟩ := ix_of (x := i) (n := 12) hi.1 (by omega) (by decide)
  have ej := (by decide +kernel : ∀ j, j < 12 → (nI j).toInt = j) j hj
  rw [show d.toNat = j + 1 by omega, hz, hb, hc, ha, hn, show (nI j).toInt.toNat = j by omega]
  rfl
theorem av_step {u d a n u1 d1 g : Int64} {k k2 : Int} (h : avI u d k) (hk : 0 ≤ k ∧ k ≤ 10) (hk2 : k2 = k + 1) (ha : (1 ≤ a.toInt ∧ a.toInt ≤ 462) ∧ a.toInt.natAbs ∣ 27720) (hn : n.toInt.natAbs ≤ 4294967296) (e1 : u1 = u * a + n * d) (e2 : d1 = d * a) (hg : g.toInt.natAbs = Nat.gcd d1.toInt.natAbs u1.toInt.natAbs) : ¬ g = 0 ∧ ∀ u2 d2 : Int64, u2 = u1 / g → d2 = d1 / g → avI u2 d2 k2 := by
  obtain ⟨h1, h2, h3⟩ := h
  obtain ⟨⟨a1, a2⟩, a3⟩ := ha
  have hd0 : 0 < d.toInt.natAbs := by omega
  have hd : d.toInt.natAbs ≤ 27720 := Nat.le_of_dvd (by decide) h2
  have hkn : k.toNat ≤ 10 := by omega
  have hu : u.toInt.natAbs ≤ 4294967296 * 10 * 27720 := Nat.le_trans h3 (Nat.mul_le_mul (Nat.mul_le_mul_left _ hkn) hd)
  have han : a.toInt.natAbs ≤ 462 := by omega
  have ha1 : 1 ≤ a.toInt.natAbs := by omega
  have m1 : (u.toInt * a.toInt).natAbs ≤ 4294967296 * 10 * 27720 * 462 := by rw [Int.natAbs_mul]; exact Nat.mul_le_mul hu han
  have m2 : (n.toInt * d.toInt).natAbs ≤ 4294967296 * 27720 := by rw [Int.natAbs_mul]; exact Nat.mul_le_mul hn hd
  have m3 : (d.toInt * a.toInt).natAbs ≤ 27720 * 462 := by rw [Int.natAbs_mul]; exact Nat.mul_le_mul hd han
  have E1 : u1.toInt = u.toInt * a.toInt + n.toInt * d.toInt := by
    rw [e1, Int64.toInt_add, Int64.toInt_mul, Int64.toInt_mul, bm64 (n := u.toInt * a.toInt) (by omega), bm64 (n := n.toInt * d.toInt) (by omega), bm64 (by omega)]
  have E2 : d1.toInt = d.toInt * a.toInt := by rw [e2, Int64.toInt_mul, bm64 (by omega)]
  have F2 : d1.toInt.natAbs = d.toInt.natAbs * a.toInt.natAbs := by rw [E2, Int.natAbs_mul]
  have D0 : 0 < d1.toInt.natAbs := by rw [F2]; exact Nat.mul_pos hd0 ha1
  have g0 : 0 < g.toInt.natAbs := by rw [hg]; exact Nat.gcd_pos_of_pos_left _ D0
  refine ⟨fun e => by rw [e] at g0; exact absurd g0 (by decide), fun u2 d2 f1 f2 => ?_⟩
  have hD : d1.toInt ∣ (27720 : Int) * u1.toInt := av_nat ((Int.natAbs_dvd_natAbs (b := 27720)).mp h2) ((Int.natAbs_dvd_natAbs (b := 27720)).mp a3) E1 E2
  have hD2 : d1.toInt.natAbs ∣ 27720 * u1.toInt.natAbs := by
    have := Int.natAbs_dvd_natAbs.mpr hD
    rw [Int.natAbs_mul] at this
    exact this
  obtain ⟨q1, q2⟩ := av_div hg D0 hD2
  have gd : g.toInt.natAbs ∣ d1.toInt.natAbs := by rw [hg]; exact Nat.gcd_dvd_left _ _
  have gu : g.toInt.natAbs ∣ u1.toInt.natAbs := by rw [hg]; exact Nat.gcd_dvd_right _ _
  have b1 : u1.toInt.natAbs ≤ 4294967296 * 10 * 27720 * 462 + 4294967296 * 27720 := by rw [E1]; exact Nat.le_trans (Int.natAbs_add_le _ _) (Nat.add_le_add m1 m2)
  have b2 : d1.toInt.natAbs ≤ 27720 * 462 := by rw [E2]; exact m3
  have V1 : u2.toInt.natAbs = u1.toInt.natAbs / g.toInt.natAbs := by
    have := Nat.div_le_self u1.toInt.natAbs g.toInt.natAbs
    rw [f1, Int64.toInt_div]
    have w : (u1.toInt.tdiv g.toInt).natAbs = u1.toInt.natAbs / g.toInt.natAbs := Int.natAbs_tdiv _ _
    rw [bm64 (by omega), w]
  have V2 : d2.toInt.natAbs = d1.toInt.natAbs / g.toInt.natAbs := by
    have := Nat.div_le_self d1.toInt.natAbs g.toInt.natAbs
    rw [f2, Int64.toInt_div]
    have w : (d1.toInt.tdiv g.toInt).natAbs = d1.toInt.natAbs / g.toInt.natAbs := Int.natAbs_tdiv _ _
    rw [bm64 (by omega), w]
  refine ⟨fun e => ?_, by rw [V2]; exact q2, ?_⟩
  · rw [← V2, e] at q1; exact absurd q1 (by decide)
  · rw [V1, V2]
    obtain ⟨x, hx⟩ := gd
    obtain ⟨y, hy⟩ := gu
    rw [Nat.div_eq_of_eq_mul_right g0 hx, Nat.div_eq_of_eq_mul_right g0 hy]
    have hb : u1.toInt.natAbs ≤ 4294967296 * k2.toNat * d1.toInt.natAbs := by
      have c1 : u1.toInt.natAbs ≤ u.toInt.natAbs * a.toInt.natAbs + n.toInt.natAbs * d.toInt.natAbs := by
        rw [E1, ← Int.natAbs_mul, ← Int.natAbs_mul]; exact Int.natAbs_add_le _ _
      have c2 : u.toInt.natAbs * a.toInt.natAbs ≤ 4294967296 * k.toNat * d.toInt.natAbs * a.toInt.natAbs := Nat.mul_le_mul_right _ h3
      have c3 : n.toInt.natAbs * d.toInt.natAbs ≤ 4294967296 * (d.toInt.natAbs * a.toInt.natAbs) := Nat.mul_le_mul hn (Nat.le_mul_of_pos_right _ ha1)
      have c4 : 4294967296 * k2.toNat * d1.toInt.natAbs = 4294967296 * k.toNat * d.toInt.natAbs * a.toInt.natAbs + 4294967296 * (d.toInt.natAbs * a.toInt.natAbs) := by
        rw [F2, show k2.toNat = k.toNat + 1 by omega, Nat.mul_add, Nat.add_mul, Nat.mul_one, ← Nat.mul_assoc (4294967296 * k.toNat)]
      omega
    rw [hx, hy] at hb
    rw [Nat.mul_left_comm] at hb
    exact Nat.le_of_mul_le_mul_left hb g0
theorem n_sub {a c n : Int64} {x y : Int32} (ea : a = x.toInt64) (ec : c = y.toInt64) (hx : 0 ≤ x.toInt ∧ x.toInt ≤ 462) (e : n = a - c) : n.toInt.natAbs ≤ 4294967296 := by
  have h1 := y.toInt_lt
  have h2 := y.le_toInt
  rw [e, Int64.toInt_sub, ea, ec, Int32.toInt_toInt64, Int32.toInt_toInt64, bm64 (by omega)]
  omega
section LC
variable {E : EV} {R : Room} {D : va_G} {cy : Nat → ClassId} {nL : Nat} {P : PP} {cs sl pc : Nat} {lv : List (Nat × Value)} {rest : List Value} {cc : ByteArray} {own : String}
theorem a_lcmp0e (C : Cx E D cy nL cc own) {x : Int64} (d : decode cc pc = .ok (.lcmp, 1)) (k : ∀ z : Int32, ((z.toInt ≠ 0 → ¬ x = 0) ∧ (z.toInt = 0 → x = 0)) → G E R D cy nL P cs sl (pc + 1) lv (.int z :: rest)) : G E R D cy nL P cs sl pc lv (.long 0 :: .long x :: rest) :=
  g_lcmp C d (k _ ⟨fun h e => h (by subst e; decide), fun h => Decidable.byContradiction (fun e => by
    unfold lg_cmp at h
    by_cases h1 : x > 0
    · rw [if_pos h1] at h; exact absurd h (by decide)
    · rw [if_neg h1, if_neg e] at h; exact absurd h (by decide))⟩)
end LC
/-! papers counted: of a book, and without a name -/
def kO (v : Int32) (b : Int) : Int := if v.toInt = b then 1 else 0
def nO (v : Int32) : Int := if v.toInt < 0 then 1 else 0
theorem kO_or (v : Int32) (b : Int) : (v.toInt = b ∧ kO v b = 1) ∨ (v.toInt ≠ b ∧ kO v b = 0) := by unfold kO; split <;> omega
theorem nO_or (v : Int32) : (v.toInt < 0 ∧ nO v = 1) ∨ (0 ≤ v.toInt ∧ nO v = 0) := by unfold nO; split <;> omega
def kC (f : Nat → Int32) (o : Nat) (b : Int) : Nat → Int
  | 0 => 0
  | n + 1 => kC f o b n + kO (f (o + n)) b
def nC (f : Nat → Int32) (o : Nat) : Nat → Int
  | 0 => 0
  | n + 1 => nC f o n + nO (f (o + n))
theorem kC_step {f : Nat → Int32} {o k : Nat} {b d d2 : Int} (h1 : 0 ≤ d) (h2 : d2 = d + 1) (hk : k = o + d.toNat) : kC f o b d2.toNat = kC f o b d.toNat + kO (f k) b := by
  rw [show d2.toNat = d.toNat + 1 by omega, hk]; rfl
theorem nC_step {f : Nat → Int32} {o k : Nat} {d d2 : Int} (h1 : 0 ≤ d) (h2 : d2 = d + 1) (hk : k = o + d.toNat) : nC f o d2.toNat = nC f o d.toNat + nO (f k) := by
  rw [show d2.toNat = d.toNat + 1 by omega, hk]; rfl
theorem nC_mono {f : Nat → Int32} {o n m : Nat} (h : n ≤ m) : nC f o n ≤ nC f o m := by
  induction m with
  | zero => rw [show n = 0 by omega]; exact Int.le_refl _
  | succ k ih =>
    rcases Nat.lt_or_ge k n with e | e
    · rw [show n = k + 1 by omega]; exact Int.le_refl _
    · have h1 := ih e
      have h2 := nO_or (f (o + k))
      show nC f o n ≤ nC f o k + nO (f (o + k))
      omega
theorem kn_le {f : Nat → Int32} {o : Nat} {b : Int} (hb : 0 ≤ b) : ∀ n : Nat, kC f o b n + nC f o n ≤ n
  | 0 => by show (0 : Int) + 0 ≤ ((0 : Nat) : Int); omega
  | n + 1 => by
    have h1 := kn_le (f := f) (o := o) hb n
    have h2 := nO_or (f (o + n))
    have h3 := kO_or (f (o + n)) b
    show kC f o b n + kO (f (o + n)) b + (nC f o n + nO (f (o + n))) ≤ ((n + 1 : Nat) : Int)
    omega
theorem kn_le2 {f : Nat → Int32} {o : Nat} {b N d : Int} (hb : 0 ≤ b) (h0 : 0 ≤ d) (h : d ≤ N) : kC f o b N.toNat + nC f o d.toNat ≤ N := by
  have h1 := kn_le (f := f) (o := o) hb N.toNat
  have h2 := nC_mono (f := f) (o := o) (show d.toNat ≤ N.toNat by omega)
  omega
