theorem bq2 (V : BitVec 64) {s s1 s2 : Nat} (h1 : s1 = s) (h2 : s2 = s) (hs : s ≤ 56) : (V.ushiftRight s1).signExtend 32 &&& 255#32 = (V.sshiftRight s2).signExtend 32 &&& 255#32 := by
  subst h1
  subst h2
  apply BitVec.eq_of_getLsbD_eq
  intro j hj
  rw [BitVec.getLsbD_and, BitVec.getLsbD_and]
  by_cases h8 : j < 8
  · congr 1
    rw [BitVec.getLsbD_signExtend, BitVec.getLsbD_signExtend, if_pos (by omega), if_pos (by omega), BitVec.getLsbD_sshiftRight]
    have e : (V.ushiftRight s2).getLsbD j = V.getLsbD (s2 + j) := BitVec.getLsbD_ushiftRight ..
    rw [e]
    simp [show ¬ 64 ≤ j by omega, show s2 + j < 64 by omega]
  · have e : (255#32).getLsbD j = false := by
      rw [BitVec.getLsbD_ofNat, Nat.testBit_lt_two_pow (Nat.lt_of_lt_of_le (show 255 < 2 ^ 8 by decide) (Nat.pow_le_pow_right (by decide) (by omega)))]
      simp
    rw [e, Bool.and_false, Bool.and_false]
theorem by_eq (v : Int64) (i : Nat) (hi : i < 8) : byU v (nI (8 * i)) = byS v (nI (8 * i)) := by
  unfold byU byS
  rcases (show i = 0 ∨ i = 1 ∨ i = 2 ∨ i = 3 ∨ i = 4 ∨ i = 5 ∨ i = 6 ∨ i = 7 by omega) with rfl | rfl | rfl | rfl | rfl | rfl | rfl | rfl
  · have h1 : (((nI (8 * 0)).toInt64.toUInt64 &&& Int64.toUInt64 63).toBitVec % 64).toNat = 0 := by decide
    have h2 : (((nI (8 * 0)).toInt64 &&& 63).toBitVec.smod 64).toNat = 0 := by decide
    exact Int32.toBitVec_inj.mp (bq2 v.toBitVec h1 h2 (by omega))
  · have h1 : (((nI (8 * 1)).toInt64.toUInt64 &&& Int64.toUInt64 63).toBitVec % 64).toNat = 8 := by decide
    have h2 : (((nI (8 * 1)).toInt64 &&& 63).toBitVec.smod 64).toNat = 8 := by decide
    exact Int32.toBitVec_inj.mp (bq2 v.toBitVec h1 h2 (by omega))
  · have h1 : (((nI (8 * 2)).toInt64.toUInt64 &&& Int64.toUInt64 63).toBitVec % 64).toNat = 16 := by decide
    have h2 : (((nI (8 * 2)).toInt64 &&& 63).toBitVec.smod 64).toNat = 16 := by decide
    exact Int32.toBitVec_inj.mp (bq2 v.toBitVec h1 h2 (by omega))
  · have h1 : (((nI (8 * 3)).toInt64.toUInt64 &&& Int64.toUInt64 63).toBitVec % 64).toNat = 24 := by decide
    have h2 : (((nI (8 * 3)).toInt64 &&& 63).toBitVec.smod 64).toNat = 24 := by decide
    exact Int32.toBitVec_inj.mp (bq2 v.toBitVec h1 h2 (by omega))
  · have h1 : (((nI (8 * 4)).toInt64.toUInt64 &&& Int64.toUInt64 63).toBitVec % 64).toNat = 32 := by decide
    have h2 : (((nI (8 * 4)).toInt64 &&& 63).toBitVec.smod 64).toNat = 32 := by decide
    exact Int32.toBitVec_inj.mp (bq2 v.toBitVec h1 h2 (by omega))
  · have h1 : (((nI (8 * 5)).toInt64.toUInt64 &&& Int64.toUInt64 63).toBitVec % 64).toNat = 40 := by decide
    have h2 : (((nI (8 * 5)).toInt64 &&& 63).toBitVec.smod 64).toNat = 40 := by decide
    exact Int32.toBitVec_inj.mp (bq2 v.toBitVec h1 h2 (by omega))
  · have h1 : (((nI (8 * 6)).toInt64.toUInt64 &&& Int64.toUInt64 63).toBitVec % 64).toNat = 48 := by decide
    have h2 : (((nI (8 * 6)).toInt64 &&& 63).toBitVec.smod 64).toNat = 48 := by decide
    exact Int32.toBitVec_inj.mp (bq2 v.toBitVec h1 h2 (by omega))
  · have h1 : (((nI (8 * 7)).toInt64.toUInt64 &&& Int64.toUInt64 63).toBitVec % 64).toNat = 56 := by decide
    have h2 : (((nI (8 * 7)).toInt64 &&& 63).toBitVec.smod 64).toNat = 56 := by decide
    exact Int32.toBitVec_inj.mp (bq2 v.toBitVec h1 h2 (by omega))
theorem cnt_eq (v : Int64) (n : Nat) : cnt (byU v) 8 n = cnt (byS v) 8 n := cnt_congr 8 (fun i hi => by_eq v i hi)
