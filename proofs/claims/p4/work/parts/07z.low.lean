/-! the place of the lowest bit -/
def us (x k : Int32) : Int32 := (x.toUInt32 >>> (k.toUInt32 &&& Int32.toUInt32 31)).toInt32
def bcF (x : Int32) : Int32 :=
  let a := x - (us x 1 &&& 1431655765)
  let b := (a &&& 858993459) + (us a 2 &&& 858993459)
  let c := (b + us b 4) &&& 252645135
  let d := c + us c 8
  let e := d + us d 16
  e &&& 63
def lpF (x : Int32) : Int32 := bcF ((x &&& (-x)) - 1)
set_option maxRecDepth 100000 in
theorem lp_all : ∀ a, a < 128 → ∀ b, b < 256 → (256 * a + b = 0 ∨ (lpF (nI (256 * a + b))).toInt ≤ 15) := by decide +kernel
theorem lp_le {i r : Int32} (h : 0 < i.toInt ∧ i.toInt < 32768) (e : r = lpF i) : r.toInt ≤ 15 := by
  obtain ⟨j, hj, rfl⟩ := ix_of (x := i) (n := 32768) (by omega) (by omega) (by decide)
  have ej : (nI j).toInt = j := by
    show (Int32.ofNat j).toInt = j
    rw [Int32.toInt_ofNat_of_lt (by omega)]
  have := lp_all (j / 256) (by omega) (j % 256) (by omega)
  rw [show 256 * (j / 256) + j % 256 = j by omega] at this
  rw [e]
  omega
theorem sh_all : ∀ k, k < 16 → ((1 : Int32) <<< (nI k &&& 31)).toInt ≤ 32768 ∧ 1 ≤ ((1 : Int32) <<< (nI k &&& 31)).toInt := by decide +kernel
theorem sh_le {k z : Int32} (h : 0 ≤ k.toInt ∧ k.toInt ≤ 15) (e : z = (1 : Int32) <<< (k &&& 31)) : 1 ≤ z.toInt ∧ z.toInt ≤ 32768 := by
  obtain ⟨j, hj, rfl⟩ := ix_of (x := k) (n := 16) (by omega) (by omega) (by decide)
  rw [e]
  exact ⟨(sh_all j hj).2, (sh_all j hj).1⟩
