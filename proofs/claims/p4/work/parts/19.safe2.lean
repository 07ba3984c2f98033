/-! SAFETY of the reference: one object, its arrays apart from each other -/
def arT : Nat → Option (Int × Int) := fun f => match f with
  | 4 => some (0, 4)
  | 5 => some (0, 1000)
  | 10 => some (0, 16)
  | 12 => some (-1, 999)
  | 14 => some (0, 9)
  | 15 => some (0, 4)
  | 20 => some (0, 40)
  | 22 => some (-1, 1)
  | 40 => some (0, 39)
  | 44 => some (-1, 999)
  | _ => none
def arOk (f : Nat) (v : Int32) : Prop := ∀ lo hi, arT f = some (lo, hi) → lo ≤ v.toInt ∧ v.toInt ≤ hi
theorem arOk.of {f : Nat} {v : Int32} {lo hi : Int} (h : arT f = some (lo, hi)) (h1 : lo ≤ v.toInt ∧ v.toInt ≤ hi) : arOk f v := by
  intro l2 h2 e
  rw [h] at e
  cases e
  exact h1
theorem arOk.none {f : Nat} {v : Int32} (h : arT f = none) : arOk f v := by
  intro l2 h2 e
  rw [h] at e
  cases e
def IM (P : PP) (x : Nat) : Prop := IV P ∧ At P x 12 ∧ (∀ k k2 b, pR P x k = some b → pR P x k2 = some b → k = k2) ∧ (∀ f b, pR P x f = some b → ∀ j, arOk f (pI P b j)) ∧ ∀ b, pR P x 4 = some b → (pI P b 1000).toInt = 0
def EM (fs : List Nat) (x : Nat) (P P2 : PP) : Prop := ES P P2 ∧ (∀ a, a ∈ pL P → pK P a < 13 → pR P2 a = pR P a) ∧ (∀ k, k ∉ fs → pI P2 x k = pI P x k) ∧ ∀ f, f ∉ fs → (shp 12 f).isSome = true → ∀ b, pR P x f = some b → pI P2 b = pI P b
theorem IM.fld {P : PP} {x a c : Nat} (I : IM P x) (h : At P a c) (k kd n : Nat) (hs : shp c k = some (kd, n)) : ∃ b, pR P a k = some b ∧ Ar P b kd n := I.1.fld h k kd n hs
theorem IM.rg {P : PP} {x a c : Nat} (I : IM P x) (h : At P a c) (k : Nat) {lo hi : Int} (hr : rgT c k = some (lo, hi)) : lo ≤ (pI P a k).toInt ∧ (pI P a k).toInt ≤ hi := I.1.rg h k hr
theorem IM.arr {P : PP} {x f b : Nat} (I : IM P x) (e : pR P x f = some b) {lo hi : Int} (h : arT f = some (lo, hi)) (j : Nat) : lo ≤ (pI P b j).toInt ∧ (pI P b j).toInt ≤ hi := I.2.2.2.1 f b e j lo hi h
theorem IM.s1000 {P : PP} {x b : Nat} (I : IM P x) (e : pR P x 4 = some b) {j : Int} (h : 0 ≤ j ∧ j ≤ 1000) : (pI P b j.toNat).toInt = 0 ∨ j ≤ 999 := by
  by_cases hj : j = 1000
  · subst hj; exact Or.inl (I.2.2.2.2 b e)
  · exact Or.inr (by omega)
/-- an array of the reference is none of its objects -/
theorem IM.apart {P : PP} {x f b : Nat} (I : IM P x) (hf : (shp 12 f).isSome = true) (e : pR P x f = some b) : b ≠ x := by
  intro h
  obtain ⟨⟨kd, n⟩, hs⟩ := Option.isSome_iff_exists.mp hf
  obtain ⟨b2, e2, h2⟩ := I.1.fld I.2.1 f kd n hs
  rw [e] at e2
  cases e2
  have h13 : ∀ f, ∀ kd n, shp 12 f = some (kd, n) → 13 ≤ kd := by
    intro f kd n hs
    unfold shp at hs
    split at hs <;> first | omega | (cases hs; done) | (cases hs; decide)
  have h3 := h13 f kd n hs
  have h4 := h2.2.1
  rw [h, I.2.1.2] at h4
  omega
theorem arT_shp {f : Nat} {lo hi : Int} (h : arT f = some (lo, hi)) : (shp 12 f).isSome = true := by
  unfold arT at h
  split at h <;> first | rfl | cases h
theorem IM.setI {P : PP} {x k : Nat} {v : Int32} (I : IM P x) (hv : rgOk 12 k v) : IM (pSI P x k v) x := by
  refine ⟨I.1.setI I.2.1 hv, I.2.1, I.2.2.1, fun f b e j lo hi h => ?_, fun b e => ?_⟩
  · have hb := I.apart (arT_shp h) e
    show lo ≤ (va_up (pI P) x _ b j).toInt ∧ (va_up (pI P) x _ b j).toInt ≤ hi
    rw [up_ne hb]
    exact I.2.2.2.1 f b e j lo hi h
  · have hb := I.apart (f := 4) rfl e
    show (va_up (pI P) x _ b 1000).toInt = 0
    rw [up_ne hb]
    exact I.2.2.2.2 b e
theorem IM.setA {P : PP} {x f b c n j : Nat} {v : Int32} (I : IM P x) (e : pR P x f = some b) (h : Ar P b c n) (hc : 13 ≤ c) (hv : arOk f v) (h4 : f ≠ 4 ∨ j ≠ 1000 ∨ v.toInt = 0 := by first | exact Or.inl (by decide) | exact Or.inr (Or.inr rfl) | exact Or.inr (Or.inl (by omega))) : IM (pSI P b j v) x := by
  refine ⟨I.1.setA h hc, I.2.1, I.2.2.1, fun f2 b2 e2 i lo hi h2 => ?_, fun b2 e2 => ?_⟩
  · show lo ≤ (va_up (pI P) b _ b2 i).toInt ∧ (va_up (pI P) b _ b2 i).toInt ≤ hi
    by_cases hb : b2 = b
    · subst hb
      have := I.2.2.1 f2 f b2 e2 e
      subst this
      rw [up_self]
      by_cases hi2 : i = j
      · subst hi2; rw [up_self]; exact hv lo hi h2
      · rw [up_ne hi2]; exact I.2.2.2.1 f2 b2 e2 i lo hi h2
    · rw [up_ne hb]; exact I.2.2.2.1 f2 b2 e2 i lo hi h2
  · show (va_up (pI P) b _ b2 1000).toInt = 0
    by_cases hb : b2 = b
    · subst hb
      have := I.2.2.1 4 f b2 e2 e
      subst this
      rw [up_self]
      by_cases hi2 : 1000 = j
      · subst hi2
        rw [up_self]
        rcases h4 with h4 | h4 | h4
        · exact absurd rfl h4
        · exact absurd rfl h4
        · exact h4
      · rw [up_ne hi2]; exact I.2.2.2.2 b2 e2
    · rw [up_ne hb]; exact I.2.2.2.2 b2 e2
theorem IM.setJ {P : PP} {x a k : Nat} {v : Int64} (I : IM P x) : IM (pSJ P a k v) x := ⟨I.1.setJ, I.2.1, I.2.2.1, I.2.2.2⟩
theorem EM.rf {fs : List Nat} {x : Nat} {P : PP} : EM fs x P P := ⟨ES.rf, fun _ _ _ => rfl, fun _ _ => rfl, fun _ _ _ _ _ => rfl⟩
theorem EM.tr {fs : List Nat} {x : Nat} {P P2 P3 : PP} (hx : At P x 12) (h : EM fs x P P2) (h2 : EM fs x P2 P3) : EM fs x P P3 :=
  ⟨h.1.tr h2.1, fun a ha hk => (h2.2.1 a (h.1 a ha).1 (by rw [(h.1 a ha).2.1]; exact hk)).trans (h.2.1 a ha hk), fun k hk => (h2.2.2.1 k hk).trans (h.2.2.1 k hk), fun f hf hs b e => (h2.2.2.2 f hf hs b (by rw [h.2.1 x hx.1 (by rw [hx.2]; decide)]; exact e)).trans (h.2.2.2 f hf hs b e)⟩
theorem EM.mono {fs fs2 : List Nat} {x : Nat} {P P2 : PP} (h : EM fs x P P2) (hs : ∀ k, k ∈ fs → k ∈ fs2) : EM fs2 x P P2 := ⟨h.1, h.2.1, fun k hk => h.2.2.1 k (fun z => hk (hs _ z)), fun f hf => h.2.2.2 f (fun z => hf (hs _ z))⟩
theorem EM.at {fs : List Nat} {x : Nat} {P P2 : PP} {a kd : Nat} (h : EM fs x P P2) (ha : At P a kd) : At P2 a kd := h.1.at ha
theorem EM.ar {fs : List Nat} {x : Nat} {P P2 : PP} {a kd n : Nat} (h : EM fs x P P2) (ha : Ar P a kd n) : Ar P2 a kd n := h.1.ar ha
theorem EM.ref {fs : List Nat} {x : Nat} {P P2 : PP} {a kd k b : Nat} (h : EM fs x P P2) (ha : At P a kd) (hk : kd < 13) (e : pR P a k = some b) : pR P2 a k = some b := by
  rw [h.2.1 a ha.1 (by rw [ha.2]; exact hk)]; exact e
theorem EM.keepF {fs : List Nat} {x : Nat} {P P2 : PP} (h : EM fs x P P2) (k : Nat) (hk : k ∉ fs) : (pI P2 x k).toInt = (pI P x k).toInt := by rw [h.2.2.1 k hk]
theorem EM.keepA {fs : List Nat} {x : Nat} {P P2 : PP} {f b : Nat} (h : EM fs x P P2) (e : pR P x f = some b) (hf : f ∉ fs) (hs : (shp 12 f).isSome = true) (j : Nat) : (pI P2 b j).toInt = (pI P b j).toInt := by rw [h.2.2.2 f hf hs b e]
theorem EM.setI {fs : List Nat} {P : PP} {x k : Nat} {v : Int32} (I : IM P x) (hc : k ∈ fs) : EM fs x P (pSI P x k v) := by
  refine ⟨ES.setI, fun _ _ _ => rfl, fun j hj => ?_, fun f hf hs b e => ?_⟩
  · have h1 : j ≠ k := fun z => hj (z ▸ hc)
    show va_up (pI P) x (va_up (pI P x) k v) x j = _
    rw [up_self, up_ne h1]
  · show va_up (pI P) x _ b = pI P b
    rw [up_ne (I.apart hs e)]
theorem EM.setA {fs : List Nat} {P : PP} {x f b j : Nat} {v : Int32} (I : IM P x) (e : pR P x f = some b) (hs : (shp 12 f).isSome = true) (hc : f ∈ fs) : EM fs x P (pSI P b j v) := by
  refine ⟨ES.setI, fun _ _ _ => rfl, fun k _ => ?_, fun f2 hf hs2 b2 e2 => ?_⟩
  · have h1 : x ≠ b := fun z => I.apart hs e z.symm
    show va_up (pI P) b _ x k = _
    rw [up_ne h1]
  · have h1 : b2 ≠ b := fun z => by
      subst z
      have := I.2.2.1 f2 f b2 e2 e
      subst this
      exact hf hc
    show va_up (pI P) b _ b2 = pI P b2
    rw [up_ne h1]
theorem EM.setJ {fs : List Nat} {P : PP} {x a k : Nat} {v : Int64} : EM fs x P (pSJ P a k v) := ⟨ES.setJ, fun _ _ _ => rfl, fun _ _ => rfl, fun _ _ _ _ _ => rfl⟩
theorem wA_self {P : PP} {b j : Nat} {v : Int32} : (pI (pSI P b j v) b j).toInt = v.toInt := wI_self
section SM
variable {E : EV} {R : Room} {D : va_G} {cy : Nat → ClassId} {nL : Nat} {P : PP} {cs sl pc : Nat} {lv : List (Nat × Value)} {rest : List Value} {cc : ByteArray} {own : String}
theorem gq {P0 : PP} {x : Nat} {ks : List Nat} {st : List Value} (I : IM P x) (X : EM ks x P0 P) (k : ∀ P2, IM P2 x → EM ks x P0 P2 → G E R D cy nL P2 cs sl pc lv st) : G E R D cy nL P cs sl pc lv st := k P I X
theorem gqWJ {P0 : PP} {x : Nat} {ks : List Nat} {a f : Nat} {v : Int32} {st : List Value} (I : IM (pSI P0 a f v) x) (X : EM ks x P0 (pSI P0 a f v)) (k : ∀ P2, IM P2 x → EM ks x P0 P2 → (pI P2 a f).toInt = v.toInt → pJ P2 = pJ P0 → G E R D cy nL P2 cs sl pc lv st) : G E R D cy nL (pSI P0 a f v) cs sl pc lv st := k _ I X wI_self rfl
theorem gqW {P0 : PP} {x : Nat} {ks : List Nat} {a f : Nat} {v : Int32} {st : List Value} (I : IM (pSI P0 a f v) x) (X : EM ks x P0 (pSI P0 a f v)) (k : ∀ P2, IM P2 x → EM ks x P0 P2 → (pI P2 a f).toInt = v.toInt → G E R D cy nL P2 cs sl pc lv st) : G E R D cy nL (pSI P0 a f v) cs sl pc lv st := k _ I X wI_self
end SM
/-- a paper's book is told, or it has none -/
def okc (P : PP) (x j : Nat) : Prop := ∀ b c, pR P x 22 = some b → pR P x 10 = some c → 0 ≤ (pI P b j).toInt → 0 < (pI P c (pI P b j).toInt.toNat).toInt
def szf (P : PP) (x h : Nat) : Int := match pR P x 20 with
  | some z => (pI P z h).toInt
  | none => 0
/-- a told book has a weight -/
def M1 (P : PP) (x : Nat) : Prop := ∀ b c, pR P x 10 = some b → pR P x 14 = some c → ∀ j, j < 2 → 0 < (pI P b j).toInt → 1 ≤ (pI P c j).toInt
/-- .. and every paper of a heap is of a told book -/
def MW (P : PP) (x : Nat) : Prop := M1 P x ∧ ∀ h i : Nat, h < 20 → i < 40 → (i : Int) < szf P x h → okc P x (40 * h + i)
def MQx (P : PP) (x : Nat) (n : Nat → Int) (hx : Nat) : Prop := M1 P x ∧ (∀ h i : Nat, h < 20 → i < 40 → (i : Int) < n h → okc P x (40 * h + i)) ∧ ∀ h, h < 20 → h ≠ hx → szf P x h ≤ n h
def ML (P : PP) (x j : Nat) : Prop := MW P x ∧ okc P x j
def OW (P0 P : PP) (x t : Nat) : Prop := okc P x t ∧ ∀ j, okc P0 x j → okc P x j
def TK (P : PP) (x t : Nat) (k : Int) : Prop := ∀ i : Nat, i < 40 → (i : Int) < k → okc P x (40 * t + i)
theorem szf_at {P : PP} {x z : Nat} (e : pR P x 20 = some z) (h : Nat) : szf P x h = (pI P z h).toInt := by unfold szf; rw [e]
theorem okc.ext {P P2 : PP} {x j : Nat} (h : okc P x j) (hr : pR P2 x = pR P x) (hb : ∀ b, pR P x 22 = some b → pI P2 b = pI P b) (hc : ∀ c, pR P x 10 = some c → pI P2 c = pI P c) : okc P2 x j := by
  intro b c e f
  rw [hr] at e f
  rw [hb b e, hc c f]
  exact h b c e f
theorem M1.ext {P P2 : PP} {x : Nat} (h : M1 P x) (hr : pR P2 x = pR P x) (hb : ∀ b, pR P x 10 = some b → pI P2 b = pI P b) (hc : ∀ c, pR P x 14 = some c → pI P2 c = pI P c) : M1 P2 x := by
  intro b c e f
  rw [hr] at e f
  rw [hb b e, hc c f]
  exact h b c e f
theorem szf.ext {P P2 : PP} {x : Nat} (hr : pR P2 x = pR P x) (hz : ∀ z, pR P x 20 = some z → pI P2 z = pI P z) (h : Nat) : szf P2 x h = szf P x h := by
  unfold szf
  rw [hr]
  cases e : pR P x 20 with
  | none => rfl
  | some z => show (pI P2 z h).toInt = (pI P z h).toInt; rw [hz z e]
theorem EM.hr {fs : List Nat} {x : Nat} {P P2 : PP} (X : EM fs x P P2) (I : IM P x) : pR P2 x = pR P x := X.2.1 x I.2.1.1 (by rw [I.2.1.2]; decide)
theorem okc.keep {fs : List Nat} {x j : Nat} {P P2 : PP} (h : okc P x j) (I : IM P x) (X : EM fs x P P2) (h1 : 10 ∉ fs) (_ : 14 ∉ fs) (_ : 20 ∉ fs) (h4 : 22 ∉ fs) : okc P2 x j :=
  h.ext (X.hr I) (fun b e => X.2.2.2 22 h4 rfl b e) (fun b e => X.2.2.2 10 h1 rfl b e)
theorem M1.keep {fs : List Nat} {x : Nat} {P P2 : PP} (h : M1 P x) (I : IM P x) (X : EM fs x P P2) (h1 : 10 ∉ fs) (h2 : 14 ∉ fs) : M1 P2 x :=
  h.ext (X.hr I) (fun b e => X.2.2.2 10 h1 rfl b e) (fun b e => X.2.2.2 14 h2 rfl b e)
theorem szf.keep {fs : List Nat} {x : Nat} {P P2 : PP} (I : IM P x) (X : EM fs x P P2) (h3 : 20 ∉ fs) (h : Nat) : szf P2 x h = szf P x h := szf.ext (X.hr I) (fun b e => X.2.2.2 20 h3 rfl b e) h
theorem MW.keep {fs : List Nat} {x : Nat} {P P2 : PP} (h : MW P x) (I : IM P x) (X : EM fs x P P2) (h1 : 10 ∉ fs) (h2 : 14 ∉ fs) (h3 : 20 ∉ fs) (h4 : 22 ∉ fs) : MW P2 x :=
  ⟨h.1.keep I X h1 h2, fun k i hk hi hs => (h.2 k i hk hi (by rw [← szf.keep I X h3]; exact hs)).keep I X h1 h2 h3 h4⟩
theorem MQx.keep {fs : List Nat} {x hx : Nat} {n : Nat → Int} {P P2 : PP} (h : MQx P x n hx) (I : IM P x) (X : EM fs x P P2) (h1 : 10 ∉ fs) (h2 : 14 ∉ fs) (h3 : 20 ∉ fs) (h4 : 22 ∉ fs) : MQx P2 x n hx :=
  ⟨h.1.keep I X h1 h2, fun k i hk hi hs => (h.2.1 k i hk hi hs).keep I X h1 h2 h3 h4, fun k hk hne => by rw [szf.keep I X h3]; exact h.2.2 k hk hne⟩
theorem ML.keep {fs : List Nat} {x j : Nat} {P P2 : PP} (h : ML P x j) (I : IM P x) (X : EM fs x P P2) (h1 : 10 ∉ fs) (h2 : 14 ∉ fs) (h3 : 20 ∉ fs) (h4 : 22 ∉ fs) : ML P2 x j := ⟨h.1.keep I X h1 h2 h3 h4, h.2.keep I X h1 h2 h3 h4⟩
theorem OW.keep {fs : List Nat} {x t : Nat} {P0 P P2 : PP} (h : OW P0 P x t) (I : IM P x) (X : EM fs x P P2) (h1 : 10 ∉ fs) (h2 : 14 ∉ fs) (h3 : 20 ∉ fs) (h4 : 22 ∉ fs) : OW P0 P2 x t := ⟨h.1.keep I X h1 h2 h3 h4, fun j z => (h.2 j z).keep I X h1 h2 h3 h4⟩
theorem TK.keep {fs : List Nat} {x t : Nat} {k : Int} {P P2 : PP} (h : TK P x t k) (I : IM P x) (X : EM fs x P P2) (h1 : 10 ∉ fs) (h2 : 14 ∉ fs) (h3 : 20 ∉ fs) (h4 : 22 ∉ fs) : TK P2 x t k := fun i hi hk => (h i hi hk).keep I X h1 h2 h3 h4
theorem TK.mono {x t : Nat} {k m : Int} {P : PP} (h : TK P x t k) (hm : m ≤ k) : TK P x t m := fun i hi hk => h i hi (by omega)
theorem TK.zero {x t : Nat} {k : Int} {P : PP} (hk : k ≤ 0) : TK P x t k := fun i _ h => absurd h (by omega)
theorem TK.mv {x t to : Nat} {k m : Int} {P P2 : PP} (h : TK P x t k) (o : OW P P2 x to) (hm : m = k + 1) (h0 : 0 ≤ k) (ht : to = 40 * t + k.toNat) : TK P2 x t m := by
  intro i hi hk
  by_cases e : (i : Int) < k
  · exact o.2 _ (h i hi e)
  · have : 40 * t + i = to := by omega
    rw [this]; exact o.1
theorem MW.mv {fs : List Nat} {x t : Nat} {P P2 : PP} (h : MW P x) (I : IM P x) (X : EM fs x P P2) (h1 : 10 ∉ fs) (h2 : 14 ∉ fs) (h3 : 20 ∉ fs) (o : OW P P2 x t) : MW P2 x :=
  ⟨h.1.keep I X h1 h2, fun k i hk hi hs => o.2 _ (h.2 k i hk hi (by rw [← szf.keep I X h3]; exact hs))⟩
theorem MQx.mv {fs : List Nat} {x t hx : Nat} {n : Nat → Int} {P P2 : PP} (h : MQx P x n hx) (I : IM P x) (X : EM fs x P P2) (h1 : 10 ∉ fs) (h2 : 14 ∉ fs) (h3 : 20 ∉ fs) (o : OW P P2 x t) : MQx P2 x n hx :=
  ⟨h.1.keep I X h1 h2, fun k i hk hi hs => o.2 _ (h.2.1 k i hk hi hs), fun k hk hne => by rw [szf.keep I X h3]; exact h.2.2 k hk hne⟩
/-- an array of another field stays -/
theorem IM.oth {P : PP} {x f g b c j : Nat} {v : Int32} (I : IM P x) (e : pR P x f = some b) (hg : g ≠ f) (e2 : pR P x g = some c) : pI (pSI P b j v) c = pI P c := by
  have hne : c ≠ b := fun z => by subst z; exact hg (I.2.2.1 g f c e2 e)
  show va_up (pI P) b _ c = pI P c
  rw [up_ne hne]
theorem szf.set {P : PP} {x z q : Nat} {v : Int32} (e : pR P x 20 = some z) (h : Nat) : szf (pSI P z q v) x h = if h = q then v.toInt else szf P x h := by
  rw [szf_at (P := pSI P z q v) e, szf_at e]
  show (va_up (pI P) z (va_up (pI P z) q v) z h).toInt = _
  rw [up_self]
  by_cases hh : h = q
  · subst hh; rw [up_self, if_pos rfl]
  · rw [up_ne hh, if_neg hh]
theorem okc.set20 {P : PP} {x z q j : Nat} {v : Int32} (h : okc P x j) (I : IM P x) (e : pR P x 20 = some z) : okc (pSI P z q v) x j :=
  h.ext rfl (fun _ f => I.oth e (by decide) f) (fun _ f => I.oth e (by decide) f)
theorem M1.set20 {P : PP} {x z q : Nat} {v : Int32} (h : M1 P x) (I : IM P x) (e : pR P x 20 = some z) : M1 (pSI P z q v) x :=
  h.ext rfl (fun _ f => I.oth e (by decide) f) (fun _ f => I.oth e (by decide) f)
/-- a heap gets smaller -/
theorem MW.dec {P : PP} {x z q : Nat} {v : Int32} (h : MW P x) (I : IM P x) (e : pR P x 20 = some z) (hv : v.toInt ≤ (pI P z q).toInt) : MW (pSI P z q v) x := by
  refine ⟨h.1.set20 I e, fun k i hk hi hs => (h.2 k i hk hi ?_).set20 I e⟩
  rw [szf.set e] at hs
  by_cases hq : k = q
  · subst hq; rw [if_pos rfl] at hs; rw [szf_at e]; omega
  · rw [if_neg hq] at hs; exact hs
/-- .. or larger, by a paper that is in order -/
theorem ML.grow {P : PP} {x z q j : Nat} {v : Int32} (h : ML P x j) (I : IM P x) (e : pR P x 20 = some z) (hv : v.toInt = (pI P z q).toInt + 1) (hj : (j : Int) = 40 * (q : Int) + (pI P z q).toInt) : MW (pSI P z q v) x := by
  refine ⟨h.1.1.set20 I e, fun k i hk hi hs => ?_⟩
  rw [szf.set e] at hs
  by_cases hq : k = q
  · subst hq
    rw [if_pos rfl] at hs
    by_cases hi2 : (i : Int) < (pI P z k).toInt
    · exact (h.1.2 k i hk hi (by rw [szf_at e]; exact hi2)).set20 I e
    · rw [show 40 * k + i = j by omega]; exact h.2.set20 I e
  · rw [if_neg hq] at hs; exact (h.1.2 k i hk hi hs).set20 I e
/-- a size is written: all but this heap stays below the sizes that were -/
theorem MW.exm {P : PP} {x z q hx : Nat} {v : Int32} (h : MW P x) (I : IM P x) (e : pR P x 20 = some z) (hv : hx = q ∨ v.toInt ≤ (pI P z q).toInt) : MQx (pSI P z q v) x (szf P x) hx := by
  refine ⟨h.1.set20 I e, fun k i hk hi hs => (h.2 k i hk hi hs).set20 I e, fun k hk hne => ?_⟩
  rw [szf.set e]
  by_cases hq : k = q
  · subst hq
    rw [if_pos rfl]
    rcases hv with hv | hv
    · exact absurd hv.symm hne
    · rw [szf_at e]; exact hv
  · rw [if_neg hq]; exact Int.le_refl _
theorem MQx.back {P : PP} {x hx : Nat} {n : Nat → Int} (h : MQx P x n hx) (hh : 20 ≤ hx) : MW P x :=
  ⟨h.1, fun k i hk hi hs => h.2.1 k i hk hi (Int.lt_of_lt_of_le hs (h.2.2 k hk (by omega)))⟩
theorem MQx.fill {P : PP} {x hx z : Nat} {n : Nat → Int} {k : Int} (h : MQx P x n hx) (t : TK P x hx k) (e : pR P x 20 = some z) (hz : (pI P z hx).toInt ≤ k) : MW P x :=
  ⟨h.1, fun j i hk hi hs => by
    by_cases hq : j = hx
    · subst hq; exact t i hi (by rw [szf_at e] at hs; omega)
    · exact h.2.1 j i hk hi (Int.lt_of_lt_of_le hs (h.2.2 j hk hq))⟩
/-- .. and the heap that is being filled gets as many as that one has -/
def MQy (P : PP) (x : Nat) (n : Nat → Int) (hx fr : Nat) : Prop := MQx P x n hx ∧ szf P x hx ≤ szf P x fr
theorem MQy.keep {fs : List Nat} {x hx fr : Nat} {n : Nat → Int} {P P2 : PP} (h : MQy P x n hx fr) (I : IM P x) (X : EM fs x P P2) (h1 : 10 ∉ fs) (h2 : 14 ∉ fs) (h3 : 20 ∉ fs) (h4 : 22 ∉ fs) : MQy P2 x n hx fr := ⟨h.1.keep I X h1 h2 h3 h4, by rw [szf.keep I X h3, szf.keep I X h3]; exact h.2⟩
theorem MQy.mv {fs : List Nat} {x t hx fr : Nat} {n : Nat → Int} {P P2 : PP} (h : MQy P x n hx fr) (I : IM P x) (X : EM fs x P P2) (h1 : 10 ∉ fs) (h2 : 14 ∉ fs) (h3 : 20 ∉ fs) (o : OW P P2 x t) : MQy P2 x n hx fr := ⟨h.1.mv I X h1 h2 h3 o, by rw [szf.keep I X h3, szf.keep I X h3]; exact h.2⟩
theorem MW.exmy {P : PP} {x z q fr : Nat} {v : Int32} (h : MW P x) (I : IM P x) (e : pR P x 20 = some z) (hf : fr ≠ q) (hv : v.toInt = (pI P z fr).toInt) : MQy (pSI P z q v) x (szf P x) q fr :=
  ⟨h.exm I e (Or.inl rfl), by rw [szf.set e, szf.set e, if_pos rfl, if_neg hf, szf_at e, hv]; exact Int.le_refl _⟩
theorem MQy.fill {P : PP} {x hx fr z : Nat} {n : Nat → Int} {k : Int} (h : MQy P x n hx fr) (t : TK P x hx k) (e : pR P x 20 = some z) (hz : (pI P z fr).toInt ≤ k) : MW P x :=
  h.1.fill t e (by have h9 := h.2; rw [szf_at e, szf_at e] at h9; omega)
theorem okc.set22 {P : PP} {x b i j : Nat} {v : Int32} (I : IM P x) (e : pR P x 22 = some b) (hv : ∀ c, pR P x 10 = some c → 0 ≤ v.toInt → 0 < (pI P c v.toInt.toNat).toInt) (h : i = j ∨ okc P x i) : okc (pSI P b j v) x i := by
  intro b2 c e2 f
  have e2' : pR P x 22 = some b2 := e2
  have f' : pR P x 10 = some c := f
  have hb : b2 = b := by rw [e] at e2'; cases e2'; rfl
  subst hb
  rw [I.oth e (by decide) f']
  show 0 ≤ (va_up (pI P) b2 (va_up (pI P b2) j v) b2 i).toInt → 0 < (pI P c (va_up (pI P) b2 (va_up (pI P b2) j v) b2 i).toInt.toNat).toInt
  rw [up_self]
  by_cases hi : i = j
  · subst hi; rw [up_self]; exact hv c f'
  · rw [up_ne hi]
    rcases h with h | h
    · exact absurd h hi
    · exact h b2 c e2' f'
/-- a paper is laid: its book is told, or it has none -/
theorem MW.set22 {x b j : Nat} {P : PP} {v : Int32} (h : MW P x) (I : IM P x) (e : pR P x 22 = some b) (hv : ∀ c, pR P x 10 = some c → 0 ≤ v.toInt → 0 < (pI P c v.toInt.toNat).toInt) : ML (pSI P b j v) x j :=
  ⟨⟨h.1.ext rfl (fun _ f => I.oth e (by decide) f) (fun _ f => I.oth e (by decide) f), fun k i hk hi hs => okc.set22 I e hv (Or.inr (h.2 k i hk hi (by rw [← szf.ext (P := P) (P2 := pSI P b j v) rfl (fun _ f => I.oth e (by decide) f)]; exact hs)))⟩, okc.set22 I e hv (Or.inl rfl)⟩
/-- a paper is copied -/
theorem OW.mv {x b f t : Nat} {P0 P : PP} (h : OW P0 P x f) (I : IM P x) (e : pR P x 22 = some b) : OW P0 (pSI P b t (pI P b f)) x t :=
  ⟨okc.set22 I e (fun c f9 h9 => h.1 b c e f9 h9) (Or.inl rfl), fun j z => okc.set22 I e (fun c f9 h9 => h.1 b c e f9 h9) (Or.inr (h.2 j z))⟩
section SM2
variable {E : EV} {R : Room} {D : va_G} {cy : Nat → ClassId} {nL : Nat} {P : PP} {cs sl pc : Nat} {lv : List (Nat × Value)}
/-- a write to the papers' books, the sizes, the pages or the weights -/
theorem gqX {P0 : PP} {x : Nat} {ks : List Nat} {W : PP → Prop} {a f : Nat} {v : Int32} {st : List Value} (I : IM (pSI P0 a f v) x) (X : EM ks x P0 (pSI P0 a f v)) (w : W (pSI P0 a f v)) (k : ∀ P2, IM P2 x → EM ks x P0 P2 → (pI P2 a f).toInt = v.toInt → W P2 → G E R D cy nL P2 cs sl pc lv st) : G E R D cy nL (pSI P0 a f v) cs sl pc lv st := k _ I X wI_self w
end SM2
/-- a weight is written: at least 1, or the draft's -/
theorem MW.set14 {x b j : Nat} {P : PP} {v : Int32} (h : MW P x) (I : IM P x) (e : pR P x 14 = some b) (hv : 2 ≤ j ∨ 1 ≤ v.toInt) : MW (pSI P b j v) x := by
  refine ⟨fun b2 c e2 f i hi => ?_, fun k i hk hi hs => (h.2 k i hk hi (by rw [← szf.ext (P := P) (P2 := pSI P b j v) rfl (fun _ f => I.oth e (by decide) f)]; exact hs)).ext rfl (fun _ f => I.oth e (by decide) f) (fun _ f => I.oth e (by decide) f)⟩
  have e2' : pR P x 10 = some b2 := e2
  have f' : pR P x 14 = some c := f
  have hb : c = b := by rw [e] at f'; cases f'; rfl
  subst hb
  rw [I.oth e (by decide) e2']
  show 0 < (pI P b2 i).toInt → 1 ≤ (va_up (pI P) c (va_up (pI P c) j v) c i).toInt
  rw [up_self]
  by_cases hj : i = j
  · subst hj
    rw [up_self]
    intro _
    rcases hv with hv | hv
    · omega
    · exact hv
  · rw [up_ne hj]; exact h.1 b2 c e2' f' i hi
/-- MW but for the weight of book j0 -/
def MX (P : PP) (x j0 : Nat) : Prop := (∀ b c, pR P x 10 = some b → pR P x 14 = some c → ∀ j, j < 2 → j ≠ j0 → 0 < (pI P b j).toInt → 1 ≤ (pI P c j).toInt) ∧ ∀ h i : Nat, h < 20 → i < 40 → (i : Int) < szf P x h → okc P x (40 * h + i)
theorem MX.keep {fs : List Nat} {x j0 : Nat} {P P2 : PP} (h : MX P x j0) (I : IM P x) (X : EM fs x P P2) (h1 : 10 ∉ fs) (h2 : 14 ∉ fs) (h3 : 20 ∉ fs) (h4 : 22 ∉ fs) : MX P2 x j0 := by
  refine ⟨fun b c e f => ?_, fun k i hk hi hs => (h.2 k i hk hi (by rw [← szf.keep I X h3]; exact hs)).keep I X h1 h2 h3 h4⟩
  rw [X.hr I] at e f
  rw [X.2.2.2 10 h1 rfl b e, X.2.2.2 14 h2 rfl c f]
  exact h.1 b c e f
theorem MW.set10 {x b j : Nat} {P : PP} {v : Int32} (h : MW P x) (I : IM P x) (e : pR P x 10 = some b) (hv : 1 ≤ v.toInt) : MX (pSI P b j v) x j := by
  refine ⟨fun b2 c e2 f i hi hj => ?_, fun k i hk hi hs => ?_⟩
  · have e2' : pR P x 10 = some b2 := e2
    have f' : pR P x 14 = some c := f
    have hb : b2 = b := by rw [e] at e2'; cases e2'; rfl
    subst hb
    rw [I.oth e (by decide) f']
    show 0 < (va_up (pI P) b2 (va_up (pI P b2) j v) b2 i).toInt → 1 ≤ (pI P c i).toInt
    rw [up_self, up_ne hj]
    exact h.1 b2 c e2' f' i hi
  · have ho := h.2 k i hk hi (by rw [← szf.ext (P := P) (P2 := pSI P b j v) rfl (fun _ f => I.oth e (by decide) f)]; exact hs)
    intro b2 c e2 f
    have e2' : pR P x 22 = some b2 := e2
    have f' : pR P x 10 = some c := f
    have hb : c = b := by rw [e] at f'; cases f'; rfl
    subst hb
    rw [I.oth e (by decide) e2']
    show 0 ≤ (pI P b2 (40 * k + i)).toInt → 0 < (va_up (pI P) c (va_up (pI P c) j v) c (pI P b2 (40 * k + i)).toInt.toNat).toInt
    rw [up_self]
    intro h0
    by_cases hk : (pI P b2 (40 * k + i)).toInt.toNat = j
    · rw [hk, up_self]; omega
    · rw [up_ne hk]; exact ho b2 c e2' f' h0
/-- the weight is there again -/
theorem MX.back {x j0 : Nat} {P : PP} (h : MX P x j0) (hv : ∀ c, pR P x 14 = some c → 1 ≤ (pI P c j0).toInt) : MW P x := by
  refine ⟨fun b c e f j hj h0 => ?_, h.2⟩
  by_cases hk : j = j0
  · subst hk; exact hv c f
  · exact h.1 b c e f j hj hk h0
theorem MX.set14 {x b j j0 : Nat} {P : PP} {v : Int32} (h : MX P x j0) (I : IM P x) (e : pR P x 14 = some b) (hj0 : j = j0) : MX (pSI P b j v) x j0 := by
  refine ⟨fun b2 c e2 f i hi hk => ?_, fun k i hk hi hs => (h.2 k i hk hi (by rw [← szf.ext (P := P) (P2 := pSI P b j v) rfl (fun _ f => I.oth e (by decide) f)]; exact hs)).ext rfl (fun _ f => I.oth e (by decide) f) (fun _ f => I.oth e (by decide) f)⟩
  have e2' : pR P x 10 = some b2 := e2
  have f' : pR P x 14 = some c := f
  have hb : c = b := by rw [e] at f'; cases f'; rfl
  subst hb
  rw [I.oth e (by decide) e2']
  show 0 < (pI P b2 i).toInt → 1 ≤ (va_up (pI P) c (va_up (pI P c) j v) c i).toInt
  rw [up_self, up_ne (fun z => hk (z.trans hj0))]
  exact h.1 b2 c e2' f' i hi hk
theorem EM.refB {fs : List Nat} {x : Nat} {P P2 : PP} {k b : Nat} (h : EM fs x P P2) (ha : At P x 12) (e : pR P2 x k = some b) : pR P x k = some b := by
  rw [h.2.1 x ha.1 (by rw [ha.2]; decide)] at e; exact e
/-! a word of the text, as the reader sees it -/
def iwA (P : PP) (x b4 b6 b9 w : Nat) : Int := if (pI P x 8).toInt = 0 ∧ (pI P b4 (pI P x 7).toInt.toNat).toInt = 1 ∧ pJ P b6 (pI P x 7).toInt.toNat = pJ P b9 w then 1 else 0
theorem iw_keep {P P2 : PP} {x b4 b6 b9 : Nat} (X : EM [7] x P P2) (e4 : pR P x 4 = some b4) (hJ : pJ P2 = pJ P) (h7 : (pI P2 x 7).toInt = (pI P x 7).toInt) (w : Nat) : iwA P2 x b4 b6 b9 w = iwA P x b4 b6 b9 w := by
  unfold iwA
  rw [X.2.2.1 8 (by decide), X.2.2.2 4 (by decide) rfl b4 e4, hJ, h7]
theorem cmp_or {x y : Int64} {z : Int32} (h : z = lg_cmp x y) : (z.toInt < 0 ∧ x.toInt < y.toInt) ∨ (z.toInt = 0 ∧ x.toInt = y.toInt) ∨ (0 < z.toInt ∧ y.toInt < x.toInt) := by
  rw [h]
  unfold lg_cmp
  by_cases h1 : x > y
  · rw [if_pos h1]; exact Or.inr (Or.inr ⟨by decide, Int64.lt_iff_toInt_lt.mp h1⟩)
  · rw [if_neg h1]
    have h3 : ¬ y.toInt < x.toInt := fun z => h1 (Int64.lt_iff_toInt_lt.mpr z)
    by_cases h2 : x = y
    · rw [if_pos h2]; exact Or.inr (Or.inl ⟨rfl, by rw [h2]⟩)
    · rw [if_neg h2]
      have h4 : x.toInt ≠ y.toInt := fun z => h2 (Int64.toInt_inj.mp z)
      exact Or.inl ⟨by decide, by omega⟩
theorem l2i_val {x : Int64} {z : Int32} (h : z = x.toInt32) (hx : -2147483648 ≤ x.toInt ∧ x.toInt ≤ 2147483647) : z.toInt = x.toInt := by
  rw [h, Int64.toInt_toInt32]; exact bm32 hx
theorem i2l_val {x : Int32} {z : Int64} (h : z = x.toInt64) : z.toInt = x.toInt := by rw [h]; exact Int32.toInt_toInt64 _
theorem cmp_rg {x y : Int64} {z : Int32} (h : z = lg_cmp x y) : -1 ≤ z.toInt ∧ z.toInt ≤ 1 := by
  rw [h]
  unfold lg_cmp
  split
  · decide
  · split <;> decide
