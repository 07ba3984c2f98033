/-! THE LAYER: a method's world is one pool of cells; the words of the tables ride with the state; a goal is 'G': the machine at a place of the code, with a pool. -/
def okW : Cond → Bool
  | .methodLinkNest _ _ _ _ => true
  | .fieldLinkNest _ _ _ _ _ _ => true
  | .arrayOver (.object _) => true
  | w => goodWord w
theorem okW_warm {w : Cond} (ho : okW w = true) {A A' : Array Value} {s U : State} (hW : s.WarmedH U.vm) (h : w.before A s = true) : w.before A' U = true := by
  by_cases hg : goodWord w = true
  · exact word_at hW (good_of_word hg) h
  · cases w
    case methodLinkNest => exact va_Nw.use rfl (va_Nw.warmM hW (va_Nw.of rfl h))
    case fieldLinkNest => exact va_Nw.use rfl (va_Nw.warmF hW (va_Nw.of rfl h))
    case arrayOver ty =>
      cases ty
      case object => exact va_AO.use (va_AO.moved hW.alike (va_AO.of h))
      all_goals exact absurd ho hg
    all_goals exact absurd ho hg
/-- the tables' words hold -/
def TB (U : State) : Prop := ∀ w ∈ lw_tbl, okW w = true → w.before #[] U = true
theorem TB.warm {s U : State} (h : TB s) (hW : s.WarmedH U.vm) : TB U := fun w hw ho => okW_warm ho hW (h w hw ho)
theorem TB.of {s : State} {A : Array Value} (h : ∀ w ∈ lw_tbl, w.before A s = true) : TB s := fun w hw ho => okW_warm ho (State.WarmedH.refl s) (h w hw)
def TW (w : Cond) : Prop := ∀ U : State, TB U → ∀ A : Array Value, w.before A U = true
theorem TW.of {w : Cond} (hm : w ∈ lw_tbl) (ho : okW w = true) : TW w := fun U h _ => okW_warm ho (State.WarmedH.refl U) (h w hm ho)
theorem TW.at {w : Cond} (i : Nat) (hm : tables_1[i]? = some w) (ho : okW w = true) : TW w := TW.of (List.mem_append_right _ (List.mem_of_getElem? hm)) ho
/-! pools -/
abbrev PP : Type := List Nat × (Nat → Nat) × (Nat → Nat) × (Nat → Nat → Int32) × (Nat → Nat → Option Nat) × (Nat → Nat → Int64)
def pL (P : PP) : List Nat := P.1
def pK (P : PP) : Nat → Nat := P.2.1
def pN (P : PP) : Nat → Nat := P.2.2.1
def pI (P : PP) : Nat → Nat → Int32 := P.2.2.2.1
def pR (P : PP) : Nat → Nat → Option Nat := P.2.2.2.2.1
def pJ (P : PP) : Nat → Nat → Int64 := P.2.2.2.2.2
def pSI (P : PP) (a k : Nat) (v : Int32) : PP := (pL P, pK P, pN P, va_up (pI P) a (va_up (pI P a) k v), pR P, pJ P)
def pSR (P : PP) (a k : Nat) (v : Option Nat) : PP := (pL P, pK P, pN P, pI P, va_up (pR P) a (va_up (pR P a) k v), pJ P)
def pSJ (P : PP) (a k : Nat) (v : Int64) : PP := (pL P, pK P, pN P, pI P, pR P, va_up (pJ P) a (va_up (pJ P a) k v))
def pNw (P : PP) (a kd n : Nat) : PP := (pL P ++ [a], va_up (pK P) a kd, va_up (pN P) a n, va_up (pI P) a (fun _ => 0), va_up (pR P) a (fun _ => none), va_up (pJ P) a (fun _ => 0))
def fv (t : Nat) (P : PP) (a k : Nat) : Value := if t = 1 then va_rf (pR P a k) else if t = 2 then .long (pJ P a k) else .int (pI P a k)
def fl (ts : List Nat) (P : PP) (a : Nat) : List Value := ts.mapIdx (fun k t => fv t P a k)
def fl0 (ts : List Nat) : List Value := ts.map (fun t => if t = 1 then Value.null else if t = 2 then .long 0 else .int 0)
theorem fl_get (ts : List Nat) (P : PP) (a k : Nat) {t : Nat} (h : ts[k]? = some t) : (fl ts P a)[k]? = some (fv t P a k) := by
  simp [fl, List.getElem?_mapIdx, h]
theorem fl_len (ts : List Nat) (P : PP) (a : Nat) : (fl ts P a).length = ts.length := by simp [fl]
def pe (cy : Nat → ClassId) (P : PP) (a : Nat) : va_E :=
  if pK P a < 13 then .inr (pK P a, fl (ft (pK P a)) P a)
  else .inl (cy (pK P a), pN P a, if pK P a = 14 then .inr (.inl (pJ P a)) else if pK P a < 16 then .inl (pI P a) else .inr (.inr (.inr (.inr (pR P a)))))
def pw (cy : Nat → ClassId) (P : PP) : va_W := va_pl (pL P) (pe cy P)
theorem pe_obj {cy : Nat → ClassId} {P : PP} {a ci : Nat} (h : pK P a = ci) (hc : ci < 13) : pe cy P a = .inr (ci, fl (ft ci) P a) := by
  subst h; simp [pe, hc]
theorem pe_int {cy : Nat → ClassId} {P : PP} {a kd : Nat} (h : pK P a = kd) (hk : kd = 13 ∨ kd = 15) : pe cy P a = .inl (cy kd, pN P a, .inl (pI P a)) := by
  subst h; rcases hk with hk | hk <;> simp [pe, hk]
theorem pe_lng {cy : Nat → ClassId} {P : PP} {a : Nat} (h : pK P a = 14) : pe cy P a = .inl (cy 14, pN P a, .inr (.inl (pJ P a))) := by
  simp [pe, h]
theorem pe_ref {cy : Nat → ClassId} {P : PP} {a kd : Nat} (h : pK P a = kd) (hk : 16 ≤ kd) : pe cy P a = .inl (cy kd, pN P a, .inr (.inr (.inr (.inr (pR P a))))) := by
  subst h
  have h1 : ¬ pK P a < 13 := by omega
  have h2 : ¬ pK P a = 14 := by omega
  have h3 : ¬ pK P a < 16 := by omega
  simp [pe, h1, h2, h3]
theorem fl_set {ts : List Nat} {P P' : PP} {a k t : Nat} {v : Value} (ht : ts[k]? = some t) (hv : fv t P' a k = v) (ho : ∀ (j u : Nat), j ≠ k → fv u P' a j = fv u P a j) : (fl ts P a).set k v = fl ts P' a := by
  apply List.ext_getElem?
  intro j
  have hk : k < (fl ts P a).length := by rw [fl_len]; exact (List.getElem?_eq_some_iff.mp ht).1
  by_cases hj : k = j
  · subst hj
    rw [List.getElem?_set_self hk, fl_get _ _ _ _ ht, hv]
  · rw [List.getElem?_set_ne hj]
    cases hq : ts[j]? with
    | none => simp [fl, List.getElem?_mapIdx, hq]
    | some u => rw [fl_get _ _ _ _ hq, fl_get _ _ _ _ hq, ho j u (fun h => hj h.symm)]
theorem fl_off {ts : List Nat} {P P' : PP} {a : Nat} (h1 : pI P' a = pI P a) (h2 : pR P' a = pR P a) (h3 : pJ P' a = pJ P a) : fl ts P' a = fl ts P a := by
  unfold fl fv
  rw [h1, h2, h3]
theorem pe_off {cy : Nat → ClassId} {P P' : PP} {a : Nat} (h0 : pK P' a = pK P a) (hn : pN P' a = pN P a) (h1 : pI P' a = pI P a) (h2 : pR P' a = pR P a) (h3 : pJ P' a = pJ P a) : pe cy P' a = pe cy P a := by
  unfold pe
  rw [h0, hn, h1, h2, h3, fl_off h1 h2 h3]
theorem up_self {α : Type} {f : Nat → α} {a : Nat} {v : α} : va_up f a v a = v := by simp [va_up]
theorem up_ne {α : Type} {f : Nat → α} {a b : Nat} {v : α} (h : b ≠ a) : va_up f a v b = f b := by simp [va_up, h]
theorem pe_SI {cy : Nat → ClassId} {P : PP} {a ci k t : Nat} {v : Int32} (h : pK P a = ci) (hc : ci < 13) (ht : (ft ci)[k]? = some t) (h1 : t ≠ 1) (h2 : t ≠ 2) (b : Nat) : va_up (pe cy P) a (.inr (ci, (fl (ft ci) P a).set k (.int v))) b = pe cy (pSI P a k v) b := by
  by_cases hb : b = a
  · subst hb
    rw [up_self, pe_obj (P := pSI P b k v) (show pK (pSI P b k v) b = ci from h) hc]
    congr 2
    refine fl_set ht ?_ ?_
    · simp [fv, h1, h2, pSI, pI, va_up]
    · intro j u hj
      simp [fv, pSI, pI, pR, pJ, va_up, hj]
  · rw [up_ne hb]
    exact (pe_off (P' := pSI P a k v) (P := P) rfl rfl (by simp [pSI, pI, va_up, hb]) rfl rfl).symm
theorem pe_SR {cy : Nat → ClassId} {P : PP} {a ci k : Nat} {v : Option Nat} (h : pK P a = ci) (hc : ci < 13) (ht : (ft ci)[k]? = some 1) (b : Nat) : va_up (pe cy P) a (.inr (ci, (fl (ft ci) P a).set k (va_rf v))) b = pe cy (pSR P a k v) b := by
  by_cases hb : b = a
  · subst hb
    rw [up_self, pe_obj (P := pSR P b k v) (show pK (pSR P b k v) b = ci from h) hc]
    congr 2
    refine fl_set ht ?_ ?_
    · simp [fv, pSR, pR, va_up]
    · intro j u hj
      simp [fv, pSR, pI, pR, pJ, va_up, hj]
  · rw [up_ne hb]
    exact (pe_off (P' := pSR P a k v) (P := P) rfl rfl rfl (by simp [pSR, pR, va_up, hb]) rfl).symm
theorem pe_SJ {cy : Nat → ClassId} {P : PP} {a ci k : Nat} {v : Int64} (h : pK P a = ci) (hc : ci < 13) (ht : (ft ci)[k]? = some 2) (b : Nat) : va_up (pe cy P) a (.inr (ci, (fl (ft ci) P a).set k (.long v))) b = pe cy (pSJ P a k v) b := by
  by_cases hb : b = a
  · subst hb
    rw [up_self, pe_obj (P := pSJ P b k v) (show pK (pSJ P b k v) b = ci from h) hc]
    congr 2
    refine fl_set ht ?_ ?_
    · simp [fv, pSJ, pJ, va_up]
    · intro j u hj
      simp [fv, pSJ, pI, pR, pJ, va_up, hj]
  · rw [up_ne hb]
    exact (pe_off (P' := pSJ P a k v) (P := P) rfl rfl rfl rfl (by simp [pSJ, pJ, va_up, hb])).symm
theorem pe_AI {cy : Nat → ClassId} {P : PP} {a kd k : Nat} {v : Int32} (h : pK P a = kd) (hk : kd = 13 ∨ kd = 15) (b : Nat) : va_up (pe cy P) a (.inl (cy kd, pN P a, .inl (upd (pI P a) k v))) b = pe cy (pSI P a k v) b := by
  by_cases hb : b = a
  · subst hb
    have e : pI (pSI P b k v) b = upd (pI P b) k v := by
      show va_up (pI P) b (va_up (pI P b) k v) b = _
      rw [up_self]; rfl
    rw [up_self, pe_int (P := pSI P b k v) (show pK (pSI P b k v) b = kd from h) hk, e]; rfl
  · rw [up_ne hb]
    exact (pe_off (P' := pSI P a k v) (P := P) rfl rfl (by simp [pSI, pI, va_up, hb]) rfl rfl).symm
theorem pe_AJ {cy : Nat → ClassId} {P : PP} {a k : Nat} {v : Int64} (h : pK P a = 14) (b : Nat) : va_up (pe cy P) a (.inl (cy 14, pN P a, .inr (.inl (vp_updL (pJ P a) k v)))) b = pe cy (pSJ P a k v) b := by
  by_cases hb : b = a
  · subst hb
    have e : pJ (pSJ P b k v) b = vp_updL (pJ P b) k v := by
      show va_up (pJ P) b (va_up (pJ P b) k v) b = _
      rw [up_self]; rfl
    rw [up_self, pe_lng (P := pSJ P b k v) (show pK (pSJ P b k v) b = 14 from h), e]; rfl
  · rw [up_ne hb]
    exact (pe_off (P' := pSJ P a k v) (P := P) rfl rfl rfl rfl (by simp [pSJ, pJ, va_up, hb])).symm
theorem pe_AR {cy : Nat → ClassId} {P : PP} {a kd k : Nat} {v : Option Nat} (h : pK P a = kd) (hk : 16 ≤ kd) (b : Nat) : va_up (pe cy P) a (.inl (cy kd, pN P a, .inr (.inr (.inr (.inr (va_up (pR P a) k v)))))) b = pe cy (pSR P a k v) b := by
  by_cases hb : b = a
  · subst hb
    have e : pR (pSR P b k v) b = va_up (pR P b) k v := by
      show va_up (pR P) b (va_up (pR P b) k v) b = _
      rw [up_self]
    rw [up_self, pe_ref (P := pSR P b k v) (show pK (pSR P b k v) b = kd from h) hk, e]; rfl
  · rw [up_ne hb]
    exact (pe_off (P' := pSR P a k v) (P := P) rfl rfl rfl (by simp [pSR, pR, va_up, hb]) rfl).symm
theorem pw_get {cy : Nat → ClassId} {P : PP} {a : Nat} (h : a ∈ pL P) : ∃ k : Nat, (pw cy P)[k]? = some (a, pe cy P a) := va_pl_get (X := []) h
theorem pw_set {A : Nat → Prop} {cy : Nat → ClassId} {P P' : PP} {a k : Nat} {x : va_E} (hD : va_D A (pw cy P)) (h : a ∈ pL P) (hk : (pw cy P)[k]? = some (a, pe cy P a)) (hL : pL P' = pL P) (hx : ∀ b, va_up (pe cy P) a x b = pe cy P' b) : (pw cy P).set k (a, x) = pw cy P' := by
  have e := va_pl_set (X := []) (e := x) hD h hk
  have e2 : (pw cy P).set k (a, x) = va_pl (pL P) (va_up (pe cy P) a x) := e
  rw [e2]
  unfold pw
  rw [hL]
  exact va_pl_congr hx
theorem pw_push {cy : Nat → ClassId} {P : PP} {a kd n : Nat} {x : va_E} (h : a ∉ pL P) (hx : x = pe cy (pNw P a kd n) a) : pw cy P ++ [(a, x)] = pw cy (pNw P a kd n) := by
  unfold pw
  rw [va_pl_push h]
  refine va_pl_congr (fun b => ?_)
  by_cases hb : b = a
  · subst hb; rw [up_self, hx]
  · rw [up_ne hb]
    exact (pe_off (P' := pNw P a kd n) (P := P) (by simp [pNw, pK, va_up, hb]) (by simp [pNw, pN, va_up, hb]) (by simp [pNw, pI, va_up, hb]) (by simp [pNw, pR, va_up, hb]) (by simp [pNw, pJ, va_up, hb])).symm
theorem fl_new {P : PP} {a kd n : Nat} (ts : List Nat) : fl ts (pNw P a kd n) a = fl0 ts := by
  unfold fl fl0
  rw [List.mapIdx_eq_iff]
  intro i
  rw [List.getElem?_map]
  cases ts[i]? with
  | none => rfl
  | some t => simp [fv, pNw, pR, pJ, pI, va_up, va_rf]
