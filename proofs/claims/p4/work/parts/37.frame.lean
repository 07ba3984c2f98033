/-! TWO POOLS SIDE BY SIDE: a call moves one of them, the other stays -/
def pM (P Q : PP) : PP := (pL P ++ pL Q, fun a => if a ∈ pL P then pK P a else pK Q a, fun a => if a ∈ pL P then pN P a else pN Q a, fun a => if a ∈ pL P then pI P a else pI Q a, fun a => if a ∈ pL P then pR P a else pR Q a, fun a => if a ∈ pL P then pJ P a else pJ Q a)
theorem pM_L (P Q : PP) : pL (pM P Q) = pL P ++ pL Q := rfl
theorem pM_K1 {P Q : PP} {a k : Nat} (h : a ∈ pL P) (hk : pK P a = k) : pK (pM P Q) a = k := by
  show (if a ∈ pL P then pK P a else pK Q a) = k
  rw [if_pos h, hk]
theorem pM_K2 {P Q : PP} {a k : Nat} (h : a ∉ pL P) (hk : pK Q a = k) : pK (pM P Q) a = k := by
  show (if a ∈ pL P then pK P a else pK Q a) = k
  rw [if_neg h, hk]
theorem pM_1 {P Q : PP} {a : Nat} (h : a ∈ pL P) : a ∈ pL (pM P Q) := List.mem_append_left _ h
theorem pM_2 {P Q : PP} {a : Nat} (h : a ∈ pL Q) : a ∈ pL (pM P Q) := List.mem_append_right _ h
theorem pM_e1 {cy : Nat → ClassId} {P Q : PP} {a : Nat} (h : a ∈ pL P) : pe cy (pM P Q) a = pe cy P a :=
  pe_off (by show (if a ∈ pL P then pK P a else pK Q a) = _; rw [if_pos h]) (by show (if a ∈ pL P then pN P a else pN Q a) = _; rw [if_pos h]) (by show (if a ∈ pL P then pI P a else pI Q a) = _; rw [if_pos h]) (by show (if a ∈ pL P then pR P a else pR Q a) = _; rw [if_pos h]) (by show (if a ∈ pL P then pJ P a else pJ Q a) = _; rw [if_pos h])
theorem pM_e2 {cy : Nat → ClassId} {P Q : PP} {a : Nat} (h : a ∉ pL P) : pe cy (pM P Q) a = pe cy Q a :=
  pe_off (by show (if a ∈ pL P then pK P a else pK Q a) = _; rw [if_neg h]) (by show (if a ∈ pL P then pN P a else pN Q a) = _; rw [if_neg h]) (by show (if a ∈ pL P then pI P a else pI Q a) = _; rw [if_neg h]) (by show (if a ∈ pL P then pR P a else pR Q a) = _; rw [if_neg h]) (by show (if a ∈ pL P then pJ P a else pJ Q a) = _; rw [if_neg h])
theorem pM_pw {cy : Nat → ClassId} {P Q : PP} (h : ∀ a, a ∈ pL Q → a ∉ pL P) : pw cy (pM P Q) = pw cy P ++ pw cy Q := by
  show (pL P ++ pL Q).map (fun a => (a, pe cy (pM P Q) a)) = (pL P).map (fun a => (a, pe cy P a)) ++ (pL Q).map (fun a => (a, pe cy Q a))
  rw [List.map_append]
  congr 1
  · exact List.map_congr_left (fun a ha => by rw [pM_e1 ha])
  · exact List.map_congr_left (fun a ha => by rw [pM_e2 (h a ha)])
theorem pw_mem {cy : Nat → ClassId} {P : PP} {k : Nat} {q : Nat × va_E} (h : (pw cy P)[k]? = some q) : q.1 ∈ pL P := by
  have h1 : q ∈ (pL P).map (fun a => (a, pe cy P a)) := List.mem_of_getElem? h
  obtain ⟨a, ha, e⟩ := List.mem_map.mp h1
  rw [← e]; exact ha
theorem pw_len {cy : Nat → ClassId} {P : PP} : (pw cy P).length = (pL P).length := by
  show ((pL P).map (fun a => (a, pe cy P a))).length = _
  exact List.length_map _
theorem pw_at {cy : Nat → ClassId} {P : PP} {i a : Nat} (h : (pL P)[i]? = some a) : (pw cy P)[i]? = some (a, pe cy P a) := by
  show ((pL P).map (fun a => (a, pe cy P a)))[i]? = _
  rw [List.getElem?_map, h]; rfl
theorem pM_off {A : Nat → Prop} {cy : Nat → ClassId} {P Q : PP} (h : va_D A (pw cy (pM P Q))) : ∀ a, a ∈ pL Q → a ∉ pL P := by
  intro a h2 h1
  obtain ⟨i, hi, e1⟩ := List.mem_iff_getElem.mp h1
  obtain ⟨j, hj, e2⟩ := List.mem_iff_getElem.mp h2
  have a1 : (pL (pM P Q))[i]? = some a := by
    rw [pM_L, List.getElem?_append_left hi, List.getElem?_eq_getElem hi, e1]
  have a2 : (pL (pM P Q))[(pL P).length + j]? = some a := by
    rw [pM_L, List.getElem?_append_right (by omega), show (pL P).length + j - (pL P).length = j by omega, List.getElem?_eq_getElem hj, e2]
  have := h.1 i ((pL P).length + j) _ _ (pw_at a1) (pw_at a2) rfl
  omega
theorem P_left {D : va_G} {cl : List vw_C} {w1 w2 : va_W} {H : Heap} (h : va_P D cl (w1 ++ w2) H) : va_P D cl w1 H := fun k q hk => h k q (by
  rw [List.getElem?_append_left (List.getElem?_eq_some_iff.mp hk).1]; exact hk)
theorem P_right {D : va_G} {cl : List vw_C} {w1 w2 : va_W} {H : Heap} (h : va_P D cl (w1 ++ w2) H) : va_P D cl w2 H := fun k q hk => h (w1.length + k) q (by
  rw [List.getElem?_append_right (by omega), show w1.length + k - w1.length = k by omega]; exact hk)
theorem D_left {A : Nat → Prop} {w1 w2 : va_W} (h : va_D A (w1 ++ w2)) : va_D A w1 := by
  have e : ∀ (k : Nat) (q : Nat × va_E), w1[k]? = some q → (w1 ++ w2)[k]? = some q := fun k q hk => by
    rw [List.getElem?_append_left (List.getElem?_eq_some_iff.mp hk).1]; exact hk
  exact ⟨fun i j p q hi hj hpq => h.1 i j p q (e i p hi) (e j q hj) hpq, fun k q hk => h.2 k q (e k q hk)⟩
theorem D_right {A : Nat → Prop} {w1 w2 : va_W} (h : va_D A (w1 ++ w2)) : va_D A w2 := by
  have e : ∀ (k : Nat) (q : Nat × va_E), w2[k]? = some q → (w1 ++ w2)[w1.length + k]? = some q := fun k q hk => by
    rw [List.getElem?_append_right (by omega), show w1.length + k - w1.length = k by omega]; exact hk
  exact ⟨fun i j p q hi hj hpq => by have := h.1 _ _ p q (e i p hi) (e j q hj) hpq; omega, fun k q hk => h.2 _ q (e k q hk)⟩
theorem A_mem {cy : Nat → ClassId} {P : PP} {sz q : Nat} (h : va_A (pw cy P) sz q) : q ∈ pL P ∨ sz ≤ q := by
  rcases h with ⟨k, e, h⟩ | h
  · exact Or.inl (pw_mem h)
  · exact Or.inr h
theorem A_of {cy : Nat → ClassId} {P : PP} {sz q : Nat} (h : q ∈ pL P ∨ sz ≤ q) : va_A (pw cy P) sz q := by
  rcases h with h | h
  · obtain ⟨k, hk⟩ := pw_get (cy := cy) h
    exact Or.inl ⟨k, _, hk⟩
  · exact Or.inr h
theorem A_1 {cy : Nat → ClassId} {P Q : PP} {sz q : Nat} (h : va_A (pw cy P) sz q) : va_A (pw cy (pM P Q)) sz q := A_of ((A_mem h).imp pM_1 id)
theorem A_2 {cy : Nat → ClassId} {P Q : PP} {sz q : Nat} (h : va_A (pw cy Q) sz q) : va_A (pw cy (pM P Q)) sz q := A_of ((A_mem h).imp pM_2 id)
theorem F_mono {A B : Nat → Prop} {st t : State} (h : va_F A st t) (hAB : ∀ q, A q → B q) : va_F B st t := ⟨h.1, fun q h1 h2 => h.2 q h1 (fun z => h2 (hAB q z))⟩
theorem SX.narrow {D : va_G} {A B : Nat → Prop} {U : State} {H : Heap} (h : SX D A U H) (hBA : ∀ q : Nat, B q → A q) : SX D B U H := ⟨h.1.narrow hBA, h.2.1, h.2.2.1.narrow hBA, h.2.2.2.narrow hBA⟩
theorem pM_pre {D : va_G} {cy : Nat → ClassId} {P Q : PP} {sz : Nat} {U : State} (h : pB D cy (pM P Q) sz U) : pB D cy P sz U ∧ pB D cy Q sz U ∧ ∀ a, a ∈ pL Q → a ∉ pL P := by
  obtain ⟨h1, h2, h3, h4, h5, h6⟩ := h
  have ho := pM_off h5
  have z1 := h6.narrow (fun q z => A_1 (P := P) (Q := Q) (cy := cy) (sz := sz) z)
  have z2 := h6.narrow (fun q z => A_2 (P := P) (Q := Q) (cy := cy) (sz := sz) z)
  rw [pM_pw ho] at h3 h5
  exact ⟨⟨h1, h2, P_left h3, h4, D_left h5, z1⟩, ⟨h1, h2, P_right h3, h4, D_right h5, z2⟩, ho⟩
theorem pw_lt {D : va_G} {cy : Nat → ClassId} {P : PP} {H : Heap} (h : va_P D vwCl (pw cy P) H) {a : Nat} (ha : a ∈ pL P) : a < H.size := by
  obtain ⟨k, hk⟩ := pw_get (cy := cy) ha
  exact (h k _ hk).lt
theorem pM_post1 {D : va_G} {cy : Nat → ClassId} {P P2 Q : PP} {sz : Nat} {st t : State} (h : pB D cy (pM P Q) sz st) (hA : pA D cy (va_A (pw cy P) sz) P2 t) (hF : va_F (va_A (pw cy P) sz) st t) : pA D cy (va_A (pw cy (pM P Q)) sz) (pM P2 Q) t := by
  obtain ⟨b1, b2, ho⟩ := pM_pre h
  obtain ⟨c1, c2, c3, c4, c5, -⟩ := b2
  obtain ⟨a1, a2, a3⟩ := hA
  have hlt : ∀ a, a ∈ pL Q → a < sz := fun a ha => by rw [← c1]; exact pw_lt c3 ha
  have hn : ∀ a, a ∈ pL Q → ¬ va_A (pw cy P) sz a := fun a ha z => by
    rcases A_mem z with z | z
    · exact ho a ha z
    · exact absurd (hlt a ha) (by omega)
  have hQ : va_P D vwCl (pw cy Q) t.heap := c3.kept (fun k q hk => hF.2 q.1 (by rw [c1]; exact hlt _ (pw_mem hk)) (hn _ (pw_mem hk)))
  have hd : ∀ a, a ∈ pL Q → a ∉ pL P2 := fun a ha z => by
    obtain ⟨k, hk⟩ := pw_get (cy := cy) z
    exact hn a ha (a3.2 k _ hk)
  rw [show pA D cy (va_A (pw cy (pM P Q)) sz) (pM P2 Q) t = (va_P D vwCl (pw cy (pM P2 Q)) t.heap ∧ va_K D vwCl (tysL cy) t ∧ va_D (va_A (pw cy (pM P Q)) sz) (pw cy (pM P2 Q))) from rfl, pM_pw hd]
  refine ⟨va_P.app a1 hQ, a2, va_D.app (a3.weaken (fun k q _ z => A_1 z)) (c5.weaken (fun k q hk _ => A_2 (va_A.in hk))) ?_⟩
  intro i j p q hi hj e
  exact hd q.1 (pw_mem hj) (by rw [← e]; exact pw_mem hi)
theorem pM_post2 {D : va_G} {cy : Nat → ClassId} {P Q Q2 : PP} {sz : Nat} {st t : State} (h : pB D cy (pM P Q) sz st) (hA : pA D cy (va_A (pw cy Q) sz) Q2 t) (hF : va_F (va_A (pw cy Q) sz) st t) : pA D cy (va_A (pw cy (pM P Q)) sz) (pM P Q2) t := by
  obtain ⟨b1, b2, ho⟩ := pM_pre h
  obtain ⟨c1, c2, c3, c4, c5, -⟩ := b1
  obtain ⟨a1, a2, a3⟩ := hA
  have hlt : ∀ a, a ∈ pL P → a < sz := fun a ha => by rw [← c1]; exact pw_lt c3 ha
  have hn : ∀ a, a ∈ pL P → ¬ va_A (pw cy Q) sz a := fun a ha z => by
    rcases A_mem z with z | z
    · exact ho a z ha
    · exact absurd (hlt a ha) (by omega)
  have hQ : va_P D vwCl (pw cy P) t.heap := c3.kept (fun k q hk => hF.2 q.1 (by rw [c1]; exact hlt _ (pw_mem hk)) (hn _ (pw_mem hk)))
  have hd : ∀ a, a ∈ pL Q2 → a ∉ pL P := fun a z ha => by
    obtain ⟨k, hk⟩ := pw_get (cy := cy) z
    exact hn a ha (a3.2 k _ hk)
  rw [show pA D cy (va_A (pw cy (pM P Q)) sz) (pM P Q2) t = (va_P D vwCl (pw cy (pM P Q2)) t.heap ∧ va_K D vwCl (tysL cy) t ∧ va_D (va_A (pw cy (pM P Q)) sz) (pw cy (pM P Q2))) from rfl, pM_pw hd]
  refine ⟨va_P.app hQ a1, a2, va_D.app (c5.weaken (fun k q hk _ => A_1 (va_A.in hk))) (a3.weaken (fun k q _ z => A_2 z)) ?_⟩
  intro i j p q hi hj e
  exact hd q.1 (pw_mem hj) (by rw [← e]; exact pw_mem hi)
section FR
variable {y : MethodName} {yc : ByteArray} {mL : Nat} {ret : Option FieldType} {rm : Room} {mc ms : Nat} {P Q : PP} {av : List Value}
theorem frI1 {post : Int32 → PP → Prop} (h : CtrI y yc mL ret rm mc ms P av post) : CtrI y yc mL ret rm mc ms (pM P Q) av (fun r U => ∃ P2, post r P2 ∧ U = pM P2 Q) := by
  intro l D cy sz p e ha hc hk s m args below hf happ hP hK
  obtain ⟨rfl, hB⟩ := hP
  obtain ⟨n, o, h1, h2, h3, ⟨⟨r, u, ho, hp, hA⟩, hF⟩, L, hL1, hL2⟩ := h l D cy sz p e ha hc hk s m _ below hf happ ⟨rfl, (pM_pre hB).1⟩ hK
  exact ⟨n, o, h1, h2, h3, ⟨⟨r, pM u Q, ho, ⟨u, hp, rfl⟩, pM_post1 hB hA hF⟩, F_mono hF (fun _ => A_1)⟩, L, hL1, fun q hq => A_1 (hL2 q hq)⟩
theorem frI2 {post : Int32 → PP → Prop} (h : CtrI y yc mL ret rm mc ms Q av post) : CtrI y yc mL ret rm mc ms (pM P Q) av (fun r U => ∃ P2, post r P2 ∧ U = pM P P2) := by
  intro l D cy sz p e ha hc hk s m args below hf happ hP hK
  obtain ⟨rfl, hB⟩ := hP
  obtain ⟨n, o, h1, h2, h3, ⟨⟨r, u, ho, hp, hA⟩, hF⟩, L, hL1, hL2⟩ := h l D cy sz p e ha hc hk s m _ below hf happ ⟨rfl, (pM_pre hB).2.1⟩ hK
  exact ⟨n, o, h1, h2, h3, ⟨⟨r, pM P u, ho, ⟨u, hp, rfl⟩, pM_post2 hB hA hF⟩, F_mono hF (fun _ => A_2)⟩, L, hL1, fun q hq => A_2 (hL2 q hq)⟩
theorem frL1 {post : Int64 → PP → Prop} (h : CtrL y yc mL ret rm mc ms P av post) : CtrL y yc mL ret rm mc ms (pM P Q) av (fun r U => ∃ P2, post r P2 ∧ U = pM P2 Q) := by
  intro l D cy sz p e ha hc hk s m args below hf happ hP hK
  obtain ⟨rfl, hB⟩ := hP
  obtain ⟨n, o, h1, h2, h3, ⟨⟨r, u, ho, hp, hA⟩, hF⟩, L, hL1, hL2⟩ := h l D cy sz p e ha hc hk s m _ below hf happ ⟨rfl, (pM_pre hB).1⟩ hK
  exact ⟨n, o, h1, h2, h3, ⟨⟨r, pM u Q, ho, ⟨u, hp, rfl⟩, pM_post1 hB hA hF⟩, F_mono hF (fun _ => A_1)⟩, L, hL1, fun q hq => A_1 (hL2 q hq)⟩
theorem frL2 {post : Int64 → PP → Prop} (h : CtrL y yc mL ret rm mc ms Q av post) : CtrL y yc mL ret rm mc ms (pM P Q) av (fun r U => ∃ P2, post r P2 ∧ U = pM P P2) := by
  intro l D cy sz p e ha hc hk s m args below hf happ hP hK
  obtain ⟨rfl, hB⟩ := hP
  obtain ⟨n, o, h1, h2, h3, ⟨⟨r, u, ho, hp, hA⟩, hF⟩, L, hL1, hL2⟩ := h l D cy sz p e ha hc hk s m _ below hf happ ⟨rfl, (pM_pre hB).2.1⟩ hK
  exact ⟨n, o, h1, h2, h3, ⟨⟨r, pM P u, ho, ⟨u, hp, rfl⟩, pM_post2 hB hA hF⟩, F_mono hF (fun _ => A_2)⟩, L, hL1, fun q hq => A_2 (hL2 q hq)⟩
theorem frV1 {post : PP → Prop} (h : CtrV y yc mL ret rm mc ms P av post) : CtrV y yc mL ret rm mc ms (pM P Q) av (fun U => ∃ P2, post P2 ∧ U = pM P2 Q) := by
  intro l D cy sz p e ha hc hk s m args below hf happ hP hK
  obtain ⟨rfl, hB⟩ := hP
  obtain ⟨n, o, h1, h2, h3, ⟨⟨u, ho, hp, hA⟩, hF⟩, L, hL1, hL2⟩ := h l D cy sz p e ha hc hk s m _ below hf happ ⟨rfl, (pM_pre hB).1⟩ hK
  exact ⟨n, o, h1, h2, h3, ⟨⟨pM u Q, ho, ⟨u, hp, rfl⟩, pM_post1 hB hA hF⟩, F_mono hF (fun _ => A_1)⟩, L, hL1, fun q hq => A_1 (hL2 q hq)⟩
theorem frV2 {post : PP → Prop} (h : CtrV y yc mL ret rm mc ms Q av post) : CtrV y yc mL ret rm mc ms (pM P Q) av (fun U => ∃ P2, post P2 ∧ U = pM P P2) := by
  intro l D cy sz p e ha hc hk s m args below hf happ hP hK
  obtain ⟨rfl, hB⟩ := hP
  obtain ⟨n, o, h1, h2, h3, ⟨⟨u, ho, hp, hA⟩, hF⟩, L, hL1, hL2⟩ := h l D cy sz p e ha hc hk s m _ below hf happ ⟨rfl, (pM_pre hB).2.1⟩ hK
  exact ⟨n, o, h1, h2, h3, ⟨⟨pM P u, ho, ⟨u, hp, rfl⟩, pM_post2 hB hA hF⟩, F_mono hF (fun _ => A_2)⟩, L, hL1, fun q hq => A_2 (hL2 q hq)⟩
theorem frQ1 {post : Option Nat → PP → Prop} (h : CtrQ y yc mL ret rm mc ms P av post) : CtrQ y yc mL ret rm mc ms (pM P Q) av (fun r U => ∃ P2, post r P2 ∧ U = pM P2 Q) := by
  intro l D cy sz p e ha hc hk s m args below hf happ hP hK
  obtain ⟨rfl, hB⟩ := hP
  obtain ⟨n, o, h1, h2, h3, ⟨⟨r, u, ho, hp, hA⟩, hF⟩, L, hL1, hL2⟩ := h l D cy sz p e ha hc hk s m _ below hf happ ⟨rfl, (pM_pre hB).1⟩ hK
  exact ⟨n, o, h1, h2, h3, ⟨⟨r, pM u Q, ho, ⟨u, hp, rfl⟩, pM_post1 hB hA hF⟩, F_mono hF (fun _ => A_1)⟩, L, hL1, fun q hq => A_1 (hL2 q hq)⟩
theorem frQ2 {post : Option Nat → PP → Prop} (h : CtrQ y yc mL ret rm mc ms Q av post) : CtrQ y yc mL ret rm mc ms (pM P Q) av (fun r U => ∃ P2, post r P2 ∧ U = pM P P2) := by
  intro l D cy sz p e ha hc hk s m args below hf happ hP hK
  obtain ⟨rfl, hB⟩ := hP
  obtain ⟨n, o, h1, h2, h3, ⟨⟨r, u, ho, hp, hA⟩, hF⟩, L, hL1, hL2⟩ := h l D cy sz p e ha hc hk s m _ below hf happ ⟨rfl, (pM_pre hB).2.1⟩ hK
  exact ⟨n, o, h1, h2, h3, ⟨⟨r, pM P u, ho, ⟨u, hp, rfl⟩, pM_post2 hB hA hF⟩, F_mono hF (fun _ => A_2)⟩, L, hL1, fun q hq => A_2 (hL2 q hq)⟩
end FR
/-- pools with the same cells -/
theorem g_pw {E : EV} {R : Room} {D : va_G} {cy : Nat → ClassId} {nL : Nat} {P P2 : PP} {cs sl pc : Nat} {lv : List (Nat × Value)} {st : List Value} (h : pw cy P = pw cy P2) (k : G E R D cy nL P2 cs sl pc lv st) : G E R D cy nL P cs sl pc lv st := by
  obtain ⟨p, l, e, s, m, args, below, meth, c, Q, A⟩ := E
  intro H locs ls hP hD hS hl
  rw [h] at hP hD
  exact k H locs ls hP hD hS hl
def p0 : PP := ([], fun _ => 0, fun _ => 0, fun _ _ => 0, fun _ _ => none, fun _ _ => 0)
theorem pNw_pM {cy : Nat → ClassId} {P : PP} {a kd n : Nat} (h : a ∉ pL P) : pw cy (pNw P a kd n) = pw cy (pM P (pNw p0 a kd n)) := by
  have h9 : pL (pNw p0 a kd n) = [a] := rfl
  rw [pM_pw (P := P) (Q := pNw p0 a kd n) (fun b hb => by rw [h9] at hb; rw [List.mem_singleton.mp hb]; exact h)]
  rw [← pw_push (cy := cy) (kd := kd) (n := n) (x := pe cy (pNw P a kd n) a) h rfl]
  congr 1
  show [(a, pe cy (pNw P a kd n) a)] = [(a, pe cy (pNw p0 a kd n) a)]
  rw [pe_off (P' := pNw P a kd n) (P := pNw p0 a kd n) (a := a) (by simp [pNw, pK, va_up]) (by simp [pNw, pN, va_up]) (by simp [pNw, pI, va_up]) (by simp [pNw, pR, va_up]) (by simp [pNw, pJ, va_up])]

theorem pM_sj {cy : Nat → ClassId} {P Q : PP} {o k : Nat} {v : Int64} (ho : o ∉ pL P) (hd : ∀ a, a ∈ pL Q → a ∉ pL P) : pw cy (pSJ (pM P Q) o k v) = pw cy (pM P (pSJ Q o k v)) := by
  rw [pM_pw (P := P) (Q := pSJ Q o k v) hd]
  show (pL P ++ pL Q).map (fun a => (a, pe cy (pSJ (pM P Q) o k v) a)) = (pL P).map (fun a => (a, pe cy P a)) ++ (pL Q).map (fun a => (a, pe cy (pSJ Q o k v) a))
  rw [List.map_append]
  congr 1
  · refine List.map_congr_left (fun a ha => ?_)
    have hne : a ≠ o := fun e => ho (e ▸ ha)
    rw [pe_off (P' := pSJ (pM P Q) o k v) (P := pM P Q) rfl rfl rfl rfl (by show va_up _ o _ a = _; rw [up_ne hne]), pM_e1 ha]
  · refine List.map_congr_left (fun a ha => ?_)
    have hnp : a ∉ pL P := hd a ha
    have e1 : pJ (pSJ (pM P Q) o k v) a = pJ (pSJ Q o k v) a := by
      show va_up (pJ (pM P Q)) o (va_up (pJ (pM P Q) o) k v) a = va_up (pJ Q) o (va_up (pJ Q o) k v) a
      have ej : ∀ c, c ∉ pL P → pJ (pM P Q) c = pJ Q c := fun c hc => by show (if c ∈ pL P then pJ P c else pJ Q c) = _; rw [if_neg hc]
      by_cases e : a = o
      · subst e; rw [up_self, up_self, ej a hnp]
      · rw [up_ne e, up_ne e, ej a hnp]
    rw [pe_off (P' := pSJ (pM P Q) o k v) (P := pSJ Q o k v) (by show (if a ∈ pL P then pK P a else pK Q a) = pK Q a; rw [if_neg hnp]) (by show (if a ∈ pL P then pN P a else pN Q a) = pN Q a; rw [if_neg hnp]) (by show (if a ∈ pL P then pI P a else pI Q a) = pI Q a; rw [if_neg hnp]) (by show (if a ∈ pL P then pR P a else pR Q a) = pR Q a; rw [if_neg hnp]) e1]
