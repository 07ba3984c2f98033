/-! THE JUDGEMENT -/
def tysL (cy : Nat → ClassId) : List (ClassId × FieldType) := [(cy 13, .int), (cy 14, .long), (cy 15, .boolean), (cy 16, .object RX0), (cy 17, .object RX1), (cy 18, .object RX5), (cy 19, .object RX6), (cy 20, .object RX7)]
abbrev EV : Type := Program × Launch × Env × State × MethodId × Array Value × List Frame × Method × Code × (State → Prop) × (Nat → Prop)
def G (E : EV) (R : Room) (D : va_G) (cy : Nat → ClassId) (nL : Nat) (P : PP) (cs sl pc : Nat) (lv : List (Nat × Value)) (st : List Value) : Prop := match E with
  | (p, l, e, s, m, args, below, meth, c, Q, A) => ∀ (H : Heap) (locs : List Loc) (ls : Array Slot), va_P D vwCl (pw cy P) H → va_D A (pw cy P) → va_S A s.heap H locs → lv_has ls nL lv → W p l e R s m args below meth c H locs cs sl Q (F0 m pc ls st)
/-- the class's four texts and the JDK's values beside them, outside the pool; their addresses stand in D behind the classes' -/
def lenS : List Nat := [4, 5, 3, 4]
def bytS : List (List Int32) := [[111, 100, 100, 115], [102, 105, 114, 115, 116], [115, 117, 109], [115, 101, 97, 108]]
def kxS : Nat → Nat := fun i => match i with
  | 0 => 42
  | 1 => 52
  | 2 => 63
  | _ => 71
def txS : Nat → String := fun i => match i with
  | 0 => "odds"
  | 1 => "first"
  | 2 => "sum"
  | _ => "seal"
def SX (D : va_G) (A : Nat → Prop) (U : State) (H : Heap) : Prop := vk_S 4 lenS bytS (D.2 100) (D.2 101) A U H ∧ (∀ i : Nat, i < 4 → vk_R RX4 (kxS i) (txS i) (D.2 100 i) U) ∧ va_Z "java/lang/String" "COMPACT_STRINGS" "Z" (.int 1) A U H ∧ va_Zq "jdk/internal/util/Preconditions" "SIOOBE_FORMATTER" "Ljava/util/function/BiFunction;" A U H
theorem SX.call {D : va_G} {A B : Nat → Prop} {s U : State} {H : Heap} {locs : List Loc} (h : SX D A s s.heap) (hW : s.WarmedH U.vm) (hU : U.heap = H) (hS : va_S A s.heap H locs) (hBA : ∀ q : Nat, B q → A q) : SX D B U U.heap := by
  rw [hU]
  exact ⟨((h.1.moved hW.alike).kept hS.2.1).narrow hBA, fun i hi => (h.2.1 i hi).warm hW, ((h.2.2.1.moved hW.alike).kept hS.2.1).narrow hBA, ((h.2.2.2.moved hW.alike).kept hS.2.1).narrow hBA⟩
def Cx (E : EV) (D : va_G) (cy : Nat → ClassId) (nL : Nat) (cc : ByteArray) (own : String) : Prop := match E with
  | (p, l, e, s, m, args, below, meth, c, Q, A) => p.tables.exec = Jvm.exec ∧ c.code = cc ∧ c.maxLocals = nL ∧ s.vm.findClass own = some m.cls ∧ TB s ∧ va_K D vwCl (tysL cy) s ∧ (∀ q : Nat, s.heap.size ≤ q → A q) ∧ meth.locks = false ∧ SX D A s s.heap
def Ci (E : EV) : Prop := match E with
  | (p, l, e, s, m, args, below, meth, c, Q, A) => meth.name = "<init>"
/-- an index and the place that it names -/
def IX (i : Int32) (n j : Nat) : Prop := i.toNatClampNeg = j ∧ vp_in i n
theorem IX.of {i : Int32} {n j : Nat} (h : i = nI j) (hj : j < n) (hn : n < 2 ^ 31) : IX i n j := by
  subst h; exact ⟨nI_clamp (by omega), vp_in_nI hj hn⟩
/-- the words of a field by an entry of a class's pool -/
def FI (own : String) (idx ci k t : Nat) (fin : Bool) : Prop := ∃ (Cn : String) (T : u_T) (N : Nat) (ty : Nat → FieldType), vwCl[ci]? = some (Cn, T, N) ∧ (∀ w ∈ u_ws Cn T N, TW w) ∧ (∀ k, k < N → parseFieldDescriptor (T k).2.2.1 = some (ty k)) ∧ (∀ a, a < N → ∀ b, b < N → a ≠ b → (T a).2.1 ≠ (T b).2.1) ∧ k < N ∧ TW (.fieldLink own idx (T k).1 (T k).2.1 (T k).2.2.1) ∧ (ft ci)[k]? = some t ∧ ci < 13 ∧ (T k).2.2.2 = fin ∧ (ft ci).length = N ∧ (T k).1 = Cn ∧ (match t with | 0 => ty k = .int | 1 => (∃ C, ty k = .object C) ∨ (∃ C, ty k = .array C) | 2 => ty k = .long | _ => ty k = .boolean)
section GR
variable {E : EV} {R : Room} {D : va_G} {cy : Nat → ClassId} {nL : Nat} {P : PP} {cs sl pc : Nat} {lv lv' : List (Nat × Value)} {st rest : List Value} {cc : ByteArray} {own : String}
theorem g_iconst (C : Cx E D cy nL cc own) {n : Int} {v : Int32} (d : decode cc pc = .ok (.iconst n, 1)) (hv : Int32.ofInt n = v) (k : G E R D cy nL P cs sl (pc + 1) lv (.int v :: rest)) : G E R D cy nL P cs sl pc lv rest := by
  obtain ⟨p, l, e, s, m, args, below, meth, c, Q, A⟩ := E
  obtain ⟨hx, hb, hml, hown, hT, hK, hA, hlk, hZ⟩ := C
  intro H locs ls hP hD hS hl
  exact lv_iconst hx hb d hv (k H locs ls hP hD hS hl)
theorem g_bipush (C : Cx E D cy nL cc own) {n : Int} {v : Int32} (d : decode cc pc = .ok (.bipush n, 2)) (hv : (Int8.ofInt n).toInt32 = v) (k : G E R D cy nL P cs sl (pc + 2) lv (.int v :: rest)) : G E R D cy nL P cs sl pc lv rest := by
  obtain ⟨p, l, e, s, m, args, below, meth, c, Q, A⟩ := E
  obtain ⟨hx, hb, hml, hown, hT, hK, hA, hlk, hZ⟩ := C
  intro H locs ls hP hD hS hl
  exact lv_bipush hx hb d hv (k H locs ls hP hD hS hl)
theorem g_sipush (C : Cx E D cy nL cc own) {n : Int} {v : Int32} (d : decode cc pc = .ok (.sipush n, 3)) (hv : (Int16.ofInt n).toInt32 = v) (k : G E R D cy nL P cs sl (pc + 3) lv (.int v :: rest)) : G E R D cy nL P cs sl pc lv rest := by
  obtain ⟨p, l, e, s, m, args, below, meth, c, Q, A⟩ := E
  obtain ⟨hx, hb, hml, hown, hT, hK, hA, hlk, hZ⟩ := C
  intro H locs ls hP hD hS hl
  exact lv_sipush hx hb d hv (k H locs ls hP hD hS hl)
theorem g_ldc (C : Cx E D cy nL cc own) {index : Nat} {v : Int32} (hw : TW (.constant own index v)) (d : decode cc pc = .ok (.ldc index, 2)) (k : G E R D cy nL P cs sl (pc + 2) lv (.int v :: rest)) : G E R D cy nL P cs sl pc lv rest := by
  obtain ⟨p, l, e, s, m, args, below, meth, c, Q, A⟩ := E
  obtain ⟨hx, hb, hml, hown, hT, hK, hA, hlk, hZ⟩ := C
  intro H locs ls hP hD hS hl
  exact lv_ldc hx hb hown (hw s hT args) d (k H locs ls hP hD hS hl)
theorem g_ldc2 (C : Cx E D cy nL cc own) {index : Nat} {v : Int64} (hw : TW (.constantLong own index v)) (d : decode cc pc = .ok (.ldc2_w index, 3)) (k : G E R D cy nL P cs sl (pc + 3) lv (.long v :: rest)) : G E R D cy nL P cs sl pc lv rest := by
  obtain ⟨p, l, e, s, m, args, below, meth, c, Q, A⟩ := E
  obtain ⟨hx, hb, hml, hown, hT, hK, hA, hlk, hZ⟩ := C
  intro H locs ls hP hD hS hl
  exact lv_ldc2 hx hb hown (hw s hT args) d (k H locs ls hP hD hS hl)
theorem g_lconst (C : Cx E D cy nL cc own) {n : Fin 2} {v : Int64} (d : decode cc pc = .ok (.lconst n, 1)) (hv : Int64.ofNat (n : Nat) = v) (k : G E R D cy nL P cs sl (pc + 1) lv (.long v :: rest)) : G E R D cy nL P cs sl pc lv rest := by
  obtain ⟨p, l, e, s, m, args, below, meth, c, Q, A⟩ := E
  obtain ⟨hx, hb, hml, hown, hT, hK, hA, hlk, hZ⟩ := C
  intro H locs ls hP hD hS hl
  exact lv_lconst hx hb d hv (k H locs ls hP hD hS hl)
theorem g_null (C : Cx E D cy nL cc own)  (d : decode cc pc = .ok (.aconst_null, 1)) (k : G E R D cy nL P cs sl (pc + 1) lv (.null :: rest)) : G E R D cy nL P cs sl pc lv rest := by
  obtain ⟨p, l, e, s, m, args, below, meth, c, Q, A⟩ := E
  obtain ⟨hx, hb, hml, hown, hT, hK, hA, hlk, hZ⟩ := C
  intro H locs ls hP hD hS hl
  exact lv_null hx hb d (k H locs ls hP hD hS hl)
theorem g_iload_n (C : Cx E D cy nL cc own) {z : Fin 4} {i : Nat} {x : Int32} (d : decode cc pc = .ok (.iload_n z, 1)) (hi : (z : Nat) = i) (j : Nat) (h : lv[j]? = some (i, .int x)) (k : G E R D cy nL P cs sl (pc + 1) lv (.int x :: rest)) : G E R D cy nL P cs sl pc lv rest := by
  obtain ⟨p, l, e, s, m, args, below, meth, c, Q, A⟩ := E
  obtain ⟨hx, hb, hml, hown, hT, hK, hA, hlk, hZ⟩ := C
  intro H locs ls hP hD hS hl
  exact lv_iload_n hx hb d hi (lv_at hl j h) (k H locs ls hP hD hS hl)
theorem g_iload (C : Cx E D cy nL cc own) {i : Nat} {x : Int32} (d : decode cc pc = .ok (.iload i, 2)) (j : Nat) (h : lv[j]? = some (i, .int x)) (k : G E R D cy nL P cs sl (pc + 2) lv (.int x :: rest)) : G E R D cy nL P cs sl pc lv rest := by
  obtain ⟨p, l, e, s, m, args, below, meth, c, Q, A⟩ := E
  obtain ⟨hx, hb, hml, hown, hT, hK, hA, hlk, hZ⟩ := C
  intro H locs ls hP hD hS hl
  exact lv_iload hx hb d (lv_at hl j h) (k H locs ls hP hD hS hl)
theorem g_lload_n (C : Cx E D cy nL cc own) {z : Fin 4} {i : Nat} {x : Int64} (d : decode cc pc = .ok (.lload_n z, 1)) (hi : (z : Nat) = i) (j : Nat) (h : lv[j]? = some (i, .long x)) (k : G E R D cy nL P cs sl (pc + 1) lv (.long x :: rest)) : G E R D cy nL P cs sl pc lv rest := by
  obtain ⟨p, l, e, s, m, args, below, meth, c, Q, A⟩ := E
  obtain ⟨hx, hb, hml, hown, hT, hK, hA, hlk, hZ⟩ := C
  intro H locs ls hP hD hS hl
  exact lv_lload_n hx hb d hi (lv_at hl j h) (k H locs ls hP hD hS hl)
theorem g_lload (C : Cx E D cy nL cc own) {i : Nat} {x : Int64} (d : decode cc pc = .ok (.lload i, 2)) (j : Nat) (h : lv[j]? = some (i, .long x)) (k : G E R D cy nL P cs sl (pc + 2) lv (.long x :: rest)) : G E R D cy nL P cs sl pc lv rest := by
  obtain ⟨p, l, e, s, m, args, below, meth, c, Q, A⟩ := E
  obtain ⟨hx, hb, hml, hown, hT, hK, hA, hlk, hZ⟩ := C
  intro H locs ls hP hD hS hl
  exact lv_lload hx hb d (lv_at hl j h) (k H locs ls hP hD hS hl)
theorem g_aload_n (C : Cx E D cy nL cc own) {z : Fin 4} {i : Nat} {x : Nat} (d : decode cc pc = .ok (.aload_n z, 1)) (hi : (z : Nat) = i) (j : Nat) (h : lv[j]? = some (i, .ref x)) (k : G E R D cy nL P cs sl (pc + 1) lv (.ref x :: rest)) : G E R D cy nL P cs sl pc lv rest := by
  obtain ⟨p, l, e, s, m, args, below, meth, c, Q, A⟩ := E
  obtain ⟨hx, hb, hml, hown, hT, hK, hA, hlk, hZ⟩ := C
  intro H locs ls hP hD hS hl
  exact lv_aload_n hx hb d hi (lv_at hl j h) (k H locs ls hP hD hS hl)
theorem g_aload (C : Cx E D cy nL cc own) {i : Nat} {x : Nat} (d : decode cc pc = .ok (.aload i, 2)) (j : Nat) (h : lv[j]? = some (i, .ref x)) (k : G E R D cy nL P cs sl (pc + 2) lv (.ref x :: rest)) : G E R D cy nL P cs sl pc lv rest := by
  obtain ⟨p, l, e, s, m, args, below, meth, c, Q, A⟩ := E
  obtain ⟨hx, hb, hml, hown, hT, hK, hA, hlk, hZ⟩ := C
  intro H locs ls hP hD hS hl
  exact lv_aload hx hb d (lv_at hl j h) (k H locs ls hP hD hS hl)
theorem g_aload_nN (C : Cx E D cy nL cc own) {z : Fin 4} {i : Nat} (d : decode cc pc = .ok (.aload_n z, 1)) (hi : (z : Nat) = i) (j : Nat) (h : lv[j]? = some (i, .null)) (k : G E R D cy nL P cs sl (pc + 1) lv (.null :: rest)) : G E R D cy nL P cs sl pc lv rest := by
  obtain ⟨p, l, e, s, m, args, below, meth, c, Q, A⟩ := E
  obtain ⟨hx, hb, hml, hown, hT, hK, hA, hlk, hZ⟩ := C
  intro H locs ls hP hD hS hl
  exact lv_aload_nN hx hb d hi (lv_at hl j h) (k H locs ls hP hD hS hl)
theorem g_istore_n (C : Cx E D cy nL cc own) {z : Fin 4} {i : Nat} {x : Int32} (d : decode cc pc = .ok (.istore_n z, 1)) (hi : (z : Nat) = i) (hn : i < nL) (hv : (i, Value.int x) :: lv.filter (fun q => !(q.1 == i) && !(q.1 + 1 == i && q.2.category == 2)) = lv') (k : G E R D cy nL P cs sl (pc + 1) lv' rest) : G E R D cy nL P cs sl pc lv (.int x :: rest) := by
  obtain ⟨p, l, e, s, m, args, below, meth, c, Q, A⟩ := E
  obtain ⟨hx, hb, hml, hown, hT, hK, hA, hlk, hZ⟩ := C
  intro H locs ls hP hD hS hl
  exact lv_istore_n hx hb d hi hl hn hv (fun ls' hl' => k H locs ls' hP hD hS hl')
theorem g_istore (C : Cx E D cy nL cc own) {i : Nat} {x : Int32} (d : decode cc pc = .ok (.istore i, 2)) (hn : i < nL) (hv : (i, Value.int x) :: lv.filter (fun q => !(q.1 == i) && !(q.1 + 1 == i && q.2.category == 2)) = lv') (k : G E R D cy nL P cs sl (pc + 2) lv' rest) : G E R D cy nL P cs sl pc lv (.int x :: rest) := by
  obtain ⟨p, l, e, s, m, args, below, meth, c, Q, A⟩ := E
  obtain ⟨hx, hb, hml, hown, hT, hK, hA, hlk, hZ⟩ := C
  intro H locs ls hP hD hS hl
  exact lv_istore hx hb d hl hn hv (fun ls' hl' => k H locs ls' hP hD hS hl')
theorem g_lstore_n (C : Cx E D cy nL cc own) {z : Fin 4} {i : Nat} {x : Int64} (d : decode cc pc = .ok (.lstore_n z, 1)) (hi : (z : Nat) = i) (hn : i + 1 < nL) (hv : (i, Value.long x) :: lv.filter (fun q => !(q.1 == i) && (!(q.1 == i + 1) && !(q.1 + 1 == i && q.2.category == 2))) = lv') (k : G E R D cy nL P cs sl (pc + 1) lv' rest) : G E R D cy nL P cs sl pc lv (.long x :: rest) := by
  obtain ⟨p, l, e, s, m, args, below, meth, c, Q, A⟩ := E
  obtain ⟨hx, hb, hml, hown, hT, hK, hA, hlk, hZ⟩ := C
  intro H locs ls hP hD hS hl
  exact lv_lstore_n hx hb d hi hl hn hv (fun ls' hl' => k H locs ls' hP hD hS hl')
theorem g_lstore (C : Cx E D cy nL cc own) {i : Nat} {x : Int64} (d : decode cc pc = .ok (.lstore i, 2)) (hn : i + 1 < nL) (hv : (i, Value.long x) :: lv.filter (fun q => !(q.1 == i) && (!(q.1 == i + 1) && !(q.1 + 1 == i && q.2.category == 2))) = lv') (k : G E R D cy nL P cs sl (pc + 2) lv' rest) : G E R D cy nL P cs sl pc lv (.long x :: rest) := by
  obtain ⟨p, l, e, s, m, args, below, meth, c, Q, A⟩ := E
  obtain ⟨hx, hb, hml, hown, hT, hK, hA, hlk, hZ⟩ := C
  intro H locs ls hP hD hS hl
  exact lv_lstore hx hb d hl hn hv (fun ls' hl' => k H locs ls' hP hD hS hl')
theorem g_astore_n (C : Cx E D cy nL cc own) {z : Fin 4} {i : Nat} {x : Nat} (d : decode cc pc = .ok (.astore_n z, 1)) (hi : (z : Nat) = i) (hn : i < nL) (hv : (i, Value.ref x) :: lv.filter (fun q => !(q.1 == i) && !(q.1 + 1 == i && q.2.category == 2)) = lv') (k : G E R D cy nL P cs sl (pc + 1) lv' rest) : G E R D cy nL P cs sl pc lv (.ref x :: rest) := by
  obtain ⟨p, l, e, s, m, args, below, meth, c, Q, A⟩ := E
  obtain ⟨hx, hb, hml, hown, hT, hK, hA, hlk, hZ⟩ := C
  intro H locs ls hP hD hS hl
  exact lv_astore_n hx hb d hi hl hn hv (fun ls' hl' => k H locs ls' hP hD hS hl')
theorem g_astore (C : Cx E D cy nL cc own) {i : Nat} {x : Nat} (d : decode cc pc = .ok (.astore i, 2)) (hn : i < nL) (hv : (i, Value.ref x) :: lv.filter (fun q => !(q.1 == i) && !(q.1 + 1 == i && q.2.category == 2)) = lv') (k : G E R D cy nL P cs sl (pc + 2) lv' rest) : G E R D cy nL P cs sl pc lv (.ref x :: rest) := by
  obtain ⟨p, l, e, s, m, args, below, meth, c, Q, A⟩ := E
  obtain ⟨hx, hb, hml, hown, hT, hK, hA, hlk, hZ⟩ := C
  intro H locs ls hP hD hS hl
  exact lv_astore hx hb d hl hn hv (fun ls' hl' => k H locs ls' hP hD hS hl')
theorem g_iinc (C : Cx E D cy nL cc own) {i : Nat} {n : Int} {x v : Int32} (d : decode cc pc = .ok (.iinc i n, 3)) (j : Nat) (h : lv[j]? = some (i, .int x)) (hv : x + Int32.ofInt n = v) (hn : i < nL) (hw : (i, Value.int v) :: lv.filter (fun q => !(q.1 == i) && !(q.1 + 1 == i && q.2.category == 2)) = lv') (k : G E R D cy nL P cs sl (pc + 3) lv' rest) : G E R D cy nL P cs sl pc lv rest := by
  obtain ⟨p, l, e, s, m, args, below, meth, c, Q, A⟩ := E
  obtain ⟨hx, hb, hml, hown, hT, hK, hA, hlk, hZ⟩ := C
  intro H locs ls hP hD hS hl
  exact lv_iinc hx hb d hl h hv hn hw (fun ls' hl' => k H locs ls' hP hD hS hl')
theorem g_iadd (C : Cx E D cy nL cc own) {x y : Int32} (d : decode cc pc = .ok (.iadd, 1)) (k : G E R D cy nL P cs sl (pc + 1) lv (.int (x + y) :: rest)) : G E R D cy nL P cs sl pc lv (.int y :: .int x :: rest) := by
  obtain ⟨p, l, e, s, m, args, below, meth, c, Q, A⟩ := E
  obtain ⟨hx, hb, hml, hown, hT, hK, hA, hlk, hZ⟩ := C
  intro H locs ls hP hD hS hl
  exact lv_iadd hx hb d (k H locs ls hP hD hS hl)
theorem g_isub (C : Cx E D cy nL cc own) {x y : Int32} (d : decode cc pc = .ok (.isub, 1)) (k : G E R D cy nL P cs sl (pc + 1) lv (.int (x - y) :: rest)) : G E R D cy nL P cs sl pc lv (.int y :: .int x :: rest) := by
  obtain ⟨p, l, e, s, m, args, below, meth, c, Q, A⟩ := E
  obtain ⟨hx, hb, hml, hown, hT, hK, hA, hlk, hZ⟩ := C
  intro H locs ls hP hD hS hl
  exact lv_isub hx hb d (k H locs ls hP hD hS hl)
theorem g_imul (C : Cx E D cy nL cc own) {x y : Int32} (d : decode cc pc = .ok (.imul, 1)) (k : G E R D cy nL P cs sl (pc + 1) lv (.int (x * y) :: rest)) : G E R D cy nL P cs sl pc lv (.int y :: .int x :: rest) := by
  obtain ⟨p, l, e, s, m, args, below, meth, c, Q, A⟩ := E
  obtain ⟨hx, hb, hml, hown, hT, hK, hA, hlk, hZ⟩ := C
  intro H locs ls hP hD hS hl
  exact lv_imul hx hb d (k H locs ls hP hD hS hl)
theorem g_iand (C : Cx E D cy nL cc own) {x y : Int32} (d : decode cc pc = .ok (.iand, 1)) (k : G E R D cy nL P cs sl (pc + 1) lv (.int (x &&& y) :: rest)) : G E R D cy nL P cs sl pc lv (.int y :: .int x :: rest) := by
  obtain ⟨p, l, e, s, m, args, below, meth, c, Q, A⟩ := E
  obtain ⟨hx, hb, hml, hown, hT, hK, hA, hlk, hZ⟩ := C
  intro H locs ls hP hD hS hl
  exact lv_iand hx hb d (k H locs ls hP hD hS hl)
theorem g_ior (C : Cx E D cy nL cc own) {x y : Int32} (d : decode cc pc = .ok (.ior, 1)) (k : G E R D cy nL P cs sl (pc + 1) lv (.int (x ||| y) :: rest)) : G E R D cy nL P cs sl pc lv (.int y :: .int x :: rest) := by
  obtain ⟨p, l, e, s, m, args, below, meth, c, Q, A⟩ := E
  obtain ⟨hx, hb, hml, hown, hT, hK, hA, hlk, hZ⟩ := C
  intro H locs ls hP hD hS hl
  exact lv_ior hx hb d (k H locs ls hP hD hS hl)
theorem g_ixor (C : Cx E D cy nL cc own) {x y : Int32} (d : decode cc pc = .ok (.ixor, 1)) (k : G E R D cy nL P cs sl (pc + 1) lv (.int (x ^^^ y) :: rest)) : G E R D cy nL P cs sl pc lv (.int y :: .int x :: rest) := by
  obtain ⟨p, l, e, s, m, args, below, meth, c, Q, A⟩ := E
  obtain ⟨hx, hb, hml, hown, hT, hK, hA, hlk, hZ⟩ := C
  intro H locs ls hP hD hS hl
  exact lv_ixor hx hb d (k H locs ls hP hD hS hl)
theorem g_ishl (C : Cx E D cy nL cc own) {x y : Int32} (d : decode cc pc = .ok (.ishl, 1)) (k : G E R D cy nL P cs sl (pc + 1) lv (.int (x <<< (y &&& 31)) :: rest)) : G E R D cy nL P cs sl pc lv (.int y :: .int x :: rest) := by
  obtain ⟨p, l, e, s, m, args, below, meth, c, Q, A⟩ := E
  obtain ⟨hx, hb, hml, hown, hT, hK, hA, hlk, hZ⟩ := C
  intro H locs ls hP hD hS hl
  exact lv_ishl hx hb d (k H locs ls hP hD hS hl)
theorem g_ishr (C : Cx E D cy nL cc own) {x y : Int32} (d : decode cc pc = .ok (.ishr, 1)) (k : G E R D cy nL P cs sl (pc + 1) lv (.int (x >>> (y &&& 31)) :: rest)) : G E R D cy nL P cs sl pc lv (.int y :: .int x :: rest) := by
  obtain ⟨p, l, e, s, m, args, below, meth, c, Q, A⟩ := E
  obtain ⟨hx, hb, hml, hown, hT, hK, hA, hlk, hZ⟩ := C
  intro H locs ls hP hD hS hl
  exact lv_ishr hx hb d (k H locs ls hP hD hS hl)
theorem g_iushr (C : Cx E D cy nL cc own) {x y v : Int32} (d : decode cc pc = .ok (.iushr, 1)) (hv : (x.toUInt32 >>> (y.toUInt32 &&& Int32.toUInt32 31)).toInt32 = v) (k : G E R D cy nL P cs sl (pc + 1) lv (.int v :: rest)) : G E R D cy nL P cs sl pc lv (.int y :: .int x :: rest) := by
  obtain ⟨p, l, e, s, m, args, below, meth, c, Q, A⟩ := E
  obtain ⟨hx, hb, hml, hown, hT, hK, hA, hlk, hZ⟩ := C
  intro H locs ls hP hD hS hl
  exact lv_iushr hx hb d hv (k H locs ls hP hD hS hl)
theorem g_ineg (C : Cx E D cy nL cc own) {x : Int32} (d : decode cc pc = .ok (.ineg, 1)) (k : G E R D cy nL P cs sl (pc + 1) lv (.int (-x) :: rest)) : G E R D cy nL P cs sl pc lv (.int x :: rest) := by
  obtain ⟨p, l, e, s, m, args, below, meth, c, Q, A⟩ := E
  obtain ⟨hx, hb, hml, hown, hT, hK, hA, hlk, hZ⟩ := C
  intro H locs ls hP hD hS hl
  exact lv_ineg hx hb d (k H locs ls hP hD hS hl)
theorem g_idiv (C : Cx E D cy nL cc own) {x y : Int32} (d : decode cc pc = .ok (.idiv, 1)) (hne : ¬ y = 0) (k : G E R D cy nL P cs sl (pc + 1) lv (.int (x / y) :: rest)) : G E R D cy nL P cs sl pc lv (.int y :: .int x :: rest) := by
  obtain ⟨p, l, e, s, m, args, below, meth, c, Q, A⟩ := E
  obtain ⟨hx, hb, hml, hown, hT, hK, hA, hlk, hZ⟩ := C
  intro H locs ls hP hD hS hl
  exact lv_idiv hx hb d hne (k H locs ls hP hD hS hl)
theorem g_irem (C : Cx E D cy nL cc own) {x y : Int32} (d : decode cc pc = .ok (.irem, 1)) (hne : ¬ y = 0) (k : G E R D cy nL P cs sl (pc + 1) lv (.int (x - x / y * y) :: rest)) : G E R D cy nL P cs sl pc lv (.int y :: .int x :: rest) := by
  obtain ⟨p, l, e, s, m, args, below, meth, c, Q, A⟩ := E
  obtain ⟨hx, hb, hml, hown, hT, hK, hA, hlk, hZ⟩ := C
  intro H locs ls hP hD hS hl
  exact lv_irem hx hb d hne (k H locs ls hP hD hS hl)
theorem g_ladd (C : Cx E D cy nL cc own) {x y : Int64} (d : decode cc pc = .ok (.ladd, 1)) (k : G E R D cy nL P cs sl (pc + 1) lv (.long (x + y) :: rest)) : G E R D cy nL P cs sl pc lv (.long y :: .long x :: rest) := by
  obtain ⟨p, l, e, s, m, args, below, meth, c, Q, A⟩ := E
  obtain ⟨hx, hb, hml, hown, hT, hK, hA, hlk, hZ⟩ := C
  intro H locs ls hP hD hS hl
  exact lv_ladd hx hb d (k H locs ls hP hD hS hl)
theorem g_lsub (C : Cx E D cy nL cc own) {x y : Int64} (d : decode cc pc = .ok (.lsub, 1)) (k : G E R D cy nL P cs sl (pc + 1) lv (.long (x - y) :: rest)) : G E R D cy nL P cs sl pc lv (.long y :: .long x :: rest) := by
  obtain ⟨p, l, e, s, m, args, below, meth, c, Q, A⟩ := E
  obtain ⟨hx, hb, hml, hown, hT, hK, hA, hlk, hZ⟩ := C
  intro H locs ls hP hD hS hl
  exact lv_lsub hx hb d (k H locs ls hP hD hS hl)
theorem g_lmul (C : Cx E D cy nL cc own) {x y : Int64} (d : decode cc pc = .ok (.lmul, 1)) (k : G E R D cy nL P cs sl (pc + 1) lv (.long (x * y) :: rest)) : G E R D cy nL P cs sl pc lv (.long y :: .long x :: rest) := by
  obtain ⟨p, l, e, s, m, args, below, meth, c, Q, A⟩ := E
  obtain ⟨hx, hb, hml, hown, hT, hK, hA, hlk, hZ⟩ := C
  intro H locs ls hP hD hS hl
  exact lv_lmul hx hb d (k H locs ls hP hD hS hl)
theorem g_land (C : Cx E D cy nL cc own) {x y : Int64} (d : decode cc pc = .ok (.land, 1)) (k : G E R D cy nL P cs sl (pc + 1) lv (.long (x &&& y) :: rest)) : G E R D cy nL P cs sl pc lv (.long y :: .long x :: rest) := by
  obtain ⟨p, l, e, s, m, args, below, meth, c, Q, A⟩ := E
  obtain ⟨hx, hb, hml, hown, hT, hK, hA, hlk, hZ⟩ := C
  intro H locs ls hP hD hS hl
  exact lv_land hx hb d (k H locs ls hP hD hS hl)
theorem g_lor (C : Cx E D cy nL cc own) {x y : Int64} (d : decode cc pc = .ok (.lor, 1)) (k : G E R D cy nL P cs sl (pc + 1) lv (.long (x ||| y) :: rest)) : G E R D cy nL P cs sl pc lv (.long y :: .long x :: rest) := by
  obtain ⟨p, l, e, s, m, args, below, meth, c, Q, A⟩ := E
  obtain ⟨hx, hb, hml, hown, hT, hK, hA, hlk, hZ⟩ := C
  intro H locs ls hP hD hS hl
  exact lv_lor hx hb d (k H locs ls hP hD hS hl)
theorem g_lxor (C : Cx E D cy nL cc own) {x y : Int64} (d : decode cc pc = .ok (.lxor, 1)) (k : G E R D cy nL P cs sl (pc + 1) lv (.long (x ^^^ y) :: rest)) : G E R D cy nL P cs sl pc lv (.long y :: .long x :: rest) := by
  obtain ⟨p, l, e, s, m, args, below, meth, c, Q, A⟩ := E
  obtain ⟨hx, hb, hml, hown, hT, hK, hA, hlk, hZ⟩ := C
  intro H locs ls hP hD hS hl
  exact lv_lxor hx hb d (k H locs ls hP hD hS hl)
theorem g_ldiv (C : Cx E D cy nL cc own) {x y : Int64} (d : decode cc pc = .ok (.ldiv, 1)) (hne : ¬ y = 0) (k : G E R D cy nL P cs sl (pc + 1) lv (.long (x / y) :: rest)) : G E R D cy nL P cs sl pc lv (.long y :: .long x :: rest) := by
  obtain ⟨p, l, e, s, m, args, below, meth, c, Q, A⟩ := E
  obtain ⟨hx, hb, hml, hown, hT, hK, hA, hlk, hZ⟩ := C
  intro H locs ls hP hD hS hl
  exact lv_ldiv hx hb d hne (k H locs ls hP hD hS hl)
theorem g_lrem (C : Cx E D cy nL cc own) {x y : Int64} (d : decode cc pc = .ok (.lrem, 1)) (hne : ¬ y = 0) (k : G E R D cy nL P cs sl (pc + 1) lv (.long (x - x / y * y) :: rest)) : G E R D cy nL P cs sl pc lv (.long y :: .long x :: rest) := by
  obtain ⟨p, l, e, s, m, args, below, meth, c, Q, A⟩ := E
  obtain ⟨hx, hb, hml, hown, hT, hK, hA, hlk, hZ⟩ := C
  intro H locs ls hP hD hS hl
  exact lv_lrem hx hb d hne (k H locs ls hP hD hS hl)
theorem g_lushr (C : Cx E D cy nL cc own) {x v : Int64} {y : Int32} (d : decode cc pc = .ok (.lushr, 1)) (hv : (x.toUInt64 >>> (y.toInt64.toUInt64 &&& Int64.toUInt64 63)).toInt64 = v) (k : G E R D cy nL P cs sl (pc + 1) lv (.long v :: rest)) : G E R D cy nL P cs sl pc lv (.int y :: .long x :: rest) := by
  obtain ⟨p, l, e, s, m, args, below, meth, c, Q, A⟩ := E
  obtain ⟨hx, hb, hml, hown, hT, hK, hA, hlk, hZ⟩ := C
  intro H locs ls hP hD hS hl
  exact lv_lushr hx hb d hv (k H locs ls hP hD hS hl)
theorem g_lshr (C : Cx E D cy nL cc own) {x v : Int64} {y : Int32} (d : decode cc pc = .ok (.lshr, 1)) (hv : x >>> (y.toInt64 &&& 63) = v) (k : G E R D cy nL P cs sl (pc + 1) lv (.long v :: rest)) : G E R D cy nL P cs sl pc lv (.int y :: .long x :: rest) := by
  obtain ⟨p, l, e, s, m, args, below, meth, c, Q, A⟩ := E
  obtain ⟨hx, hb, hml, hown, hT, hK, hA, hlk, hZ⟩ := C
  intro H locs ls hP hD hS hl
  exact lv_lshr hx hb d hv (k H locs ls hP hD hS hl)
theorem g_lshl (C : Cx E D cy nL cc own) {x v : Int64} {y : Int32} (d : decode cc pc = .ok (.lshl, 1)) (hv : x <<< (y.toInt64 &&& 63) = v) (k : G E R D cy nL P cs sl (pc + 1) lv (.long v :: rest)) : G E R D cy nL P cs sl pc lv (.int y :: .long x :: rest) := by
  obtain ⟨p, l, e, s, m, args, below, meth, c, Q, A⟩ := E
  obtain ⟨hx, hb, hml, hown, hT, hK, hA, hlk, hZ⟩ := C
  intro H locs ls hP hD hS hl
  exact lv_lshl hx hb d hv (k H locs ls hP hD hS hl)
theorem g_i2l (C : Cx E D cy nL cc own) {x : Int32} {v : Int64} (d : decode cc pc = .ok (.i2l, 1)) (hv : x.toInt64 = v) (k : G E R D cy nL P cs sl (pc + 1) lv (.long v :: rest)) : G E R D cy nL P cs sl pc lv (.int x :: rest) := by
  obtain ⟨p, l, e, s, m, args, below, meth, c, Q, A⟩ := E
  obtain ⟨hx, hb, hml, hown, hT, hK, hA, hlk, hZ⟩ := C
  intro H locs ls hP hD hS hl
  exact lv_i2l hx hb d hv (k H locs ls hP hD hS hl)
theorem g_l2i (C : Cx E D cy nL cc own) {x : Int64} {v : Int32} (d : decode cc pc = .ok (.l2i, 1)) (hv : x.toInt32 = v) (k : G E R D cy nL P cs sl (pc + 1) lv (.int v :: rest)) : G E R D cy nL P cs sl pc lv (.long x :: rest) := by
  obtain ⟨p, l, e, s, m, args, below, meth, c, Q, A⟩ := E
  obtain ⟨hx, hb, hml, hown, hT, hK, hA, hlk, hZ⟩ := C
  intro H locs ls hP hD hS hl
  exact lv_l2i hx hb d hv (k H locs ls hP hD hS hl)
theorem g_lcmp (C : Cx E D cy nL cc own) {x y : Int64} (d : decode cc pc = .ok (.lcmp, 1)) (k : G E R D cy nL P cs sl (pc + 1) lv (.int (lg_cmp x y) :: rest)) : G E R D cy nL P cs sl pc lv (.long y :: .long x :: rest) := by
  obtain ⟨p, l, e, s, m, args, below, meth, c, Q, A⟩ := E
  obtain ⟨hx, hb, hml, hown, hT, hK, hA, hlk, hZ⟩ := C
  intro H locs ls hP hD hS hl
  exact W.lcmp hx hb d (k H locs ls hP hD hS hl)
theorem g_dup (C : Cx E D cy nL cc own) {va : Value} (d : decode cc pc = .ok (.dup, 1)) (hva : va.category = 1) (k : G E R D cy nL P cs sl (pc + 1) lv (va :: va :: rest)) : G E R D cy nL P cs sl pc lv (va :: rest) := by
  obtain ⟨p, l, e, s, m, args, below, meth, c, Q, A⟩ := E
  obtain ⟨hx, hb, hml, hown, hT, hK, hA, hlk, hZ⟩ := C
  intro H locs ls hP hD hS hl
  exact lv_dup hx hb d hva (k H locs ls hP hD hS hl)
theorem g_pop (C : Cx E D cy nL cc own) {va : Value} (d : decode cc pc = .ok (.pop, 1)) (hva : va.category = 1) (k : G E R D cy nL P cs sl (pc + 1) lv rest) : G E R D cy nL P cs sl pc lv (va :: rest) := by
  obtain ⟨p, l, e, s, m, args, below, meth, c, Q, A⟩ := E
  obtain ⟨hx, hb, hml, hown, hT, hK, hA, hlk, hZ⟩ := C
  intro H locs ls hP hD hS hl
  exact lv_pop hx hb d hva (k H locs ls hP hD hS hl)
theorem g_dup_x1 (C : Cx E D cy nL cc own) {va vb : Value} (d : decode cc pc = .ok (.dup_x1, 1)) (hva : va.category = 1) (hvb : vb.category = 1) (k : G E R D cy nL P cs sl (pc + 1) lv (va :: vb :: va :: rest)) : G E R D cy nL P cs sl pc lv (va :: vb :: rest) := by
  obtain ⟨p, l, e, s, m, args, below, meth, c, Q, A⟩ := E
  obtain ⟨hx, hb, hml, hown, hT, hK, hA, hlk, hZ⟩ := C
  intro H locs ls hP hD hS hl
  exact lv_dup_x1 hx hb d hva hvb (k H locs ls hP hD hS hl)
theorem g_dup_x2 (C : Cx E D cy nL cc own) {va vb vc : Value} (d : decode cc pc = .ok (.dup_x2, 1)) (hva : va.category = 1) (hvb : vb.category = 1) (hvc : vc.category = 1) (k : G E R D cy nL P cs sl (pc + 1) lv (va :: vb :: vc :: va :: rest)) : G E R D cy nL P cs sl pc lv (va :: vb :: vc :: rest) := by
  obtain ⟨p, l, e, s, m, args, below, meth, c, Q, A⟩ := E
  obtain ⟨hx, hb, hml, hown, hT, hK, hA, hlk, hZ⟩ := C
  intro H locs ls hP hD hS hl
  exact lv_dup_x2 hx hb d hva hvb hvc (k H locs ls hP hD hS hl)
theorem g_dup2_11 (C : Cx E D cy nL cc own) {va vb : Value} (d : decode cc pc = .ok (.dup2, 1)) (hva : va.category = 1) (hvb : vb.category = 1) (k : G E R D cy nL P cs sl (pc + 1) lv (va :: vb :: va :: vb :: rest)) : G E R D cy nL P cs sl pc lv (va :: vb :: rest) := by
  obtain ⟨p, l, e, s, m, args, below, meth, c, Q, A⟩ := E
  obtain ⟨hx, hb, hml, hown, hT, hK, hA, hlk, hZ⟩ := C
  intro H locs ls hP hD hS hl
  exact lv_dup2_11 hx hb d hva hvb (k H locs ls hP hD hS hl)
theorem g_topi {x : Int32} (k : ∀ y : Int32, y = x → G E R D cy nL P cs sl pc lv (.int y :: rest)) : G E R D cy nL P cs sl pc lv (.int x :: rest) := k x rfl
theorem g_topl {x : Int64} (k : ∀ y : Int64, y = x → G E R D cy nL P cs sl pc lv (.long y :: rest)) : G E R D cy nL P cs sl pc lv (.long x :: rest) := k x rfl
theorem g_st {st2 : List Value} (h : st = st2) (k : G E R D cy nL P cs sl pc lv st2) : G E R D cy nL P cs sl pc lv st := h ▸ k
theorem g_lv (js : List Nat) (h : lv_pick lv js = lv') (k : G E R D cy nL P cs sl pc lv' st) : G E R D cy nL P cs sl pc lv st := by
  obtain ⟨p, l, e, s, m, args, below, meth, c, Q, A⟩ := E
  exact fun H locs ls hP hD hS hl => k H locs ls hP hD hS (lv_sub hl js h)
theorem g_widen {cs2 sl2 : Nat} (h1 : cs ≤ cs2) (h2 : sl ≤ sl2) (k : G E R D cy nL P cs2 sl2 pc lv st) : G E R D cy nL P cs sl pc lv st := by
  obtain ⟨p, l, e, s, m, args, below, meth, c, Q, A⟩ := E
  exact fun H locs ls hP hD hS hl => W.widen h1 h2 (k H locs ls hP hD hS hl)
theorem g_if_eq (C : Cx E D cy nL cc own) {x : Int32} {off : Int} (tgt : Nat) (d : decode cc pc = .ok (.ifCond .eq off, 3)) (ht : (pc : Int) + off = (tgt : Int)) (kt : x = 0 → G E R D cy nL P cs sl tgt lv rest) (kf : ¬ (x = 0) → G E R D cy nL P cs sl (pc + 3) lv rest) : G E R D cy nL P cs sl pc lv (.int x :: rest) := by
  obtain ⟨p, l, e, s, m, args, below, meth, c, Q, A⟩ := E
  obtain ⟨hx, hb, hml, hown, hT, hK, hA, hlk, hZ⟩ := C
  intro H locs ls hP hD hS hl
  exact lv_if_eq hx hb d ht (fun q => kt q H locs ls hP hD hS hl) (fun q => kf q H locs ls hP hD hS hl)
theorem g_icmp_eq (C : Cx E D cy nL cc own) {x y : Int32} {off : Int} (tgt : Nat) (d : decode cc pc = .ok (.if_icmp .eq off, 3)) (ht : (pc : Int) + off = (tgt : Int)) (kt : x = y → G E R D cy nL P cs sl tgt lv rest) (kf : ¬ (x = y) → G E R D cy nL P cs sl (pc + 3) lv rest) : G E R D cy nL P cs sl pc lv (.int y :: .int x :: rest) := by
  obtain ⟨p, l, e, s, m, args, below, meth, c, Q, A⟩ := E
  obtain ⟨hx, hb, hml, hown, hT, hK, hA, hlk, hZ⟩ := C
  intro H locs ls hP hD hS hl
  exact lv_icmp_eq hx hb d ht (fun q => kt q H locs ls hP hD hS hl) (fun q => kf q H locs ls hP hD hS hl)
theorem g_if_ne (C : Cx E D cy nL cc own) {x : Int32} {off : Int} (tgt : Nat) (d : decode cc pc = .ok (.ifCond .ne off, 3)) (ht : (pc : Int) + off = (tgt : Int)) (kt : ¬ x = 0 → G E R D cy nL P cs sl tgt lv rest) (kf : x = 0 → G E R D cy nL P cs sl (pc + 3) lv rest) : G E R D cy nL P cs sl pc lv (.int x :: rest) := by
  obtain ⟨p, l, e, s, m, args, below, meth, c, Q, A⟩ := E
  obtain ⟨hx, hb, hml, hown, hT, hK, hA, hlk, hZ⟩ := C
  intro H locs ls hP hD hS hl
  exact lv_if_ne hx hb d ht (fun q => kt q H locs ls hP hD hS hl) (fun q => kf q H locs ls hP hD hS hl)
theorem g_icmp_ne (C : Cx E D cy nL cc own) {x y : Int32} {off : Int} (tgt : Nat) (d : decode cc pc = .ok (.if_icmp .ne off, 3)) (ht : (pc : Int) + off = (tgt : Int)) (kt : ¬ x = y → G E R D cy nL P cs sl tgt lv rest) (kf : x = y → G E R D cy nL P cs sl (pc + 3) lv rest) : G E R D cy nL P cs sl pc lv (.int y :: .int x :: rest) := by
  obtain ⟨p, l, e, s, m, args, below, meth, c, Q, A⟩ := E
  obtain ⟨hx, hb, hml, hown, hT, hK, hA, hlk, hZ⟩ := C
  intro H locs ls hP hD hS hl
  exact lv_icmp_ne hx hb d ht (fun q => kt q H locs ls hP hD hS hl) (fun q => kf q H locs ls hP hD hS hl)
theorem g_if_lt (C : Cx E D cy nL cc own) {x : Int32} {off : Int} (tgt : Nat) (d : decode cc pc = .ok (.ifCond .lt off, 3)) (ht : (pc : Int) + off = (tgt : Int)) (kt : x < 0 → G E R D cy nL P cs sl tgt lv rest) (kf : ¬ (x < 0) → G E R D cy nL P cs sl (pc + 3) lv rest) : G E R D cy nL P cs sl pc lv (.int x :: rest) := by
  obtain ⟨p, l, e, s, m, args, below, meth, c, Q, A⟩ := E
  obtain ⟨hx, hb, hml, hown, hT, hK, hA, hlk, hZ⟩ := C
  intro H locs ls hP hD hS hl
  exact lv_if_lt hx hb d ht (fun q => kt q H locs ls hP hD hS hl) (fun q => kf q H locs ls hP hD hS hl)
theorem g_icmp_lt (C : Cx E D cy nL cc own) {x y : Int32} {off : Int} (tgt : Nat) (d : decode cc pc = .ok (.if_icmp .lt off, 3)) (ht : (pc : Int) + off = (tgt : Int)) (kt : x < y → G E R D cy nL P cs sl tgt lv rest) (kf : ¬ (x < y) → G E R D cy nL P cs sl (pc + 3) lv rest) : G E R D cy nL P cs sl pc lv (.int y :: .int x :: rest) := by
  obtain ⟨p, l, e, s, m, args, below, meth, c, Q, A⟩ := E
  obtain ⟨hx, hb, hml, hown, hT, hK, hA, hlk, hZ⟩ := C
  intro H locs ls hP hD hS hl
  exact lv_icmp_lt hx hb d ht (fun q => kt q H locs ls hP hD hS hl) (fun q => kf q H locs ls hP hD hS hl)
theorem g_if_ge (C : Cx E D cy nL cc own) {x : Int32} {off : Int} (tgt : Nat) (d : decode cc pc = .ok (.ifCond .ge off, 3)) (ht : (pc : Int) + off = (tgt : Int)) (kt : 0 ≤ x → G E R D cy nL P cs sl tgt lv rest) (kf : ¬ (0 ≤ x) → G E R D cy nL P cs sl (pc + 3) lv rest) : G E R D cy nL P cs sl pc lv (.int x :: rest) := by
  obtain ⟨p, l, e, s, m, args, below, meth, c, Q, A⟩ := E
  obtain ⟨hx, hb, hml, hown, hT, hK, hA, hlk, hZ⟩ := C
  intro H locs ls hP hD hS hl
  exact lv_if_ge hx hb d ht (fun q => kt q H locs ls hP hD hS hl) (fun q => kf q H locs ls hP hD hS hl)
theorem g_icmp_ge (C : Cx E D cy nL cc own) {x y : Int32} {off : Int} (tgt : Nat) (d : decode cc pc = .ok (.if_icmp .ge off, 3)) (ht : (pc : Int) + off = (tgt : Int)) (kt : y ≤ x → G E R D cy nL P cs sl tgt lv rest) (kf : ¬ (y ≤ x) → G E R D cy nL P cs sl (pc + 3) lv rest) : G E R D cy nL P cs sl pc lv (.int y :: .int x :: rest) := by
  obtain ⟨p, l, e, s, m, args, below, meth, c, Q, A⟩ := E
  obtain ⟨hx, hb, hml, hown, hT, hK, hA, hlk, hZ⟩ := C
  intro H locs ls hP hD hS hl
  exact lv_icmp_ge hx hb d ht (fun q => kt q H locs ls hP hD hS hl) (fun q => kf q H locs ls hP hD hS hl)
theorem g_if_gt (C : Cx E D cy nL cc own) {x : Int32} {off : Int} (tgt : Nat) (d : decode cc pc = .ok (.ifCond .gt off, 3)) (ht : (pc : Int) + off = (tgt : Int)) (kt : 0 < x → G E R D cy nL P cs sl tgt lv rest) (kf : ¬ (0 < x) → G E R D cy nL P cs sl (pc + 3) lv rest) : G E R D cy nL P cs sl pc lv (.int x :: rest) := by
  obtain ⟨p, l, e, s, m, args, below, meth, c, Q, A⟩ := E
  obtain ⟨hx, hb, hml, hown, hT, hK, hA, hlk, hZ⟩ := C
  intro H locs ls hP hD hS hl
  exact lv_if_gt hx hb d ht (fun q => kt q H locs ls hP hD hS hl) (fun q => kf q H locs ls hP hD hS hl)
theorem g_icmp_gt (C : Cx E D cy nL cc own) {x y : Int32} {off : Int} (tgt : Nat) (d : decode cc pc = .ok (.if_icmp .gt off, 3)) (ht : (pc : Int) + off = (tgt : Int)) (kt : y < x → G E R D cy nL P cs sl tgt lv rest) (kf : ¬ (y < x) → G E R D cy nL P cs sl (pc + 3) lv rest) : G E R D cy nL P cs sl pc lv (.int y :: .int x :: rest) := by
  obtain ⟨p, l, e, s, m, args, below, meth, c, Q, A⟩ := E
  obtain ⟨hx, hb, hml, hown, hT, hK, hA, hlk, hZ⟩ := C
  intro H locs ls hP hD hS hl
  exact lv_icmp_gt hx hb d ht (fun q => kt q H locs ls hP hD hS hl) (fun q => kf q H locs ls hP hD hS hl)
theorem g_if_le (C : Cx E D cy nL cc own) {x : Int32} {off : Int} (tgt : Nat) (d : decode cc pc = .ok (.ifCond .le off, 3)) (ht : (pc : Int) + off = (tgt : Int)) (kt : x ≤ 0 → G E R D cy nL P cs sl tgt lv rest) (kf : ¬ (x ≤ 0) → G E R D cy nL P cs sl (pc + 3) lv rest) : G E R D cy nL P cs sl pc lv (.int x :: rest) := by
  obtain ⟨p, l, e, s, m, args, below, meth, c, Q, A⟩ := E
  obtain ⟨hx, hb, hml, hown, hT, hK, hA, hlk, hZ⟩ := C
  intro H locs ls hP hD hS hl
  exact lv_if_le hx hb d ht (fun q => kt q H locs ls hP hD hS hl) (fun q => kf q H locs ls hP hD hS hl)
theorem g_icmp_le (C : Cx E D cy nL cc own) {x y : Int32} {off : Int} (tgt : Nat) (d : decode cc pc = .ok (.if_icmp .le off, 3)) (ht : (pc : Int) + off = (tgt : Int)) (kt : x ≤ y → G E R D cy nL P cs sl tgt lv rest) (kf : ¬ (x ≤ y) → G E R D cy nL P cs sl (pc + 3) lv rest) : G E R D cy nL P cs sl pc lv (.int y :: .int x :: rest) := by
  obtain ⟨p, l, e, s, m, args, below, meth, c, Q, A⟩ := E
  obtain ⟨hx, hb, hml, hown, hT, hK, hA, hlk, hZ⟩ := C
  intro H locs ls hP hD hS hl
  exact lv_icmp_le hx hb d ht (fun q => kt q H locs ls hP hD hS hl) (fun q => kf q H locs ls hP hD hS hl)
theorem g_goto (C : Cx E D cy nL cc own) {off : Int} (tgt : Nat) (d : decode cc pc = .ok (.goto off, 3)) (ht : (pc : Int) + off = (tgt : Int)) (k : G E R D cy nL P cs sl tgt lv rest) : G E R D cy nL P cs sl pc lv rest := by
  obtain ⟨p, l, e, s, m, args, below, meth, c, Q, A⟩ := E
  obtain ⟨hx, hb, hml, hown, hT, hK, hA, hlk, hZ⟩ := C
  intro H locs ls hP hD hS hl
  exact lv_goto hx hb d ht (k H locs ls hP hD hS hl)
theorem g_ifnull (C : Cx E D cy nL cc own) {x : Nat} {off : Int} (d : decode cc pc = .ok (.ifnull off, 3)) (k : G E R D cy nL P cs sl (pc + 3) lv rest) : G E R D cy nL P cs sl pc lv (.ref x :: rest) := by
  obtain ⟨p, l, e, s, m, args, below, meth, c, Q, A⟩ := E
  obtain ⟨hx, hb, hml, hown, hT, hK, hA, hlk, hZ⟩ := C
  intro H locs ls hP hD hS hl
  exact lv_ifnull hx hb d (k H locs ls hP hD hS hl)
theorem g_ifnullN (C : Cx E D cy nL cc own) {off : Int} (tgt : Nat) (d : decode cc pc = .ok (.ifnull off, 3)) (ht : (pc : Int) + off = (tgt : Int)) (k : G E R D cy nL P cs sl tgt lv rest) : G E R D cy nL P cs sl pc lv (.null :: rest) := by
  obtain ⟨p, l, e, s, m, args, below, meth, c, Q, A⟩ := E
  obtain ⟨hx, hb, hml, hown, hT, hK, hA, hlk, hZ⟩ := C
  intro H locs ls hP hD hS hl
  exact lv_ifnullN hx hb d ht (k H locs ls hP hD hS hl)
theorem g_ifnonnull (C : Cx E D cy nL cc own) {x : Nat} {off : Int} (tgt : Nat) (d : decode cc pc = .ok (.ifnonnull off, 3)) (ht : (pc : Int) + off = (tgt : Int)) (k : G E R D cy nL P cs sl tgt lv rest) : G E R D cy nL P cs sl pc lv (.ref x :: rest) := by
  obtain ⟨p, l, e, s, m, args, below, meth, c, Q, A⟩ := E
  obtain ⟨hx, hb, hml, hown, hT, hK, hA, hlk, hZ⟩ := C
  intro H locs ls hP hD hS hl
  exact lv_ifnonnull hx hb d ht (k H locs ls hP hD hS hl)
theorem g_ifnonnullN (C : Cx E D cy nL cc own) {off : Int} (d : decode cc pc = .ok (.ifnonnull off, 3)) (k : G E R D cy nL P cs sl (pc + 3) lv rest) : G E R D cy nL P cs sl pc lv (.null :: rest) := by
  obtain ⟨p, l, e, s, m, args, below, meth, c, Q, A⟩ := E
  obtain ⟨hx, hb, hml, hown, hT, hK, hA, hlk, hZ⟩ := C
  intro H locs ls hP hD hS hl
  exact lv_ifnonnullN hx hb d (k H locs ls hP hD hS hl)
theorem g_tableIn (C : Cx E D cy nL cc own) {dflt lo hi : Int} {offs : Array Int} {len : Nat} {x : Int32} {off : Int} (tgt : Nat) (d : decode cc pc = .ok (.tableswitch dflt lo hi offs, len)) (h1 : ¬ x.toInt < lo) (h2 : ¬ hi < x.toInt) (ho : offs[(x.toInt - lo).toNat]? = some off) (ht : (pc : Int) + off = (tgt : Int)) (k : G E R D cy nL P cs sl tgt lv rest) : G E R D cy nL P cs sl pc lv (.int x :: rest) := by
  obtain ⟨p, l, e, s, m, args, below, meth, c, Q, A⟩ := E
  obtain ⟨hx, hb, hml, hown, hT, hK, hA, hlk, hZ⟩ := C
  intro H locs ls hP hD hS hl
  exact lv_tableIn hx hb d h1 h2 ho ht (k H locs ls hP hD hS hl)
theorem g_tableOut (C : Cx E D cy nL cc own) {dflt lo hi : Int} {offs : Array Int} {len : Nat} {x : Int32} (tgt : Nat) (d : decode cc pc = .ok (.tableswitch dflt lo hi offs, len)) (h : x.toInt < lo ∨ hi < x.toInt) (ht : (pc : Int) + dflt = (tgt : Int)) (k : G E R D cy nL P cs sl tgt lv rest) : G E R D cy nL P cs sl pc lv (.int x :: rest) := by
  obtain ⟨p, l, e, s, m, args, below, meth, c, Q, A⟩ := E
  obtain ⟨hx, hb, hml, hown, hT, hK, hA, hlk, hZ⟩ := C
  intro H locs ls hP hD hS hl
  exact lv_tableOut hx hb d h ht (k H locs ls hP hD hS hl)
theorem g_getI (C : Cx E D cy nL cc own) {idx ci k t a : Nat} {fin : Bool} (f : FI own idx ci k t fin) (ht : t ≠ 1 ∧ t ≠ 2) (haL : a ∈ pL P) (haK : pK P a = ci) (d : decode cc pc = .ok (.getfield idx, 3)) (kk : G E R D cy nL P cs sl (pc + 3) lv (.int (pI P a k) :: rest)) : G E R D cy nL P cs sl pc lv (.ref a :: rest) := by
  obtain ⟨p, l, e, s, m, args, below, meth, c, Q, A⟩ := E
  obtain ⟨hx, hb, hml, hown, hT, hK, hA, hlk, hZ⟩ := C
  intro H locs ls hP hD hS hl
  obtain ⟨Cn, T, N, ty, hc, hin, hty, hnm, hk, hl9, hft, hci, hfin, hlen, hdecl, hk9⟩ := f
  obtain ⟨q0, hq⟩ := pw_get (cy := cy) haL
  rw [pe_obj haK hci] at hq
  exact va_get hx hb (fun w hw => hin w hw s hT args) (fun w hw => hw) hown hK hP q0 hq hc k hk (hl9 s hT args) (fun _ h9 => h9) ((fl_get _ _ _ _ hft).trans (congrArg some (show fv t P a k = .int (pI P a k) by simp [fv, ht.1, ht.2]))) d (kk H locs ls hP hD hS hl)
theorem g_getQ (C : Cx E D cy nL cc own) {idx ci k t a : Nat} {fin : Bool} (f : FI own idx ci k t fin) (ht : t = 1) (haL : a ∈ pL P) (haK : pK P a = ci) (d : decode cc pc = .ok (.getfield idx, 3)) (kk : G E R D cy nL P cs sl (pc + 3) lv (va_rf (pR P a k) :: rest)) : G E R D cy nL P cs sl pc lv (.ref a :: rest) := by
  obtain ⟨p, l, e, s, m, args, below, meth, c, Q, A⟩ := E
  obtain ⟨hx, hb, hml, hown, hT, hK, hA, hlk, hZ⟩ := C
  intro H locs ls hP hD hS hl
  obtain ⟨Cn, T, N, ty, hc, hin, hty, hnm, hk, hl9, hft, hci, hfin, hlen, hdecl, hk9⟩ := f
  obtain ⟨q0, hq⟩ := pw_get (cy := cy) haL
  rw [pe_obj haK hci] at hq
  exact va_get hx hb (fun w hw => hin w hw s hT args) (fun w hw => hw) hown hK hP q0 hq hc k hk (hl9 s hT args) (fun _ h9 => h9) ((fl_get _ _ _ _ hft).trans (congrArg some (show fv t P a k = va_rf (pR P a k) by simp [fv, ht]))) d (kk H locs ls hP hD hS hl)
theorem g_getR (C : Cx E D cy nL cc own) {idx ci k t a : Nat} {fin : Bool} {b : Nat} (f : FI own idx ci k t fin) (ht : t = 1) (hv : pR P a k = some b) (haL : a ∈ pL P) (haK : pK P a = ci) (d : decode cc pc = .ok (.getfield idx, 3)) (kk : G E R D cy nL P cs sl (pc + 3) lv (.ref b :: rest)) : G E R D cy nL P cs sl pc lv (.ref a :: rest) := by
  obtain ⟨p, l, e, s, m, args, below, meth, c, Q, A⟩ := E
  obtain ⟨hx, hb, hml, hown, hT, hK, hA, hlk, hZ⟩ := C
  intro H locs ls hP hD hS hl
  obtain ⟨Cn, T, N, ty, hc, hin, hty, hnm, hk, hl9, hft, hci, hfin, hlen, hdecl, hk9⟩ := f
  obtain ⟨q0, hq⟩ := pw_get (cy := cy) haL
  rw [pe_obj haK hci] at hq
  exact va_get hx hb (fun w hw => hin w hw s hT args) (fun w hw => hw) hown hK hP q0 hq hc k hk (hl9 s hT args) (fun _ h9 => h9) ((fl_get _ _ _ _ hft).trans (congrArg some (show fv t P a k = .ref b by simp [fv, ht, hv, va_rf]))) d (kk H locs ls hP hD hS hl)
theorem g_getJ (C : Cx E D cy nL cc own) {idx ci k t a : Nat} {fin : Bool} (f : FI own idx ci k t fin) (ht : t = 2) (haL : a ∈ pL P) (haK : pK P a = ci) (d : decode cc pc = .ok (.getfield idx, 3)) (kk : G E R D cy nL P cs sl (pc + 3) lv (.long (pJ P a k) :: rest)) : G E R D cy nL P cs sl pc lv (.ref a :: rest) := by
  obtain ⟨p, l, e, s, m, args, below, meth, c, Q, A⟩ := E
  obtain ⟨hx, hb, hml, hown, hT, hK, hA, hlk, hZ⟩ := C
  intro H locs ls hP hD hS hl
  obtain ⟨Cn, T, N, ty, hc, hin, hty, hnm, hk, hl9, hft, hci, hfin, hlen, hdecl, hk9⟩ := f
  obtain ⟨q0, hq⟩ := pw_get (cy := cy) haL
  rw [pe_obj haK hci] at hq
  exact va_get hx hb (fun w hw => hin w hw s hT args) (fun w hw => hw) hown hK hP q0 hq hc k hk (hl9 s hT args) (fun _ h9 => h9) ((fl_get _ _ _ _ hft).trans (congrArg some (show fv t P a k = .long (pJ P a k) by simp [fv, ht]))) d (kk H locs ls hP hD hS hl)
theorem g_putI (C : Cx E D cy nL cc own) {idx ci k t a : Nat} {v : Int32} (f : FI own idx ci k t false) (ht : t = 0) (haL : a ∈ pL P) (haK : pK P a = ci) (d : decode cc pc = .ok (.putfield idx, 3)) (kk : G E R D cy nL (pSI P a k v) cs sl (pc + 3) lv rest) : G E R D cy nL P cs sl pc lv (.int v :: .ref a :: rest) := by
  obtain ⟨p, l, e, s, m, args, below, meth, c, Q, A⟩ := E
  obtain ⟨hx, hb, hml, hown, hT, hK, hA, hlk, hZ⟩ := C
  intro H locs ls hP hD hS hl
  obtain ⟨Cn, T, N, ty, hc, hin, hty, hnm, hk, hl9, hft, hci, hfin, hlen, hdecl, hk9⟩ := f
  obtain ⟨q0, hq⟩ := pw_get (cy := cy) haL
  have hq2 := hq
  rw [pe_obj haK hci] at hq
  refine va_put hx hb (fun w hw => hin w hw s hT args) (fun w hw => hw) ty hty hnm hown hK hP hD hS q0 hq hc k hk (hl9 s hT args) (fun _ h9 => h9) hfin (hty k hk) (by subst ht; rw [hk9]; rfl) (by subst ht; rw [hk9]; rfl) (by rw [fl_len, hlen]; exact hk) d (fun H1 locs1 hP1 hD1 hS1 => ?_)
  have e9 := pw_set (P' := pSI P a k v) (x := .inr (ci, (fl (ft ci) P a).set k (.int v))) hD haL hq2 rfl (pe_SI haK hci hft (by omega) (by omega))
  rw [e9] at hP1 hD1
  exact kk H1 locs1 ls hP1 hD1 hS1 hl
theorem g_putZ (C : Cx E D cy nL cc own) {idx ci k t a : Nat} {v : Int32} (f : FI own idx ci k t false) (ht : t = 3) (hv : v = 0 ∨ v = 1) (haL : a ∈ pL P) (haK : pK P a = ci) (d : decode cc pc = .ok (.putfield idx, 3)) (kk : G E R D cy nL (pSI P a k v) cs sl (pc + 3) lv rest) : G E R D cy nL P cs sl pc lv (.int v :: .ref a :: rest) := by
  obtain ⟨p, l, e, s, m, args, below, meth, c, Q, A⟩ := E
  obtain ⟨hx, hb, hml, hown, hT, hK, hA, hlk, hZ⟩ := C
  intro H locs ls hP hD hS hl
  obtain ⟨Cn, T, N, ty, hc, hin, hty, hnm, hk, hl9, hft, hci, hfin, hlen, hdecl, hk9⟩ := f
  obtain ⟨q0, hq⟩ := pw_get (cy := cy) haL
  have hq2 := hq
  rw [pe_obj haK hci] at hq
  refine va_put hx hb (fun w hw => hin w hw s hT args) (fun w hw => hw) ty hty hnm hown hK hP hD hS q0 hq hc k hk (hl9 s hT args) (fun _ h9 => h9) hfin (hty k hk) (by subst ht; rw [hk9]; rcases hv with rfl | rfl <;> rfl) (by subst ht; rw [hk9]; rcases hv with rfl | rfl <;> rfl) (by rw [fl_len, hlen]; exact hk) d (fun H1 locs1 hP1 hD1 hS1 => ?_)
  have e9 := pw_set (P' := pSI P a k v) (x := .inr (ci, (fl (ft ci) P a).set k (.int v))) hD haL hq2 rfl (pe_SI haK hci hft (by omega) (by omega))
  rw [e9] at hP1 hD1
  exact kk H1 locs1 ls hP1 hD1 hS1 hl
theorem g_putR (C : Cx E D cy nL cc own) {idx ci k t a : Nat} {v : Nat} (f : FI own idx ci k t false) (ht : t = 1) (haL : a ∈ pL P) (haK : pK P a = ci) (d : decode cc pc = .ok (.putfield idx, 3)) (kk : G E R D cy nL (pSR P a k (some v)) cs sl (pc + 3) lv rest) : G E R D cy nL P cs sl pc lv (.ref v :: .ref a :: rest) := by
  obtain ⟨p, l, e, s, m, args, below, meth, c, Q, A⟩ := E
  obtain ⟨hx, hb, hml, hown, hT, hK, hA, hlk, hZ⟩ := C
  intro H locs ls hP hD hS hl
  obtain ⟨Cn, T, N, ty, hc, hin, hty, hnm, hk, hl9, hft, hci, hfin, hlen, hdecl, hk9⟩ := f
  obtain ⟨q0, hq⟩ := pw_get (cy := cy) haL
  have hq2 := hq
  rw [pe_obj haK hci] at hq
  refine va_put hx hb (fun w hw => hin w hw s hT args) (fun w hw => hw) ty hty hnm hown hK hP hD hS q0 hq hc k hk (hl9 s hT args) (fun _ h9 => h9) hfin (hty k hk) (by subst ht; rcases hk9 with ⟨_, e⟩ | ⟨_, e⟩ <;> rw [e] <;> rfl) (by subst ht; rcases hk9 with ⟨_, e⟩ | ⟨_, e⟩ <;> rw [e] <;> rfl) (by rw [fl_len, hlen]; exact hk) d (fun H1 locs1 hP1 hD1 hS1 => ?_)
  have e9 := pw_set (P' := pSR P a k (some v)) (x := .inr (ci, (fl (ft ci) P a).set k (.ref v))) hD haL hq2 rfl (fun b => by subst ht; exact pe_SR (v := some v) haK hci hft b)
  rw [e9] at hP1 hD1
  exact kk H1 locs1 ls hP1 hD1 hS1 hl
theorem g_putJ (C : Cx E D cy nL cc own) {idx ci k t a : Nat} {v : Int64} (f : FI own idx ci k t false) (ht : t = 2) (haL : a ∈ pL P) (haK : pK P a = ci) (d : decode cc pc = .ok (.putfield idx, 3)) (kk : G E R D cy nL (pSJ P a k v) cs sl (pc + 3) lv rest) : G E R D cy nL P cs sl pc lv (.long v :: .ref a :: rest) := by
  obtain ⟨p, l, e, s, m, args, below, meth, c, Q, A⟩ := E
  obtain ⟨hx, hb, hml, hown, hT, hK, hA, hlk, hZ⟩ := C
  intro H locs ls hP hD hS hl
  obtain ⟨Cn, T, N, ty, hc, hin, hty, hnm, hk, hl9, hft, hci, hfin, hlen, hdecl, hk9⟩ := f
  obtain ⟨q0, hq⟩ := pw_get (cy := cy) haL
  have hq2 := hq
  rw [pe_obj haK hci] at hq
  refine va_put hx hb (fun w hw => hin w hw s hT args) (fun w hw => hw) ty hty hnm hown hK hP hD hS q0 hq hc k hk (hl9 s hT args) (fun _ h9 => h9) hfin (hty k hk) (by subst ht; rw [hk9]; rfl) (by subst ht; rw [hk9]; rfl) (by rw [fl_len, hlen]; exact hk) d (fun H1 locs1 hP1 hD1 hS1 => ?_)
  have e9 := pw_set (P' := pSJ P a k v) (x := .inr (ci, (fl (ft ci) P a).set k (.long v))) hD haL hq2 rfl (fun b => by subst ht; exact pe_SJ haK hci hft b)
  rw [e9] at hP1 hD1
  exact kk H1 locs1 ls hP1 hD1 hS1 hl
theorem g_putFI (C : Cx E D cy nL cc own) {idx ci k t a : Nat} {v : Int32} (f : FI own idx ci k t true) (ci9 : Ci E) (ho : ∃ r, vwCl[ci]? = some r ∧ r.1 = own) (ht : t = 0) (haL : a ∈ pL P) (haK : pK P a = ci) (d : decode cc pc = .ok (.putfield idx, 3)) (kk : G E R D cy nL (pSI P a k v) cs sl (pc + 3) lv rest) : G E R D cy nL P cs sl pc lv (.int v :: .ref a :: rest) := by
  obtain ⟨p, l, e, s, m, args, below, meth, c, Q, A⟩ := E
  obtain ⟨hx, hb, hml, hown, hT, hK, hA, hlk, hZ⟩ := C
  intro H locs ls hP hD hS hl
  obtain ⟨Cn, T, N, ty, hc, hin, hty, hnm, hk, hl9, hft, hci, hfin, hlen, hdecl, hk9⟩ := f
  obtain ⟨q0, hq⟩ := pw_get (cy := cy) haL
  have hq2 := hq
  rw [pe_obj haK hci] at hq
  refine va_putF hx hb (fun w hw => hin w hw s hT args) (fun w hw => hw) ty hty hnm hown hK hP hD hS q0 hq hc k hk (hl9 s hT args) (fun _ h9 => h9) hfin ci9 (by obtain ⟨r, h1, h2⟩ := ho; rw [hc] at h1; cases h1; rw [hdecl]; exact h2) (hty k hk) (by subst ht; rw [hk9]; rfl) (by subst ht; rw [hk9]; rfl) (by rw [fl_len, hlen]; exact hk) d (fun H1 locs1 hP1 hD1 hS1 => ?_)
  have e9 := pw_set (P' := pSI P a k v) (x := .inr (ci, (fl (ft ci) P a).set k (.int v))) hD haL hq2 rfl (pe_SI haK hci hft (by omega) (by omega))
  rw [e9] at hP1 hD1
  exact kk H1 locs1 ls hP1 hD1 hS1 hl
theorem g_putFR (C : Cx E D cy nL cc own) {idx ci k t a : Nat} {v : Nat} (f : FI own idx ci k t true) (ci9 : Ci E) (ho : ∃ r, vwCl[ci]? = some r ∧ r.1 = own) (ht : t = 1) (haL : a ∈ pL P) (haK : pK P a = ci) (d : decode cc pc = .ok (.putfield idx, 3)) (kk : G E R D cy nL (pSR P a k (some v)) cs sl (pc + 3) lv rest) : G E R D cy nL P cs sl pc lv (.ref v :: .ref a :: rest) := by
  obtain ⟨p, l, e, s, m, args, below, meth, c, Q, A⟩ := E
  obtain ⟨hx, hb, hml, hown, hT, hK, hA, hlk, hZ⟩ := C
  intro H locs ls hP hD hS hl
  obtain ⟨Cn, T, N, ty, hc, hin, hty, hnm, hk, hl9, hft, hci, hfin, hlen, hdecl, hk9⟩ := f
  obtain ⟨q0, hq⟩ := pw_get (cy := cy) haL
  have hq2 := hq
  rw [pe_obj haK hci] at hq
  refine va_putF hx hb (fun w hw => hin w hw s hT args) (fun w hw => hw) ty hty hnm hown hK hP hD hS q0 hq hc k hk (hl9 s hT args) (fun _ h9 => h9) hfin ci9 (by obtain ⟨r, h1, h2⟩ := ho; rw [hc] at h1; cases h1; rw [hdecl]; exact h2) (hty k hk) (by subst ht; rcases hk9 with ⟨_, e⟩ | ⟨_, e⟩ <;> rw [e] <;> rfl) (by subst ht; rcases hk9 with ⟨_, e⟩ | ⟨_, e⟩ <;> rw [e] <;> rfl) (by rw [fl_len, hlen]; exact hk) d (fun H1 locs1 hP1 hD1 hS1 => ?_)
  have e9 := pw_set (P' := pSR P a k (some v)) (x := .inr (ci, (fl (ft ci) P a).set k (.ref v))) hD haL hq2 rfl (fun b => by subst ht; exact pe_SR (v := some v) haK hci hft b)
  rw [e9] at hP1 hD1
  exact kk H1 locs1 ls hP1 hD1 hS1 hl
theorem g_iald (C : Cx E D cy nL cc own) {a j : Nat} {i : Int32} (haL : a ∈ pL P) (haK : pK P a = 13) (hi : IX i (pN P a) j) (d : decode cc pc = .ok (.iaload, 1)) (kk : G E R D cy nL P cs sl (pc + 1) lv (.int (pI P a j) :: rest)) : G E R D cy nL P cs sl pc lv (.int i :: .ref a :: rest) := by
  obtain ⟨p, l, e, s, m, args, below, meth, c, Q, A⟩ := E
  obtain ⟨hx, hb, hml, hown, hT, hK, hA, hlk, hZ⟩ := C
  intro H locs ls hP hD hS hl
  obtain ⟨rfl, hin⟩ := hi
  obtain ⟨q0, hq⟩ := pw_get (cy := cy) haL
  rw [pe_int haK (by decide)] at hq
  exact va_iald hx hb hK hP q0 0 hq rfl hin d (kk H locs ls hP hD hS hl)
theorem g_zald (C : Cx E D cy nL cc own) {a j : Nat} {i : Int32} (haL : a ∈ pL P) (haK : pK P a = 15) (hi : IX i (pN P a) j) (d : decode cc pc = .ok (.baload, 1)) (kk : G E R D cy nL P cs sl (pc + 1) lv (.int (pI P a j) :: rest)) : G E R D cy nL P cs sl pc lv (.int i :: .ref a :: rest) := by
  obtain ⟨p, l, e, s, m, args, below, meth, c, Q, A⟩ := E
  obtain ⟨hx, hb, hml, hown, hT, hK, hA, hlk, hZ⟩ := C
  intro H locs ls hP hD hS hl
  obtain ⟨rfl, hin⟩ := hi
  obtain ⟨q0, hq⟩ := pw_get (cy := cy) haL
  rw [pe_int haK (by decide)] at hq
  exact va_zald hx hb hK hP q0 2 hq rfl hin d (kk H locs ls hP hD hS hl)
theorem g_lald (C : Cx E D cy nL cc own) {a j : Nat} {i : Int32} (haL : a ∈ pL P) (haK : pK P a = 14) (hi : IX i (pN P a) j) (d : decode cc pc = .ok (.laload, 1)) (kk : G E R D cy nL P cs sl (pc + 1) lv (.long (pJ P a j) :: rest)) : G E R D cy nL P cs sl pc lv (.int i :: .ref a :: rest) := by
  obtain ⟨p, l, e, s, m, args, below, meth, c, Q, A⟩ := E
  obtain ⟨hx, hb, hml, hown, hT, hK, hA, hlk, hZ⟩ := C
  intro H locs ls hP hD hS hl
  obtain ⟨rfl, hin⟩ := hi
  obtain ⟨q0, hq⟩ := pw_get (cy := cy) haL
  rw [pe_lng haK] at hq
  exact va_lald hx hb hK hP q0 1 hq rfl hin d (kk H locs ls hP hD hS hl)
theorem g_iast (C : Cx E D cy nL cc own) {a j : Nat} {i : Int32} {x : Int32} (haL : a ∈ pL P) (haK : pK P a = 13) (hi : IX i (pN P a) j) (d : decode cc pc = .ok (.iastore, 1)) (kk : G E R D cy nL (pSI P a j x) cs sl (pc + 1) lv rest) : G E R D cy nL P cs sl pc lv (.int x :: .int i :: .ref a :: rest) := by
  obtain ⟨p, l, e, s, m, args, below, meth, c, Q, A⟩ := E
  obtain ⟨hx, hb, hml, hown, hT, hK, hA, hlk, hZ⟩ := C
  intro H locs ls hP hD hS hl
  obtain ⟨rfl, hin⟩ := hi
  obtain ⟨q0, hq⟩ := pw_get (cy := cy) haL
  have hq2 := hq
  rw [pe_int haK (by decide)] at hq
  refine va_iast hx hb hK hP hD hS q0 0 hq rfl hin d (fun H1 locs1 hP1 hD1 hS1 => ?_)
  have e9 := pw_set (P' := pSI P a i.toNatClampNeg x) (x := .inl (cy 13, pN P a, .inl (upd (pI P a) i.toNatClampNeg x))) hD haL hq2 rfl (pe_AI haK (by decide))
  rw [e9] at hP1 hD1
  exact kk H1 locs1 ls hP1 hD1 hS1 hl
theorem g_last (C : Cx E D cy nL cc own) {a j : Nat} {i : Int32} {x : Int64} (haL : a ∈ pL P) (haK : pK P a = 14) (hi : IX i (pN P a) j) (d : decode cc pc = .ok (.lastore, 1)) (kk : G E R D cy nL (pSJ P a j x) cs sl (pc + 1) lv rest) : G E R D cy nL P cs sl pc lv (.long x :: .int i :: .ref a :: rest) := by
  obtain ⟨p, l, e, s, m, args, below, meth, c, Q, A⟩ := E
  obtain ⟨hx, hb, hml, hown, hT, hK, hA, hlk, hZ⟩ := C
  intro H locs ls hP hD hS hl
  obtain ⟨rfl, hin⟩ := hi
  obtain ⟨q0, hq⟩ := pw_get (cy := cy) haL
  have hq2 := hq
  rw [pe_lng haK] at hq
  refine va_last hx hb hK hP hD hS q0 1 hq rfl hin d (fun H1 locs1 hP1 hD1 hS1 => ?_)
  have e9 := pw_set (P' := pSJ P a i.toNatClampNeg x) (x := .inl (cy 14, pN P a, .inr (.inl (vp_updL (pJ P a) i.toNatClampNeg x)))) hD haL hq2 rfl (pe_AJ haK)
  rw [e9] at hP1 hD1
  exact kk H1 locs1 ls hP1 hD1 hS1 hl
theorem g_zast (C : Cx E D cy nL cc own) {a j : Nat} {i : Int32} {x : Int32} (haL : a ∈ pL P) (haK : pK P a = 15) (hi : IX i (pN P a) j) (hz : x = 0 ∨ x = 1) (d : decode cc pc = .ok (.bastore, 1)) (kk : G E R D cy nL (pSI P a j x) cs sl (pc + 1) lv rest) : G E R D cy nL P cs sl pc lv (.int x :: .int i :: .ref a :: rest) := by
  obtain ⟨p, l, e, s, m, args, below, meth, c, Q, A⟩ := E
  obtain ⟨hx, hb, hml, hown, hT, hK, hA, hlk, hZ⟩ := C
  intro H locs ls hP hD hS hl
  obtain ⟨rfl, hin⟩ := hi
  obtain ⟨q0, hq⟩ := pw_get (cy := cy) haL
  have hq2 := hq
  rw [pe_int haK (by decide)] at hq
  refine va_zast hx hb hK hP hD hS q0 2 hq rfl hin d (fun H1 locs1 hP1 hD1 hS1 => ?_)
  rw [show vp_nar .boolean x = x by rcases hz with rfl | rfl <;> rfl] at hP1 hD1
  have e9 := pw_set (P' := pSI P a i.toNatClampNeg x) (x := .inl (cy 15, pN P a, .inl (upd (pI P a) i.toNatClampNeg x))) hD haL hq2 rfl (pe_AI haK (by decide))
  rw [e9] at hP1 hD1
  exact kk H1 locs1 ls hP1 hD1 hS1 hl
def rk : Nat → String := fun k => match k with
  | 16 => RX0
  | 17 => RX1
  | 18 => RX5
  | 19 => RX6
  | _ => RX7
theorem tysL_rk (cy : Nat → ClassId) {kd : Nat} (h : 16 ≤ kd) (h2 : kd ≤ 20) : (tysL cy)[kd - 13]? = some (cy kd, .object (rk kd)) := by
  rcases (show kd = 16 ∨ kd = 17 ∨ kd = 18 ∨ kd = 19 ∨ kd = 20 by omega) with rfl | rfl | rfl | rfl | rfl <;> rfl
theorem g_aldQ (C : Cx E D cy nL cc own) {a j kd : Nat} {i : Int32} (haL : a ∈ pL P) (haK : pK P a = kd) (h16 : 16 ≤ kd ∧ kd ≤ 20) (hi : IX i (pN P a) j) (d : decode cc pc = .ok (.aaload, 1)) (kk : G E R D cy nL P cs sl (pc + 1) lv (va_rf (pR P a j) :: rest)) : G E R D cy nL P cs sl pc lv (.int i :: .ref a :: rest) := by
  obtain ⟨p, l, e, s, m, args, below, meth, c, Q, A⟩ := E
  obtain ⟨hx, hb, hml, hown, hT, hK, hA, hlk, hZ⟩ := C
  intro H locs ls hP hD hS hl
  obtain ⟨rfl, hin⟩ := hi
  obtain ⟨q0, hq⟩ := pw_get (cy := cy) haL
  rw [pe_ref haK h16.1] at hq
  refine va_aldq hx hb hK hP q0 (kd - 13) hq (tysL_rk cy h16.1 h16.2) hin d ?_
  exact kk H locs ls hP hD hS hl
theorem g_aldR (C : Cx E D cy nL cc own) {a j kd b : Nat} {i : Int32} (haL : a ∈ pL P) (haK : pK P a = kd) (h16 : 16 ≤ kd ∧ kd ≤ 20) (hi : IX i (pN P a) j) (hv : pR P a j = some b) (d : decode cc pc = .ok (.aaload, 1)) (kk : G E R D cy nL P cs sl (pc + 1) lv (.ref b :: rest)) : G E R D cy nL P cs sl pc lv (.int i :: .ref a :: rest) := by
  obtain ⟨p, l, e, s, m, args, below, meth, c, Q, A⟩ := E
  obtain ⟨hx, hb, hml, hown, hT, hK, hA, hlk, hZ⟩ := C
  intro H locs ls hP hD hS hl
  obtain ⟨rfl, hin⟩ := hi
  obtain ⟨q0, hq⟩ := pw_get (cy := cy) haL
  rw [pe_ref haK h16.1] at hq
  refine va_aldq hx hb hK hP q0 (kd - 13) hq (tysL_rk cy h16.1 h16.2) hin d ?_
  rw [hv]
  exact kk H locs ls hP hD hS hl
theorem g_astR (C : Cx E D cy nL cc own) {a j kd v ci : Nat} {r : vw_C} {i : Int32} (haL : a ∈ pL P) (haK : pK P a = kd) (h16 : 16 ≤ kd ∧ kd ≤ 20) (hi : IX i (pN P a) j) (hvL : v ∈ pL P) (hvK : pK P v = ci) (hci : ci < 13) (hr : vwCl[ci]? = some r) (hrk : rk kd = r.1) (d : decode cc pc = .ok (.aastore, 1)) (kk : G E R D cy nL (pSR P a j (some v)) cs sl (pc + 1) lv rest) : G E R D cy nL P cs sl pc lv (.ref v :: .int i :: .ref a :: rest) := by
  obtain ⟨p, l, e, s, m, args, below, meth, c, Q, A⟩ := E
  obtain ⟨hx, hb, hml, hown, hT, hK, hA, hlk, hZ⟩ := C
  intro H locs ls hP hD hS hl
  obtain ⟨rfl, hin⟩ := hi
  obtain ⟨q0, hq⟩ := pw_get (cy := cy) haL
  obtain ⟨q1, hq1⟩ := pw_get (cy := cy) hvL
  have hq2 := hq
  rw [pe_ref haK h16.1] at hq
  rw [pe_obj hvK hci] at hq1
  refine va_astq hx hb hK hP hD hS q0 (kd - 13) q1 ci hq (by rw [tysL_rk cy h16.1 h16.2, hrk]) hq1 hr hin d (fun H1 locs1 hP1 hD1 hS1 => ?_)
  have e9 := pw_set (P' := pSR P a i.toNatClampNeg (some v)) (x := .inl (cy kd, pN P a, .inr (.inr (.inr (.inr (va_up (pR P a) i.toNatClampNeg (some v))))))) hD haL hq2 rfl (pe_AR haK h16.1)
  rw [e9] at hP1 hD1
  exact kk H1 locs1 ls hP1 hD1 hS1 hl
theorem g_alen (C : Cx E D cy nL cc own) {a kd : Nat} {v : Int32} (haL : a ∈ pL P) (haK : pK P a = kd) (hkd : 13 ≤ kd ∧ kd ≤ 20) (hv : Int32.ofNat (pN P a) = v) (d : decode cc pc = .ok (.arraylength, 1)) (kk : G E R D cy nL P cs sl (pc + 1) lv (.int v :: rest)) : G E R D cy nL P cs sl pc lv (.ref a :: rest) := by
  obtain ⟨p, l, e, s, m, args, below, meth, c, Q, A⟩ := E
  obtain ⟨hx, hb, hml, hown, hT, hK, hA, hlk, hZ⟩ := C
  intro H locs ls hP hD hS hl
  obtain ⟨q0, hq⟩ := pw_get (cy := cy) haL
  have hn : ¬ pK P a < 13 := by omega
  unfold pe at hq
  rw [if_neg hn, haK] at hq
  obtain ⟨ty, hty⟩ : ∃ ty, (tysL cy)[kd - 13]? = some (cy kd, ty) := by
    rcases (show kd = 13 ∨ kd = 14 ∨ kd = 15 ∨ kd = 16 ∨ kd = 17 ∨ kd = 18 ∨ kd = 19 ∨ kd = 20 by omega) with rfl | rfl | rfl | rfl | rfl | rfl | rfl | rfl <;> exact ⟨_, rfl⟩
  exact va_alen hx hb hK hP q0 (kd - 13) hq hty hv d (kk H locs ls hP hD hS hl)
theorem pw_fresh {A : Nat → Prop} {cy : Nat → ClassId} {P : PP} {q : Nat} {x : va_E} (hD : va_D A (pw cy P ++ [(q, x)])) : q ∉ pL P := by
  intro h
  obtain ⟨k, hk⟩ := pw_get (cy := cy) h
  have hlt : k < (pw cy P).length := (List.getElem?_eq_some_iff.mp hk).1
  have e := hD.1 k (pw cy P).length (q, pe cy P q) (q, x) (by rw [List.getElem?_append_left hlt]; exact hk) (by simp) rfl
  omega
theorem ra_one {s : State} {D : va_G} {cl : List vw_C} {tys : List (ClassId × FieldType)} {c1 c2 : ClassId} {ty : FieldType} (h : va_K D cl (tys ++ [(c2, ty)]) s) (k : Nat) (hk : tys[k]? = some (c1, ty)) : c2 = c1 := by
  have hlt : k < tys.length := (List.getElem?_eq_some_iff.mp hk).1
  have h1 := (h.2 k (c1, ty) (by rw [List.getElem?_append_left hlt]; exact hk)).2
  have h2 := (h.2 tys.length (c2, ty) (by simp)).2
  cases ty with
  | object C =>
    obtain ⟨_, _, _, _, _, a1⟩ := h1
    obtain ⟨_, _, _, _, _, a2⟩ := h2
    exact Option.some.inj (a2.symm.trans a1)
  | _ => exact Option.some.inj (h2.symm.trans h1)
theorem g_newI (C : Cx E D cy nL cc own) {n : Int32} {N : Nat} (hw : TW (.arrayClass .int)) (hn : ¬ n < 0) (hN : n.toNatClampNeg = N) (hb9 : N ≤ 100000) (hcs : cs + 1 ≤ R.cells) (hsl : sl + N ≤ R.slots) (d : decode cc pc = .ok (.newarray .int, 2)) (kk : ∀ q : Nat, q ∉ pL P → G E R D cy nL (pNw P q 13 N) (cs + 1) (sl + N) (pc + 2) lv (.ref q :: rest)) : G E R D cy nL P cs sl pc lv (.int n :: rest) := by
  obtain ⟨p, l, e, s, m, args, below, meth, c, Q, A⟩ := E
  obtain ⟨hx, hb, hml, hown, hT, hK, hA, hlk, hZ⟩ := C
  intro H locs ls hP hD hS hl
  refine va_newa (atype := .int) (ty := .int) (a0 := (N, .inl (fun _ => 0))) hx hb (hw s hT args) rfl hK hP hD hS hA (fun cA => by rw [vp_cell_i]; rfl) hn hN (by show N * 4 ≤ _; omega) hcs hsl d (fun q cA H1 hK1 hP1 hD1 hS1 => ?_)
  have e1 : cA = cy 13 := ra_one hK1 0 rfl
  have hf := pw_fresh hD1
  subst e1
  rw [pw_push (kd := 13) (n := N) hf (by rw [pe_int (kd := 13) (by simp [pNw, pK, va_up]) (by decide)]; simp [pNw, pN, pI, pJ, va_up])] at hP1 hD1
  exact kk q hf H1 locs ls hP1 hD1 hS1 hl
theorem g_newJ (C : Cx E D cy nL cc own) {n : Int32} {N : Nat} (hw : TW (.arrayClass .long)) (hn : ¬ n < 0) (hN : n.toNatClampNeg = N) (hb9 : N ≤ 100000) (hcs : cs + 1 ≤ R.cells) (hsl : sl + N ≤ R.slots) (d : decode cc pc = .ok (.newarray .long, 2)) (kk : ∀ q : Nat, q ∉ pL P → G E R D cy nL (pNw P q 14 N) (cs + 1) (sl + N) (pc + 2) lv (.ref q :: rest)) : G E R D cy nL P cs sl pc lv (.int n :: rest) := by
  obtain ⟨p, l, e, s, m, args, below, meth, c, Q, A⟩ := E
  obtain ⟨hx, hb, hml, hown, hT, hK, hA, hlk, hZ⟩ := C
  intro H locs ls hP hD hS hl
  refine va_newa (atype := .long) (ty := .long) (a0 := (N, .inr (.inl (fun _ => 0)))) hx hb (hw s hT args) rfl hK hP hD hS hA (fun cA => by rw [vp_cell_l]; rfl) hn hN (by show N * 8 ≤ _; omega) hcs hsl d (fun q cA H1 hK1 hP1 hD1 hS1 => ?_)
  have e1 : cA = cy 14 := ra_one hK1 1 rfl
  have hf := pw_fresh hD1
  subst e1
  rw [pw_push (kd := 14) (n := N) hf (by rw [pe_lng (by simp [pNw, pK, va_up])]; simp [pNw, pN, pI, pJ, va_up])] at hP1 hD1
  exact kk q hf H1 locs ls hP1 hD1 hS1 hl
theorem g_newZ (C : Cx E D cy nL cc own) {n : Int32} {N : Nat} (hw : TW (.arrayClass .boolean)) (hn : ¬ n < 0) (hN : n.toNatClampNeg = N) (hb9 : N ≤ 100000) (hcs : cs + 1 ≤ R.cells) (hsl : sl + N ≤ R.slots) (d : decode cc pc = .ok (.newarray .boolean, 2)) (kk : ∀ q : Nat, q ∉ pL P → G E R D cy nL (pNw P q 15 N) (cs + 1) (sl + N) (pc + 2) lv (.ref q :: rest)) : G E R D cy nL P cs sl pc lv (.int n :: rest) := by
  obtain ⟨p, l, e, s, m, args, below, meth, c, Q, A⟩ := E
  obtain ⟨hx, hb, hml, hown, hT, hK, hA, hlk, hZ⟩ := C
  intro H locs ls hP hD hS hl
  refine va_newa (atype := .boolean) (ty := .boolean) (a0 := (N, .inl (fun _ => 0))) hx hb (hw s hT args) rfl hK hP hD hS hA (fun cA => by rw [vp_cell_i]; rfl) hn hN (by show N * 1 ≤ _; omega) hcs hsl d (fun q cA H1 hK1 hP1 hD1 hS1 => ?_)
  have e1 : cA = cy 15 := ra_one hK1 2 rfl
  have hf := pw_fresh hD1
  subst e1
  rw [pw_push (kd := 15) (n := N) hf (by rw [pe_int (kd := 15) (by simp [pNw, pK, va_up]) (by decide)]; simp [pNw, pN, pI, pJ, va_up])] at hP1 hD1
  exact kk q hf H1 locs ls hP1 hD1 hS1 hl
theorem g_newQ (C : Cx E D cy nL cc own) {n : Int32} {N idx kd : Nat} (h16 : 16 ≤ kd ∧ kd ≤ 20) (hcl : TW (.classLink own idx (rk kd))) (hao : TW (.arrayOver (.object (rk kd)))) (hn : ¬ n < 0) (hN : n.toNatClampNeg = N) (hb9 : N ≤ 100000) (hcs : cs + 1 ≤ R.cells) (hsl : sl + N ≤ R.slots) (d : decode cc pc = .ok (.anewarray idx, 3)) (kk : ∀ q : Nat, q ∉ pL P → G E R D cy nL (pNw P q kd N) (cs + 1) (sl + N) (pc + 3) lv (.ref q :: rest)) : G E R D cy nL P cs sl pc lv (.int n :: rest) := by
  obtain ⟨p, l, e, s, m, args, below, meth, c, Q, A⟩ := E
  obtain ⟨hx, hb, hml, hown, hT, hK, hA, hlk, hZ⟩ := C
  intro H locs ls hP hD hS hl
  refine va_newq hx hb hown (hcl s hT args) (va_AO.of (hao s hT args)) hK hP hD hS hA hn hN (by omega) hcs hsl d (fun q cA H1 hK1 hP1 hD1 hS1 => ?_)
  have e1 : cA = cy kd := ra_one hK1 (kd - 13) (tysL_rk cy h16.1 h16.2)
  have hf := pw_fresh hD1
  subst e1
  rw [pw_push (kd := kd) (n := N) hf (by rw [pe_ref (kd := kd) (by simp [pNw, pK, va_up]) h16.1]; simp [pNw, pN, pR, va_up])] at hP1 hD1
  exact kk q hf H1 locs ls hP1 hD1 hS1 hl
/-- the words of a class that is made -/
def NI (own : String) (idx ci N : Nat) : Prop := ∃ (Cn : String) (T : u_T) (ty : Nat → FieldType), vwCl[ci]? = some (Cn, T, N) ∧ (∀ w ∈ u_ws Cn T N, TW w) ∧ (∀ k, k < N → parseFieldDescriptor (T k).2.2.1 = some (ty k)) ∧ TW (.classLink own idx Cn) ∧ TW (.instantiable Cn N) ∧ TW (.initialized Cn) ∧ ci < 13 ∧ (∀ j, j < N → defaultValue (ty j) = vp_V (fl0 (ft ci)) j)
theorem g_new (C : Cx E D cy nL cc own) {idx ci N : Nat} (f : NI own idx ci N) (hcs : cs + 1 ≤ R.cells) (hsl : sl + N ≤ R.slots) (d : decode cc pc = .ok (.new idx, 3)) (kk : ∀ q : Nat, q ∉ pL P → G E R D cy nL (pNw P q ci 0) (cs + 1) (sl + N) (pc + 3) lv (.ref q :: rest)) : G E R D cy nL P cs sl pc lv rest := by
  obtain ⟨p, l, e, s, m, args, below, meth, c, Q, A⟩ := E
  obtain ⟨hx, hb, hml, hown, hT, hK, hA, hlk, hZ⟩ := C
  intro H locs ls hP hD hS hl
  obtain ⟨Cn, T, ty, hc, hin, hty, h1, h2, h3, hci, hdf⟩ := f
  refine va_new (fs := fl0 (ft ci)) hx hb (fun w hw => hin w hw s hT args) (fun w hw => hw) ty hty hown (h1 s hT args) (h2 s hT args) (h3 s hT args) hK hP hD hS hA hc hdf hcs hsl d (fun q H1 hP1 hD1 hS1 => ?_)
  have hf := pw_fresh hD1
  rw [pw_push (kd := ci) (n := 0) hf (by rw [pe_obj (ci := ci) (by simp [pNw, pK, va_up]) hci, fl_new])] at hP1 hD1
  exact kk q hf H1 locs ls hP1 hD1 hS1 hl
theorem g_objInit (C : Cx E D cy nL cc own) {idx a : Nat} (h1 : TW (.methodLink own idx objectInit)) (h2 : TW (.instanceMethod objectInit)) (h3 : TW (.code objectInit ⟨#[0xb1]⟩ 1 none)) (hf : 1 ≤ R.frames) (hl9 : 20 ≤ R.locals) (hr : (rest.map fun v => v.category).sum ≤ 8) (d : decode cc pc = .ok (.invokespecial idx, 3)) (k : G E R D cy nL P cs sl (pc + 3) lv rest) : G E R D cy nL P cs sl pc lv (.ref a :: rest) := by
  obtain ⟨p, l, e, s, m, args, below, meth, c, Q, A⟩ := E
  obtain ⟨hx, hb, hml, hown, hT, hK, hA, hlk, hZ⟩ := C
  intro H locs ls hP hD hS hl
  refine W.objInit hx hb hown (h1 s hT args) (h2 s hT args) (h3 s hT args) rfl (by rw [hml]; exact hl.1) rfl d hf ?_ ?_
  · have := lv_room (m := m) (pc := pc) (ls := ls) (rest := .ref a :: rest) hr
    omega
  · exact k H locs ls hP hD hS hl
end GR
/-! CONTRACTS: over the whole pool -/
def pB (D : va_G) (cy : Nat → ClassId) (P : PP) (sz : Nat) (U : State) : Prop := U.heap.size = sz ∧ TB U ∧ va_P D vwCl (pw cy P) U.heap ∧ va_K D vwCl (tysL cy) U ∧ va_D (fun _ => True) (pw cy P) ∧ SX D (va_A (pw cy P) sz) U U.heap
def pA (D : va_G) (cy : Nat → ClassId) (A : Nat → Prop) (P : PP) (t : State) : Prop := va_P D vwCl (pw cy P) t.heap ∧ va_K D vwCl (tysL cy) t ∧ va_D A (pw cy P)
theorem pB_blind {D : va_G} {cy : Nat → ClassId} {P : PP} {sz : Nat} {av : List Value} : FrameBlind (va_Pc av (pB D cy P sz)) := fun a U g mk q => by
  obtain ⟨q0, q1, qT, qP, qK, qD, qZ⟩ := q
  exact ⟨q0, q1, qT.warm (s := U) (U := U.calling g mk a) (State.WarmedH.refl U), qP, va_K.moved (u := U) (U := U.calling g mk a) (Vm.Alike.refl U.vm) qK, qD, qZ.call (s := U) (U := U.calling g mk a) (locs := []) (State.WarmedH.refl U) rfl va_S.rf (fun _ h => h)⟩
def CtrI (y : MethodName) (yc : ByteArray) (mL : Nat) (ret : Option FieldType) (rm : Room) (mc ms : Nat) (P : PP) (av : List Value) (post : Int32 → PP → Prop) : Prop := ∀ (l : Launch) (D : va_G) (cy : Nat → ClassId) (sz : Nat), Met l y [.code y yc mL ret] rm (va_Pc av (pB D cy P sz)) (va_Qi post (pA D cy (va_A (pw cy P) sz)) (va_A (pw cy P) sz)) mc ms (va_A (pw cy P) sz)
def CtrL (y : MethodName) (yc : ByteArray) (mL : Nat) (ret : Option FieldType) (rm : Room) (mc ms : Nat) (P : PP) (av : List Value) (post : Int64 → PP → Prop) : Prop := ∀ (l : Launch) (D : va_G) (cy : Nat → ClassId) (sz : Nat), Met l y [.code y yc mL ret] rm (va_Pc av (pB D cy P sz)) (va_Ql post (pA D cy (va_A (pw cy P) sz)) (va_A (pw cy P) sz)) mc ms (va_A (pw cy P) sz)
def CtrV (y : MethodName) (yc : ByteArray) (mL : Nat) (ret : Option FieldType) (rm : Room) (mc ms : Nat) (P : PP) (av : List Value) (post : PP → Prop) : Prop := ∀ (l : Launch) (D : va_G) (cy : Nat → ClassId) (sz : Nat), Met l y [.code y yc mL ret] rm (va_Pc av (pB D cy P sz)) (va_Qv post (pA D cy (va_A (pw cy P) sz)) (va_A (pw cy P) sz)) mc ms (va_A (pw cy P) sz)
def CtrQ (y : MethodName) (yc : ByteArray) (mL : Nat) (ret : Option FieldType) (rm : Room) (mc ms : Nat) (P : PP) (av : List Value) (post : Option Nat → PP → Prop) : Prop := ∀ (l : Launch) (D : va_G) (cy : Nat → ClassId) (sz : Nat), Met l y [.code y yc mL ret] rm (va_Pc av (pB D cy P sz)) (va_Qq post (pA D cy (va_A (pw cy P) sz)) (va_A (pw cy P) sz)) mc ms (va_A (pw cy P) sz)
/-- the words of a call -/
def MB (own : String) (idx : Nat) (y : MethodName) (yc : ByteArray) (mL : Nat) (ret : Option FieldType) (n : Nat) : Prop := TW (.methodLink own idx y) ∧ TW (.initialized y.cls) ∧ TW (.code y yc mL ret) ∧ (y.cls ≠ "java/lang/invoke/MethodHandle" ∧ y.cls ≠ "java/lang/invoke/VarHandle" ∧ (parseMethodDescriptor y.desc).map (fun d => d.parameters.length) = some n)
def MV (own : String) (idx : Nat) (y : MethodName) (yc : ByteArray) (mL : Nat) (ret : Option FieldType) (n ci : Nat) : Prop := MB own idx y yc mL ret n ∧ TW (.instanceMethod y) ∧ TW (.selects y.cls y y) ∧ ∃ (T : u_T) (N : Nat), vwCl[ci]? = some (y.cls, T, N) ∧ ci < 13
def MS (own : String) (idx : Nat) (y : MethodName) (yc : ByteArray) (mL : Nat) (ret : Option FieldType) (n : Nat) : Prop := MB own idx y yc mL ret n ∧ TW (.static y)
def MI (own : String) (idx : Nat) (y : MethodName) (yc : ByteArray) (mL : Nat) (n : Nat) : Prop := MB own idx y yc mL none n ∧ TW (.instanceMethod y) ∧ y.name = "<init>"
def MN (own : String) (idx : Nat) (y : MethodName) (yc : ByteArray) (mL : Nat) (n : Nat) (host : String) : Prop := (TW (.methodLinkNest own idx y host) ∧ TW (.initialized y.cls) ∧ TW (.code y yc mL none) ∧ (y.cls ≠ "java/lang/invoke/MethodHandle" ∧ y.cls ≠ "java/lang/invoke/VarHandle" ∧ (parseMethodDescriptor y.desc).map (fun d => d.parameters.length) = some n)) ∧ TW (.instanceMethod y) ∧ y.name = "<init>"
def MSN (own : String) (idx : Nat) (y : MethodName) (yc : ByteArray) (mL : Nat) (ret : Option FieldType) (n : Nat) (host : String) : Prop := (TW (.methodLinkNest own idx y host) ∧ TW (.initialized y.cls) ∧ TW (.code y yc mL ret) ∧ (y.cls ≠ "java/lang/invoke/MethodHandle" ∧ y.cls ≠ "java/lang/invoke/VarHandle" ∧ (parseMethodDescriptor y.desc).map (fun d => d.parameters.length) = some n)) ∧ TW (.static y)
theorem callB_tw {own : String} {idx mL n mc ms : Nat} {y : MethodName} {yc : ByteArray} {ret : Option FieldType} {rm R : Room} {s : State} {args : Array Value} (hT : TB s) (h : MB own idx y yc mL ret n) (hc : rm.cells = mc) (hs : rm.slots = ms) (hf : rm.frames + 1 ≤ R.frames) (hl : 8 + (mL + 11) + rm.locals ≤ R.locals) : CallB R s args own idx y yc mL ret [.code y yc mL ret] rm mc ms n := by
  obtain ⟨h1, h2, h3, h4, h5, h6⟩ := h
  refine ⟨hc, hs, hf, hl, fun w hw a' U hW => ?_, List.mem_cons_self, h3 s hT args, h2 s hT args, ⟨h4, h5⟩, fun sig h => ?_, h1 s hT args⟩
  · rw [List.mem_singleton.mp hw]
    exact h3 U (hT.warm hW) a'
  · rw [h] at h6
    exact (Option.some.inj h6).symm
section GC
variable {E : EV} {R : Room} {D : va_G} {cy : Nat → ClassId} {nL : Nat} {P : PP} {cs sl pc : Nat} {lv lv' : List (Nat × Value)} {st rest : List Value} {cc : ByteArray} {own : String}
theorem g_callVI (C : Cx E D cy nL cc own) {idx mL n ci mc ms b : Nat} {y : MethodName} {yc : ByteArray} {ret : Option FieldType} {rm : Room} (mv : MV own idx y yc mL ret n ci) (As : List Value) {post : Int32 → PP → Prop} (hM : CtrI y yc mL ret rm mc ms P (.ref b :: As) post) (hbL : b ∈ pL P) (hbK : pK P b = ci) (hst : st = As.reverse ++ .ref b :: rest) (hn : As.length = n) (hrm : rm.cells = mc ∧ rm.slots = ms ∧ rm.frames + 1 ≤ R.frames ∧ 8 + (mL + 11) + rm.locals ≤ R.locals) (hrest : (rest.map fun v => v.category).sum ≤ 8) (hroom : cs + mc ≤ R.cells ∧ sl + ms ≤ R.slots) (d : decode cc pc = .ok (.invokevirtual idx, 3)) (k : ∀ (r : Int32) (u : PP), post r u → G E R D cy nL u (cs + mc) (sl + ms) (pc + 3) lv (.int r :: rest)) : G E R D cy nL P cs sl pc lv st := by
  obtain ⟨p, l, e, s, m, args, below, meth, c, Q, A⟩ := E
  obtain ⟨hx, hb, hml, hown, hT, hK, hA, hlk, hZ⟩ := C
  intro H locs ls hP hD hS hl
  have hFc : ∀ q : Nat, va_A (pw cy P) H.size q → A q := by
    rintro q (⟨j, x, h⟩ | h)
    · exact hD.2 j _ h
    · exact hA q (Nat.le_trans hS.1 h)
  have hpre : ∀ U : State, U.heap = H → s.WarmedH U.vm → va_Pc (.ref b :: As) (pB D cy P H.size) ((.ref b :: As) : List Value).toArray U := fun U hU hW => ⟨rfl, by rw [hU], hT.warm hW, by rw [hU]; exact hP, va_K.moved hW.alike hK, ⟨hD.1, fun _ _ _ => trivial⟩, hZ.call hW hU hS hFc⟩
  obtain ⟨mb, m1, m2, T, N, m3, m4⟩ := mv
  obtain ⟨q0, hq⟩ := pw_get (cy := cy) hbL
  rw [pe_obj hbK m4] at hq
  have hrun := va_runV (p := p) (l := l) (e := e) (R := R) (below := below) (meth := meth) (locs := locs) (cells := cs) (slots := sl) (g := F0 m pc ls st) (As := As) (rest := rest) (Ts := []) ⟨hx, hb, hml, hown, fun w hw => absurd hw List.not_mem_nil⟩ (hM l D cy H.size) ⟨callB_tw hT mb hrm.1 hrm.2.1 hrm.2.2.1 hrm.2.2.2, m1 s hT args, m2 s hT args⟩ ⟨pB_blind, va_recv hK hP m3 hq, hpre⟩ rfl hn hl.1 hst (lv_room hrest) d hroom
  exact va_calli hrun hS (fun q _ h => hFc q h) hFc (fun r u t H1 locs1 ht hvm hw hB hz1 hk1 hS1 => k r u hw H1 locs1 ls (by rw [← ht]; exact hB.1) ⟨hB.2.2.1, fun j q h => hFc _ (hB.2.2.2 j q h)⟩ hS1 hl)
theorem g_callVL (C : Cx E D cy nL cc own) {idx mL n ci mc ms b : Nat} {y : MethodName} {yc : ByteArray} {ret : Option FieldType} {rm : Room} (mv : MV own idx y yc mL ret n ci) (As : List Value) {post : Int64 → PP → Prop} (hM : CtrL y yc mL ret rm mc ms P (.ref b :: As) post) (hbL : b ∈ pL P) (hbK : pK P b = ci) (hst : st = As.reverse ++ .ref b :: rest) (hn : As.length = n) (hrm : rm.cells = mc ∧ rm.slots = ms ∧ rm.frames + 1 ≤ R.frames ∧ 8 + (mL + 11) + rm.locals ≤ R.locals) (hrest : (rest.map fun v => v.category).sum ≤ 8) (hroom : cs + mc ≤ R.cells ∧ sl + ms ≤ R.slots) (d : decode cc pc = .ok (.invokevirtual idx, 3)) (k : ∀ (r : Int64) (u : PP), post r u → G E R D cy nL u (cs + mc) (sl + ms) (pc + 3) lv (.long r :: rest)) : G E R D cy nL P cs sl pc lv st := by
  obtain ⟨p, l, e, s, m, args, below, meth, c, Q, A⟩ := E
  obtain ⟨hx, hb, hml, hown, hT, hK, hA, hlk, hZ⟩ := C
  intro H locs ls hP hD hS hl
  have hFc : ∀ q : Nat, va_A (pw cy P) H.size q → A q := by
    rintro q (⟨j, x, h⟩ | h)
    · exact hD.2 j _ h
    · exact hA q (Nat.le_trans hS.1 h)
  have hpre : ∀ U : State, U.heap = H → s.WarmedH U.vm → va_Pc (.ref b :: As) (pB D cy P H.size) ((.ref b :: As) : List Value).toArray U := fun U hU hW => ⟨rfl, by rw [hU], hT.warm hW, by rw [hU]; exact hP, va_K.moved hW.alike hK, ⟨hD.1, fun _ _ _ => trivial⟩, hZ.call hW hU hS hFc⟩
  obtain ⟨mb, m1, m2, T, N, m3, m4⟩ := mv
  obtain ⟨q0, hq⟩ := pw_get (cy := cy) hbL
  rw [pe_obj hbK m4] at hq
  have hrun := va_runV (p := p) (l := l) (e := e) (R := R) (below := below) (meth := meth) (locs := locs) (cells := cs) (slots := sl) (g := F0 m pc ls st) (As := As) (rest := rest) (Ts := []) ⟨hx, hb, hml, hown, fun w hw => absurd hw List.not_mem_nil⟩ (hM l D cy H.size) ⟨callB_tw hT mb hrm.1 hrm.2.1 hrm.2.2.1 hrm.2.2.2, m1 s hT args, m2 s hT args⟩ ⟨pB_blind, va_recv hK hP m3 hq, hpre⟩ rfl hn hl.1 hst (lv_room hrest) d hroom
  exact va_calll hrun hS (fun q _ h => hFc q h) hFc (fun r u t H1 locs1 ht hvm hw hB hz1 hk1 hS1 => k r u hw H1 locs1 ls (by rw [← ht]; exact hB.1) ⟨hB.2.2.1, fun j q h => hFc _ (hB.2.2.2 j q h)⟩ hS1 hl)
theorem g_callVV (C : Cx E D cy nL cc own) {idx mL n ci mc ms b : Nat} {y : MethodName} {yc : ByteArray} {ret : Option FieldType} {rm : Room} (mv : MV own idx y yc mL ret n ci) (As : List Value) {post : PP → Prop} (hM : CtrV y yc mL ret rm mc ms P (.ref b :: As) post) (hbL : b ∈ pL P) (hbK : pK P b = ci) (hst : st = As.reverse ++ .ref b :: rest) (hn : As.length = n) (hrm : rm.cells = mc ∧ rm.slots = ms ∧ rm.frames + 1 ≤ R.frames ∧ 8 + (mL + 11) + rm.locals ≤ R.locals) (hrest : (rest.map fun v => v.category).sum ≤ 8) (hroom : cs + mc ≤ R.cells ∧ sl + ms ≤ R.slots) (d : decode cc pc = .ok (.invokevirtual idx, 3)) (k : ∀ (u : PP), post u → G E R D cy nL u (cs + mc) (sl + ms) (pc + 3) lv rest) : G E R D cy nL P cs sl pc lv st := by
  obtain ⟨p, l, e, s, m, args, below, meth, c, Q, A⟩ := E
  obtain ⟨hx, hb, hml, hown, hT, hK, hA, hlk, hZ⟩ := C
  intro H locs ls hP hD hS hl
  have hFc : ∀ q : Nat, va_A (pw cy P) H.size q → A q := by
    rintro q (⟨j, x, h⟩ | h)
    · exact hD.2 j _ h
    · exact hA q (Nat.le_trans hS.1 h)
  have hpre : ∀ U : State, U.heap = H → s.WarmedH U.vm → va_Pc (.ref b :: As) (pB D cy P H.size) ((.ref b :: As) : List Value).toArray U := fun U hU hW => ⟨rfl, by rw [hU], hT.warm hW, by rw [hU]; exact hP, va_K.moved hW.alike hK, ⟨hD.1, fun _ _ _ => trivial⟩, hZ.call hW hU hS hFc⟩
  obtain ⟨mb, m1, m2, T, N, m3, m4⟩ := mv
  obtain ⟨q0, hq⟩ := pw_get (cy := cy) hbL
  rw [pe_obj hbK m4] at hq
  have hrun := va_runV (p := p) (l := l) (e := e) (R := R) (below := below) (meth := meth) (locs := locs) (cells := cs) (slots := sl) (g := F0 m pc ls st) (As := As) (rest := rest) (Ts := []) ⟨hx, hb, hml, hown, fun w hw => absurd hw List.not_mem_nil⟩ (hM l D cy H.size) ⟨callB_tw hT mb hrm.1 hrm.2.1 hrm.2.2.1 hrm.2.2.2, m1 s hT args, m2 s hT args⟩ ⟨pB_blind, va_recv hK hP m3 hq, hpre⟩ rfl hn hl.1 hst (lv_room hrest) d hroom
  exact va_callv hrun hS (fun q _ h => hFc q h) hFc (fun u t H1 locs1 ht hvm hw hB hz1 hk1 hS1 => k u hw H1 locs1 ls (by rw [← ht]; exact hB.1) ⟨hB.2.2.1, fun j q h => hFc _ (hB.2.2.2 j q h)⟩ hS1 hl)
theorem g_callVQ (C : Cx E D cy nL cc own) {idx mL n ci mc ms b : Nat} {y : MethodName} {yc : ByteArray} {ret : Option FieldType} {rm : Room} (mv : MV own idx y yc mL ret n ci) (As : List Value) {post : Option Nat → PP → Prop} (hM : CtrQ y yc mL ret rm mc ms P (.ref b :: As) post) (hbL : b ∈ pL P) (hbK : pK P b = ci) (hst : st = As.reverse ++ .ref b :: rest) (hn : As.length = n) (hrm : rm.cells = mc ∧ rm.slots = ms ∧ rm.frames + 1 ≤ R.frames ∧ 8 + (mL + 11) + rm.locals ≤ R.locals) (hrest : (rest.map fun v => v.category).sum ≤ 8) (hroom : cs + mc ≤ R.cells ∧ sl + ms ≤ R.slots) (d : decode cc pc = .ok (.invokevirtual idx, 3)) (k : ∀ (r : Option Nat) (u : PP), post r u → G E R D cy nL u (cs + mc) (sl + ms) (pc + 3) lv (va_rf r :: rest)) : G E R D cy nL P cs sl pc lv st := by
  obtain ⟨p, l, e, s, m, args, below, meth, c, Q, A⟩ := E
  obtain ⟨hx, hb, hml, hown, hT, hK, hA, hlk, hZ⟩ := C
  intro H locs ls hP hD hS hl
  have hFc : ∀ q : Nat, va_A (pw cy P) H.size q → A q := by
    rintro q (⟨j, x, h⟩ | h)
    · exact hD.2 j _ h
    · exact hA q (Nat.le_trans hS.1 h)
  have hpre : ∀ U : State, U.heap = H → s.WarmedH U.vm → va_Pc (.ref b :: As) (pB D cy P H.size) ((.ref b :: As) : List Value).toArray U := fun U hU hW => ⟨rfl, by rw [hU], hT.warm hW, by rw [hU]; exact hP, va_K.moved hW.alike hK, ⟨hD.1, fun _ _ _ => trivial⟩, hZ.call hW hU hS hFc⟩
  obtain ⟨mb, m1, m2, T, N, m3, m4⟩ := mv
  obtain ⟨q0, hq⟩ := pw_get (cy := cy) hbL
  rw [pe_obj hbK m4] at hq
  have hrun := va_runV (p := p) (l := l) (e := e) (R := R) (below := below) (meth := meth) (locs := locs) (cells := cs) (slots := sl) (g := F0 m pc ls st) (As := As) (rest := rest) (Ts := []) ⟨hx, hb, hml, hown, fun w hw => absurd hw List.not_mem_nil⟩ (hM l D cy H.size) ⟨callB_tw hT mb hrm.1 hrm.2.1 hrm.2.2.1 hrm.2.2.2, m1 s hT args, m2 s hT args⟩ ⟨pB_blind, va_recv hK hP m3 hq, hpre⟩ rfl hn hl.1 hst (lv_room hrest) d hroom
  exact va_callq hrun hS (fun q _ h => hFc q h) hFc (fun r u t H1 locs1 ht hvm hw hB hz1 hk1 hS1 => k r u hw H1 locs1 ls (by rw [← ht]; exact hB.1) ⟨hB.2.2.1, fun j q h => hFc _ (hB.2.2.2 j q h)⟩ hS1 hl)
theorem g_callSI (C : Cx E D cy nL cc own) {idx mL n ci mc ms b : Nat} {y : MethodName} {yc : ByteArray} {ret : Option FieldType} {rm : Room} (mv : MS own idx y yc mL ret n) (As : List Value) {post : Int32 → PP → Prop} (hM : CtrI y yc mL ret rm mc ms P As post) (hst : st = As.reverse ++ rest) (hn : As.length = n) (hrm : rm.cells = mc ∧ rm.slots = ms ∧ rm.frames + 1 ≤ R.frames ∧ 8 + (mL + 11) + rm.locals ≤ R.locals) (hrest : (rest.map fun v => v.category).sum ≤ 8) (hroom : cs + mc ≤ R.cells ∧ sl + ms ≤ R.slots) (d : decode cc pc = .ok (.invokestatic idx, 3)) (k : ∀ (r : Int32) (u : PP), post r u → G E R D cy nL u (cs + mc) (sl + ms) (pc + 3) lv (.int r :: rest)) : G E R D cy nL P cs sl pc lv st := by
  obtain ⟨p, l, e, s, m, args, below, meth, c, Q, A⟩ := E
  obtain ⟨hx, hb, hml, hown, hT, hK, hA, hlk, hZ⟩ := C
  intro H locs ls hP hD hS hl
  have hFc : ∀ q : Nat, va_A (pw cy P) H.size q → A q := by
    rintro q (⟨j, x, h⟩ | h)
    · exact hD.2 j _ h
    · exact hA q (Nat.le_trans hS.1 h)
  have hpre : ∀ U : State, U.heap = H → s.WarmedH U.vm → va_Pc As (pB D cy P H.size) (As : List Value).toArray U := fun U hU hW => ⟨rfl, by rw [hU], hT.warm hW, by rw [hU]; exact hP, va_K.moved hW.alike hK, ⟨hD.1, fun _ _ _ => trivial⟩, hZ.call hW hU hS hFc⟩
  obtain ⟨mb, m1⟩ := mv
  have hrun := va_runS (p := p) (l := l) (e := e) (R := R) (below := below) (meth := meth) (locs := locs) (cells := cs) (slots := sl) (g := F0 m pc ls st) (As := As) (rest := rest) (Ts := []) ⟨hx, hb, hml, hown, fun w hw => absurd hw List.not_mem_nil⟩ (hM l D cy H.size) ⟨callB_tw hT mb hrm.1 hrm.2.1 hrm.2.2.1 hrm.2.2.2, m1 s hT args⟩ ⟨pB_blind, hpre⟩ rfl hn hl.1 hst (lv_room hrest) d hroom
  exact va_calli hrun hS (fun q _ h => hFc q h) hFc (fun r u t H1 locs1 ht hvm hw hB hz1 hk1 hS1 => k r u hw H1 locs1 ls (by rw [← ht]; exact hB.1) ⟨hB.2.2.1, fun j q h => hFc _ (hB.2.2.2 j q h)⟩ hS1 hl)
theorem g_callSL (C : Cx E D cy nL cc own) {idx mL n ci mc ms b : Nat} {y : MethodName} {yc : ByteArray} {ret : Option FieldType} {rm : Room} (mv : MS own idx y yc mL ret n) (As : List Value) {post : Int64 → PP → Prop} (hM : CtrL y yc mL ret rm mc ms P As post) (hst : st = As.reverse ++ rest) (hn : As.length = n) (hrm : rm.cells = mc ∧ rm.slots = ms ∧ rm.frames + 1 ≤ R.frames ∧ 8 + (mL + 11) + rm.locals ≤ R.locals) (hrest : (rest.map fun v => v.category).sum ≤ 8) (hroom : cs + mc ≤ R.cells ∧ sl + ms ≤ R.slots) (d : decode cc pc = .ok (.invokestatic idx, 3)) (k : ∀ (r : Int64) (u : PP), post r u → G E R D cy nL u (cs + mc) (sl + ms) (pc + 3) lv (.long r :: rest)) : G E R D cy nL P cs sl pc lv st := by
  obtain ⟨p, l, e, s, m, args, below, meth, c, Q, A⟩ := E
  obtain ⟨hx, hb, hml, hown, hT, hK, hA, hlk, hZ⟩ := C
  intro H locs ls hP hD hS hl
  have hFc : ∀ q : Nat, va_A (pw cy P) H.size q → A q := by
    rintro q (⟨j, x, h⟩ | h)
    · exact hD.2 j _ h
    · exact hA q (Nat.le_trans hS.1 h)
  have hpre : ∀ U : State, U.heap = H → s.WarmedH U.vm → va_Pc As (pB D cy P H.size) (As : List Value).toArray U := fun U hU hW => ⟨rfl, by rw [hU], hT.warm hW, by rw [hU]; exact hP, va_K.moved hW.alike hK, ⟨hD.1, fun _ _ _ => trivial⟩, hZ.call hW hU hS hFc⟩
  obtain ⟨mb, m1⟩ := mv
  have hrun := va_runS (p := p) (l := l) (e := e) (R := R) (below := below) (meth := meth) (locs := locs) (cells := cs) (slots := sl) (g := F0 m pc ls st) (As := As) (rest := rest) (Ts := []) ⟨hx, hb, hml, hown, fun w hw => absurd hw List.not_mem_nil⟩ (hM l D cy H.size) ⟨callB_tw hT mb hrm.1 hrm.2.1 hrm.2.2.1 hrm.2.2.2, m1 s hT args⟩ ⟨pB_blind, hpre⟩ rfl hn hl.1 hst (lv_room hrest) d hroom
  exact va_calll hrun hS (fun q _ h => hFc q h) hFc (fun r u t H1 locs1 ht hvm hw hB hz1 hk1 hS1 => k r u hw H1 locs1 ls (by rw [← ht]; exact hB.1) ⟨hB.2.2.1, fun j q h => hFc _ (hB.2.2.2 j q h)⟩ hS1 hl)
theorem g_callSV (C : Cx E D cy nL cc own) {idx mL n ci mc ms b : Nat} {y : MethodName} {yc : ByteArray} {ret : Option FieldType} {rm : Room} (mv : MS own idx y yc mL ret n) (As : List Value) {post : PP → Prop} (hM : CtrV y yc mL ret rm mc ms P As post) (hst : st = As.reverse ++ rest) (hn : As.length = n) (hrm : rm.cells = mc ∧ rm.slots = ms ∧ rm.frames + 1 ≤ R.frames ∧ 8 + (mL + 11) + rm.locals ≤ R.locals) (hrest : (rest.map fun v => v.category).sum ≤ 8) (hroom : cs + mc ≤ R.cells ∧ sl + ms ≤ R.slots) (d : decode cc pc = .ok (.invokestatic idx, 3)) (k : ∀ (u : PP), post u → G E R D cy nL u (cs + mc) (sl + ms) (pc + 3) lv rest) : G E R D cy nL P cs sl pc lv st := by
  obtain ⟨p, l, e, s, m, args, below, meth, c, Q, A⟩ := E
  obtain ⟨hx, hb, hml, hown, hT, hK, hA, hlk, hZ⟩ := C
  intro H locs ls hP hD hS hl
  have hFc : ∀ q : Nat, va_A (pw cy P) H.size q → A q := by
    rintro q (⟨j, x, h⟩ | h)
    · exact hD.2 j _ h
    · exact hA q (Nat.le_trans hS.1 h)
  have hpre : ∀ U : State, U.heap = H → s.WarmedH U.vm → va_Pc As (pB D cy P H.size) (As : List Value).toArray U := fun U hU hW => ⟨rfl, by rw [hU], hT.warm hW, by rw [hU]; exact hP, va_K.moved hW.alike hK, ⟨hD.1, fun _ _ _ => trivial⟩, hZ.call hW hU hS hFc⟩
  obtain ⟨mb, m1⟩ := mv
  have hrun := va_runS (p := p) (l := l) (e := e) (R := R) (below := below) (meth := meth) (locs := locs) (cells := cs) (slots := sl) (g := F0 m pc ls st) (As := As) (rest := rest) (Ts := []) ⟨hx, hb, hml, hown, fun w hw => absurd hw List.not_mem_nil⟩ (hM l D cy H.size) ⟨callB_tw hT mb hrm.1 hrm.2.1 hrm.2.2.1 hrm.2.2.2, m1 s hT args⟩ ⟨pB_blind, hpre⟩ rfl hn hl.1 hst (lv_room hrest) d hroom
  exact va_callv hrun hS (fun q _ h => hFc q h) hFc (fun u t H1 locs1 ht hvm hw hB hz1 hk1 hS1 => k u hw H1 locs1 ls (by rw [← ht]; exact hB.1) ⟨hB.2.2.1, fun j q h => hFc _ (hB.2.2.2 j q h)⟩ hS1 hl)
theorem g_callSQ (C : Cx E D cy nL cc own) {idx mL n ci mc ms b : Nat} {y : MethodName} {yc : ByteArray} {ret : Option FieldType} {rm : Room} (mv : MS own idx y yc mL ret n) (As : List Value) {post : Option Nat → PP → Prop} (hM : CtrQ y yc mL ret rm mc ms P As post) (hst : st = As.reverse ++ rest) (hn : As.length = n) (hrm : rm.cells = mc ∧ rm.slots = ms ∧ rm.frames + 1 ≤ R.frames ∧ 8 + (mL + 11) + rm.locals ≤ R.locals) (hrest : (rest.map fun v => v.category).sum ≤ 8) (hroom : cs + mc ≤ R.cells ∧ sl + ms ≤ R.slots) (d : decode cc pc = .ok (.invokestatic idx, 3)) (k : ∀ (r : Option Nat) (u : PP), post r u → G E R D cy nL u (cs + mc) (sl + ms) (pc + 3) lv (va_rf r :: rest)) : G E R D cy nL P cs sl pc lv st := by
  obtain ⟨p, l, e, s, m, args, below, meth, c, Q, A⟩ := E
  obtain ⟨hx, hb, hml, hown, hT, hK, hA, hlk, hZ⟩ := C
  intro H locs ls hP hD hS hl
  have hFc : ∀ q : Nat, va_A (pw cy P) H.size q → A q := by
    rintro q (⟨j, x, h⟩ | h)
    · exact hD.2 j _ h
    · exact hA q (Nat.le_trans hS.1 h)
  have hpre : ∀ U : State, U.heap = H → s.WarmedH U.vm → va_Pc As (pB D cy P H.size) (As : List Value).toArray U := fun U hU hW => ⟨rfl, by rw [hU], hT.warm hW, by rw [hU]; exact hP, va_K.moved hW.alike hK, ⟨hD.1, fun _ _ _ => trivial⟩, hZ.call hW hU hS hFc⟩
  obtain ⟨mb, m1⟩ := mv
  have hrun := va_runS (p := p) (l := l) (e := e) (R := R) (below := below) (meth := meth) (locs := locs) (cells := cs) (slots := sl) (g := F0 m pc ls st) (As := As) (rest := rest) (Ts := []) ⟨hx, hb, hml, hown, fun w hw => absurd hw List.not_mem_nil⟩ (hM l D cy H.size) ⟨callB_tw hT mb hrm.1 hrm.2.1 hrm.2.2.1 hrm.2.2.2, m1 s hT args⟩ ⟨pB_blind, hpre⟩ rfl hn hl.1 hst (lv_room hrest) d hroom
  exact va_callq hrun hS (fun q _ h => hFc q h) hFc (fun r u t H1 locs1 ht hvm hw hB hz1 hk1 hS1 => k r u hw H1 locs1 ls (by rw [← ht]; exact hB.1) ⟨hB.2.2.1, fun j q h => hFc _ (hB.2.2.2 j q h)⟩ hS1 hl)
theorem g_callCV (C : Cx E D cy nL cc own) {idx mL n ci mc ms b : Nat} {y : MethodName} {yc : ByteArray} {ret : Option FieldType} {rm : Room} (mv : MI own idx y yc mL n) (As : List Value) {post : PP → Prop} (hM : CtrV y yc mL none rm mc ms P (.ref b :: As) post) (hst : st = As.reverse ++ .ref b :: rest) (hn : As.length = n) (hrm : rm.cells = mc ∧ rm.slots = ms ∧ rm.frames + 1 ≤ R.frames ∧ 8 + (mL + 11) + rm.locals ≤ R.locals) (hrest : (rest.map fun v => v.category).sum ≤ 8) (hroom : cs + mc ≤ R.cells ∧ sl + ms ≤ R.slots) (d : decode cc pc = .ok (.invokespecial idx, 3)) (k : ∀ (u : PP), post u → G E R D cy nL u (cs + mc) (sl + ms) (pc + 3) lv rest) : G E R D cy nL P cs sl pc lv st := by
  obtain ⟨p, l, e, s, m, args, below, meth, c, Q, A⟩ := E
  obtain ⟨hx, hb, hml, hown, hT, hK, hA, hlk, hZ⟩ := C
  intro H locs ls hP hD hS hl
  have hFc : ∀ q : Nat, va_A (pw cy P) H.size q → A q := by
    rintro q (⟨j, x, h⟩ | h)
    · exact hD.2 j _ h
    · exact hA q (Nat.le_trans hS.1 h)
  have hpre : ∀ U : State, U.heap = H → s.WarmedH U.vm → va_Pc (.ref b :: As) (pB D cy P H.size) ((.ref b :: As) : List Value).toArray U := fun U hU hW => ⟨rfl, by rw [hU], hT.warm hW, by rw [hU]; exact hP, va_K.moved hW.alike hK, ⟨hD.1, fun _ _ _ => trivial⟩, hZ.call hW hU hS hFc⟩
  obtain ⟨mb, m1, m2⟩ := mv
  have hrun := va_runI (p := p) (l := l) (e := e) (R := R) (below := below) (meth := meth) (locs := locs) (cells := cs) (slots := sl) (g := F0 m pc ls st) (As := As) (rest := rest) (Ts := []) ⟨hx, hb, hml, hown, fun w hw => absurd hw List.not_mem_nil⟩ (hM l D cy H.size) ⟨callB_tw hT mb hrm.1 hrm.2.1 hrm.2.2.1 hrm.2.2.2, m2, m1 s hT args⟩ ⟨pB_blind, hpre⟩ rfl hn hl.1 hst (lv_room hrest) d hroom
  exact va_callv hrun hS (fun q _ h => hFc q h) hFc (fun u t H1 locs1 ht hvm hw hB hz1 hk1 hS1 => k u hw H1 locs1 ls (by rw [← ht]; exact hB.1) ⟨hB.2.2.1, fun j q h => hFc _ (hB.2.2.2 j q h)⟩ hS1 hl)
theorem g_callNV (C : Cx E D cy nL cc own) {idx mL n ci mc ms b : Nat} {y : MethodName} {yc : ByteArray} {ret : Option FieldType} {rm : Room} {host : String} (mv : MN own idx y yc mL n host) (As : List Value) {post : PP → Prop} (hM : CtrV y yc mL none rm mc ms P (.ref b :: As) post) (hst : st = As.reverse ++ .ref b :: rest) (hn : As.length = n) (hrm : rm.cells = mc ∧ rm.slots = ms ∧ rm.frames + 1 ≤ R.frames ∧ 8 + (mL + 11) + rm.locals ≤ R.locals) (hrest : (rest.map fun v => v.category).sum ≤ 8) (hroom : cs + mc ≤ R.cells ∧ sl + ms ≤ R.slots) (d : decode cc pc = .ok (.invokespecial idx, 3)) (k : ∀ (u : PP), post u → G E R D cy nL u (cs + mc) (sl + ms) (pc + 3) lv rest) : G E R D cy nL P cs sl pc lv st := by
  obtain ⟨p, l, e, s, m, args, below, meth, c, Q, A⟩ := E
  obtain ⟨hx, hb, hml, hown, hT, hK, hA, hlk, hZ⟩ := C
  intro H locs ls hP hD hS hl
  have hFc : ∀ q : Nat, va_A (pw cy P) H.size q → A q := by
    rintro q (⟨j, x, h⟩ | h)
    · exact hD.2 j _ h
    · exact hA q (Nat.le_trans hS.1 h)
  have hpre : ∀ U : State, U.heap = H → s.WarmedH U.vm → va_Pc (.ref b :: As) (pB D cy P H.size) ((.ref b :: As) : List Value).toArray U := fun U hU hW => ⟨rfl, by rw [hU], hT.warm hW, by rw [hU]; exact hP, va_K.moved hW.alike hK, ⟨hD.1, fun _ _ _ => trivial⟩, hZ.call hW hU hS hFc⟩
  obtain ⟨⟨w1, w2, w3, w4⟩, m1, m2⟩ := mv
  have hcn := va_cnB (R := R) (s := s) (args := args) (Ts := [.code y yc mL none]) (rm := rm) (mc := mc) (ms := ms) n (fun w hw => by rw [List.mem_singleton.mp hw]; exact w3 s hT args) (fun w hw => ⟨hw, by rw [List.mem_singleton.mp hw]; exact good_of_word (w := .code y yc mL none) rfl⟩) rfl hrm.1 hrm.2.1 (va_Nw.of rfl (w1 s hT args)) (w2 s hT args) w4 ⟨hrm.2.2.1, hrm.2.2.2⟩
  have hrun := va_runIN (p := p) (l := l) (e := e) (R := R) (below := below) (meth := meth) (locs := locs) (cells := cs) (slots := sl) (g := F0 m pc ls st) (As := As) (rest := rest) (Ts := []) ⟨hx, hb, hml, hown, fun w hw => absurd hw List.not_mem_nil⟩ (hM l D cy H.size) ⟨hcn, m2, m1 s hT args⟩ ⟨pB_blind, hpre⟩ rfl hn hl.1 hst (lv_room hrest) d hroom
  exact va_callv hrun hS (fun q _ h => hFc q h) hFc (fun u t H1 locs1 ht hvm hw hB hz1 hk1 hS1 => k u hw H1 locs1 ls (by rw [← ht]; exact hB.1) ⟨hB.2.2.1, fun j q h => hFc _ (hB.2.2.2 j q h)⟩ hS1 hl)
theorem g_callSNI (C : Cx E D cy nL cc own) {idx mL n ci mc ms b : Nat} {y : MethodName} {yc : ByteArray} {ret : Option FieldType} {rm : Room} {host : String} (mv : MSN own idx y yc mL ret n host) (As : List Value) {post : Int32 → PP → Prop} (hM : CtrI y yc mL ret rm mc ms P As post) (hst : st = As.reverse ++ rest) (hn : As.length = n) (hrm : rm.cells = mc ∧ rm.slots = ms ∧ rm.frames + 1 ≤ R.frames ∧ 8 + (mL + 11) + rm.locals ≤ R.locals) (hrest : (rest.map fun v => v.category).sum ≤ 8) (hroom : cs + mc ≤ R.cells ∧ sl + ms ≤ R.slots) (d : decode cc pc = .ok (.invokestatic idx, 3)) (k : ∀ (r : Int32) (u : PP), post r u → G E R D cy nL u (cs + mc) (sl + ms) (pc + 3) lv (.int r :: rest)) : G E R D cy nL P cs sl pc lv st := by
  obtain ⟨p, l, e, s, m, args, below, meth, c, Q, A⟩ := E
  obtain ⟨hx, hb, hml, hown, hT, hK, hA, hlk, hZ⟩ := C
  intro H locs ls hP hD hS hl
  have hFc : ∀ q : Nat, va_A (pw cy P) H.size q → A q := by
    rintro q (⟨j, x, h⟩ | h)
    · exact hD.2 j _ h
    · exact hA q (Nat.le_trans hS.1 h)
  have hpre : ∀ U : State, U.heap = H → s.WarmedH U.vm → va_Pc As (pB D cy P H.size) (As : List Value).toArray U := fun U hU hW => ⟨rfl, by rw [hU], hT.warm hW, by rw [hU]; exact hP, va_K.moved hW.alike hK, ⟨hD.1, fun _ _ _ => trivial⟩, hZ.call hW hU hS hFc⟩
  obtain ⟨⟨w1, w2, w3, w4⟩, m1⟩ := mv
  have hcn := va_cnB (R := R) (s := s) (args := args) (Ts := [.code y yc mL ret]) (rm := rm) (mc := mc) (ms := ms) n (fun w hw => by rw [List.mem_singleton.mp hw]; exact w3 s hT args) (fun w hw => ⟨hw, by rw [List.mem_singleton.mp hw]; exact good_of_word (w := .code y yc mL ret) rfl⟩) rfl hrm.1 hrm.2.1 (va_Nw.of rfl (w1 s hT args)) (w2 s hT args) w4 ⟨hrm.2.2.1, hrm.2.2.2⟩
  have hrun := va_runSN (p := p) (l := l) (e := e) (R := R) (below := below) (meth := meth) (locs := locs) (cells := cs) (slots := sl) (g := F0 m pc ls st) (As := As) (rest := rest) (Ts := []) ⟨hx, hb, hml, hown, fun w hw => absurd hw List.not_mem_nil⟩ (hM l D cy H.size) ⟨hcn, m1 s hT args, trivial⟩ ⟨pB_blind, hpre⟩ rfl hn hl.1 hst (lv_room hrest) d hroom
  exact va_calli hrun hS (fun q _ h => hFc q h) hFc (fun r u t H1 locs1 ht hvm hw hB hz1 hk1 hS1 => k r u hw H1 locs1 ls (by rw [← ht]; exact hB.1) ⟨hB.2.2.1, fun j q h => hFc _ (hB.2.2.2 j q h)⟩ hS1 hl)
theorem g_callSNL (C : Cx E D cy nL cc own) {idx mL n ci mc ms b : Nat} {y : MethodName} {yc : ByteArray} {ret : Option FieldType} {rm : Room} {host : String} (mv : MSN own idx y yc mL ret n host) (As : List Value) {post : Int64 → PP → Prop} (hM : CtrL y yc mL ret rm mc ms P As post) (hst : st = As.reverse ++ rest) (hn : As.length = n) (hrm : rm.cells = mc ∧ rm.slots = ms ∧ rm.frames + 1 ≤ R.frames ∧ 8 + (mL + 11) + rm.locals ≤ R.locals) (hrest : (rest.map fun v => v.category).sum ≤ 8) (hroom : cs + mc ≤ R.cells ∧ sl + ms ≤ R.slots) (d : decode cc pc = .ok (.invokestatic idx, 3)) (k : ∀ (r : Int64) (u : PP), post r u → G E R D cy nL u (cs + mc) (sl + ms) (pc + 3) lv (.long r :: rest)) : G E R D cy nL P cs sl pc lv st := by
  obtain ⟨p, l, e, s, m, args, below, meth, c, Q, A⟩ := E
  obtain ⟨hx, hb, hml, hown, hT, hK, hA, hlk, hZ⟩ := C
  intro H locs ls hP hD hS hl
  have hFc : ∀ q : Nat, va_A (pw cy P) H.size q → A q := by
    rintro q (⟨j, x, h⟩ | h)
    · exact hD.2 j _ h
    · exact hA q (Nat.le_trans hS.1 h)
  have hpre : ∀ U : State, U.heap = H → s.WarmedH U.vm → va_Pc As (pB D cy P H.size) (As : List Value).toArray U := fun U hU hW => ⟨rfl, by rw [hU], hT.warm hW, by rw [hU]; exact hP, va_K.moved hW.alike hK, ⟨hD.1, fun _ _ _ => trivial⟩, hZ.call hW hU hS hFc⟩
  obtain ⟨⟨w1, w2, w3, w4⟩, m1⟩ := mv
  have hcn := va_cnB (R := R) (s := s) (args := args) (Ts := [.code y yc mL ret]) (rm := rm) (mc := mc) (ms := ms) n (fun w hw => by rw [List.mem_singleton.mp hw]; exact w3 s hT args) (fun w hw => ⟨hw, by rw [List.mem_singleton.mp hw]; exact good_of_word (w := .code y yc mL ret) rfl⟩) rfl hrm.1 hrm.2.1 (va_Nw.of rfl (w1 s hT args)) (w2 s hT args) w4 ⟨hrm.2.2.1, hrm.2.2.2⟩
  have hrun := va_runSN (p := p) (l := l) (e := e) (R := R) (below := below) (meth := meth) (locs := locs) (cells := cs) (slots := sl) (g := F0 m pc ls st) (As := As) (rest := rest) (Ts := []) ⟨hx, hb, hml, hown, fun w hw => absurd hw List.not_mem_nil⟩ (hM l D cy H.size) ⟨hcn, m1 s hT args, trivial⟩ ⟨pB_blind, hpre⟩ rfl hn hl.1 hst (lv_room hrest) d hroom
  exact va_calll hrun hS (fun q _ h => hFc q h) hFc (fun r u t H1 locs1 ht hvm hw hB hz1 hk1 hS1 => k r u hw H1 locs1 ls (by rw [← ht]; exact hB.1) ⟨hB.2.2.1, fun j q h => hFc _ (hB.2.2.2 j q h)⟩ hS1 hl)
theorem g_callSNV (C : Cx E D cy nL cc own) {idx mL n ci mc ms b : Nat} {y : MethodName} {yc : ByteArray} {ret : Option FieldType} {rm : Room} {host : String} (mv : MSN own idx y yc mL ret n host) (As : List Value) {post : PP → Prop} (hM : CtrV y yc mL ret rm mc ms P As post) (hst : st = As.reverse ++ rest) (hn : As.length = n) (hrm : rm.cells = mc ∧ rm.slots = ms ∧ rm.frames + 1 ≤ R.frames ∧ 8 + (mL + 11) + rm.locals ≤ R.locals) (hrest : (rest.map fun v => v.category).sum ≤ 8) (hroom : cs + mc ≤ R.cells ∧ sl + ms ≤ R.slots) (d : decode cc pc = .ok (.invokestatic idx, 3)) (k : ∀ (u : PP), post u → G E R D cy nL u (cs + mc) (sl + ms) (pc + 3) lv rest) : G E R D cy nL P cs sl pc lv st := by
  obtain ⟨p, l, e, s, m, args, below, meth, c, Q, A⟩ := E
  obtain ⟨hx, hb, hml, hown, hT, hK, hA, hlk, hZ⟩ := C
  intro H locs ls hP hD hS hl
  have hFc : ∀ q : Nat, va_A (pw cy P) H.size q → A q := by
    rintro q (⟨j, x, h⟩ | h)
    · exact hD.2 j _ h
    · exact hA q (Nat.le_trans hS.1 h)
  have hpre : ∀ U : State, U.heap = H → s.WarmedH U.vm → va_Pc As (pB D cy P H.size) (As : List Value).toArray U := fun U hU hW => ⟨rfl, by rw [hU], hT.warm hW, by rw [hU]; exact hP, va_K.moved hW.alike hK, ⟨hD.1, fun _ _ _ => trivial⟩, hZ.call hW hU hS hFc⟩
  obtain ⟨⟨w1, w2, w3, w4⟩, m1⟩ := mv
  have hcn := va_cnB (R := R) (s := s) (args := args) (Ts := [.code y yc mL ret]) (rm := rm) (mc := mc) (ms := ms) n (fun w hw => by rw [List.mem_singleton.mp hw]; exact w3 s hT args) (fun w hw => ⟨hw, by rw [List.mem_singleton.mp hw]; exact good_of_word (w := .code y yc mL ret) rfl⟩) rfl hrm.1 hrm.2.1 (va_Nw.of rfl (w1 s hT args)) (w2 s hT args) w4 ⟨hrm.2.2.1, hrm.2.2.2⟩
  have hrun := va_runSN (p := p) (l := l) (e := e) (R := R) (below := below) (meth := meth) (locs := locs) (cells := cs) (slots := sl) (g := F0 m pc ls st) (As := As) (rest := rest) (Ts := []) ⟨hx, hb, hml, hown, fun w hw => absurd hw List.not_mem_nil⟩ (hM l D cy H.size) ⟨hcn, m1 s hT args, trivial⟩ ⟨pB_blind, hpre⟩ rfl hn hl.1 hst (lv_room hrest) d hroom
  exact va_callv hrun hS (fun q _ h => hFc q h) hFc (fun u t H1 locs1 ht hvm hw hB hz1 hk1 hS1 => k u hw H1 locs1 ls (by rw [← ht]; exact hB.1) ⟨hB.2.2.1, fun j q h => hFc _ (hB.2.2.2 j q h)⟩ hS1 hl)
theorem g_callSNQ (C : Cx E D cy nL cc own) {idx mL n ci mc ms b : Nat} {y : MethodName} {yc : ByteArray} {ret : Option FieldType} {rm : Room} {host : String} (mv : MSN own idx y yc mL ret n host) (As : List Value) {post : Option Nat → PP → Prop} (hM : CtrQ y yc mL ret rm mc ms P As post) (hst : st = As.reverse ++ rest) (hn : As.length = n) (hrm : rm.cells = mc ∧ rm.slots = ms ∧ rm.frames + 1 ≤ R.frames ∧ 8 + (mL + 11) + rm.locals ≤ R.locals) (hrest : (rest.map fun v => v.category).sum ≤ 8) (hroom : cs + mc ≤ R.cells ∧ sl + ms ≤ R.slots) (d : decode cc pc = .ok (.invokestatic idx, 3)) (k : ∀ (r : Option Nat) (u : PP), post r u → G E R D cy nL u (cs + mc) (sl + ms) (pc + 3) lv (va_rf r :: rest)) : G E R D cy nL P cs sl pc lv st := by
  obtain ⟨p, l, e, s, m, args, below, meth, c, Q, A⟩ := E
  obtain ⟨hx, hb, hml, hown, hT, hK, hA, hlk, hZ⟩ := C
  intro H locs ls hP hD hS hl
  have hFc : ∀ q : Nat, va_A (pw cy P) H.size q → A q := by
    rintro q (⟨j, x, h⟩ | h)
    · exact hD.2 j _ h
    · exact hA q (Nat.le_trans hS.1 h)
  have hpre : ∀ U : State, U.heap = H → s.WarmedH U.vm → va_Pc As (pB D cy P H.size) (As : List Value).toArray U := fun U hU hW => ⟨rfl, by rw [hU], hT.warm hW, by rw [hU]; exact hP, va_K.moved hW.alike hK, ⟨hD.1, fun _ _ _ => trivial⟩, hZ.call hW hU hS hFc⟩
  obtain ⟨⟨w1, w2, w3, w4⟩, m1⟩ := mv
  have hcn := va_cnB (R := R) (s := s) (args := args) (Ts := [.code y yc mL ret]) (rm := rm) (mc := mc) (ms := ms) n (fun w hw => by rw [List.mem_singleton.mp hw]; exact w3 s hT args) (fun w hw => ⟨hw, by rw [List.mem_singleton.mp hw]; exact good_of_word (w := .code y yc mL ret) rfl⟩) rfl hrm.1 hrm.2.1 (va_Nw.of rfl (w1 s hT args)) (w2 s hT args) w4 ⟨hrm.2.2.1, hrm.2.2.2⟩
  have hrun := va_runSN (p := p) (l := l) (e := e) (R := R) (below := below) (meth := meth) (locs := locs) (cells := cs) (slots := sl) (g := F0 m pc ls st) (As := As) (rest := rest) (Ts := []) ⟨hx, hb, hml, hown, fun w hw => absurd hw List.not_mem_nil⟩ (hM l D cy H.size) ⟨hcn, m1 s hT args, trivial⟩ ⟨pB_blind, hpre⟩ rfl hn hl.1 hst (lv_room hrest) d hroom
  exact va_callq hrun hS (fun q _ h => hFc q h) hFc (fun r u t H1 locs1 ht hvm hw hB hz1 hk1 hS1 => k r u hw H1 locs1 ls (by rw [← ht]; exact hB.1) ⟨hB.2.2.1, fun j q h => hFc _ (hB.2.2.2 j q h)⟩ hS1 hl)
end GC
def RetI (E : EV) (R : Room) (D : va_G) (cy : Nat → ClassId) (nL : Nat) (cc : ByteArray) (mc ms : Nat) (rt : FieldType) (post : Int32 → PP → Prop) : Prop := ∀ (P : PP) (cs sl pc : Nat) (lv : List (Nat × Value)) (v : Int32) , decode cc pc = .ok (.ireturn, 1) → narrow rt (.int v) = .int v → cs ≤ mc → sl ≤ ms → post v P → G E R D cy nL P cs sl pc lv [.int v]
theorem enI {y : MethodName} {yc : ByteArray} {mL : Nat} {rt : FieldType} {rm : Room} {mc ms : Nat} {P : PP} {av : List Value} {post : Int32 → PP → Prop} {lv : List (Nat × Value)} (hy : plainName y.cls = true) (hlen : (lg_sl av).length ≤ mL) (hlv : lv_args 0 av = lv) (body : ∀ (E : EV) (D : va_G) (cy : Nat → ClassId), Cx E D cy mL yc y.cls → (y.name = "<init>" → Ci E) → RetI E rm D cy mL yc mc ms rt post → G E rm D cy mL P 0 0 0 lv []) : CtrI y yc mL (some rt) rm mc ms P av post := by
  intro l D cy sz
  refine Met.ofW (cc := yc) (maxL := mL) (ret := some rt) hy rfl ?_
  intro p e s m args below meth c s₁ B hml hv
  obtain ⟨rfl, hsz, hT, hP, hK, hD0, hZ⟩ := hv
  have hx := B.exec
  have hb := B.bytes
  have hr := B.returns
  have hown : s.vm.findClass y.cls = some m.cls := findClass_of_methodNamed B.named
  have hlocks := B.notSynchronized
  have hin : meth.name = y.name := (name_of_methodNamed B.named B.method).1
  subst hsz
  have hD := hD0.self (sz := s.heap.size)
  have hA : ∀ q : Nat, s.heap.size ≤ q → va_A (pw cy P) s.heap.size q := fun q h => Or.inr h
  have hS : va_S (va_A (pw cy P) s.heap.size) s.heap s.heap [] := va_S.rf
  have hl := lv_entry av (n := mL) hlen
  rw [hlv] at hl
  rw [lg_entry_eq]
  refine body (p, l, e, s, m, av.toArray, below, meth, c, _, va_A (pw cy P) s.heap.size) D cy ⟨hx, hb, hml, hown, hT, hK, hA, hlocks, hZ⟩ (fun h => hin.trans h) ?_ s.heap [] _ hP hD hS hl
  intro P2 cs sl pc lv2 v d hn h1 h2 hp H locs ls hP2 hD2 hS2 hl2
  refine W.widen h1 h2 ?_
  exact W.zret hx hb hr hn (fun t ht hW => ⟨⟨v, P2, rfl, hp, by rw [ht]; exact hP2, va_K.moved hW.alike hK, hD2⟩, hS2.F ht⟩) hS2.2.2 d
def RetL (E : EV) (R : Room) (D : va_G) (cy : Nat → ClassId) (nL : Nat) (cc : ByteArray) (mc ms : Nat) (post : Int64 → PP → Prop) : Prop := ∀ (P : PP) (cs sl pc : Nat) (lv : List (Nat × Value)) (v : Int64) , decode cc pc = .ok (.lreturn, 1) → cs ≤ mc → sl ≤ ms → post v P → G E R D cy nL P cs sl pc lv [.long v]
theorem enL {y : MethodName} {yc : ByteArray} {mL : Nat} {rm : Room} {mc ms : Nat} {P : PP} {av : List Value} {post : Int64 → PP → Prop} {lv : List (Nat × Value)} (hy : plainName y.cls = true) (hlen : (lg_sl av).length ≤ mL) (hlv : lv_args 0 av = lv) (body : ∀ (E : EV) (D : va_G) (cy : Nat → ClassId), Cx E D cy mL yc y.cls → (y.name = "<init>" → Ci E) → RetL E rm D cy mL yc mc ms post → G E rm D cy mL P 0 0 0 lv []) : CtrL y yc mL (some .long) rm mc ms P av post := by
  intro l D cy sz
  refine Met.ofW (cc := yc) (maxL := mL) (ret := some .long) hy rfl ?_
  intro p e s m args below meth c s₁ B hml hv
  obtain ⟨rfl, hsz, hT, hP, hK, hD0, hZ⟩ := hv
  have hx := B.exec
  have hb := B.bytes
  have hr := B.returns
  have hown : s.vm.findClass y.cls = some m.cls := findClass_of_methodNamed B.named
  have hlocks := B.notSynchronized
  have hin : meth.name = y.name := (name_of_methodNamed B.named B.method).1
  subst hsz
  have hD := hD0.self (sz := s.heap.size)
  have hA : ∀ q : Nat, s.heap.size ≤ q → va_A (pw cy P) s.heap.size q := fun q h => Or.inr h
  have hS : va_S (va_A (pw cy P) s.heap.size) s.heap s.heap [] := va_S.rf
  have hl := lv_entry av (n := mL) hlen
  rw [hlv] at hl
  rw [lg_entry_eq]
  refine body (p, l, e, s, m, av.toArray, below, meth, c, _, va_A (pw cy P) s.heap.size) D cy ⟨hx, hb, hml, hown, hT, hK, hA, hlocks, hZ⟩ (fun h => hin.trans h) ?_ s.heap [] _ hP hD hS hl
  intro P2 cs sl pc lv2 v d h1 h2 hp H locs ls hP2 hD2 hS2 hl2
  refine W.widen h1 h2 ?_
  exact W.lret hx hb hr (fun t ht hW => ⟨⟨v, P2, rfl, hp, by rw [ht]; exact hP2, va_K.moved hW.alike hK, hD2⟩, hS2.F ht⟩) hS2.2.2 d
def RetV (E : EV) (R : Room) (D : va_G) (cy : Nat → ClassId) (nL : Nat) (cc : ByteArray) (mc ms : Nat) (post : PP → Prop) : Prop := ∀ (P : PP) (cs sl pc : Nat) (lv : List (Nat × Value)) , decode cc pc = .ok (.return_, 1) → cs ≤ mc → sl ≤ ms → post P → G E R D cy nL P cs sl pc lv []
theorem enV {y : MethodName} {yc : ByteArray} {mL : Nat} {rm : Room} {mc ms : Nat} {P : PP} {av : List Value} {post : PP → Prop} {lv : List (Nat × Value)} (hy : plainName y.cls = true) (hlen : (lg_sl av).length ≤ mL) (hlv : lv_args 0 av = lv) (body : ∀ (E : EV) (D : va_G) (cy : Nat → ClassId), Cx E D cy mL yc y.cls → (y.name = "<init>" → Ci E) → RetV E rm D cy mL yc mc ms post → G E rm D cy mL P 0 0 0 lv []) : CtrV y yc mL none rm mc ms P av post := by
  intro l D cy sz
  refine Met.ofW (cc := yc) (maxL := mL) (ret := none) hy rfl ?_
  intro p e s m args below meth c s₁ B hml hv
  obtain ⟨rfl, hsz, hT, hP, hK, hD0, hZ⟩ := hv
  have hx := B.exec
  have hb := B.bytes
  have hr := B.returns
  have hown : s.vm.findClass y.cls = some m.cls := findClass_of_methodNamed B.named
  have hlocks := B.notSynchronized
  have hin : meth.name = y.name := (name_of_methodNamed B.named B.method).1
  subst hsz
  have hD := hD0.self (sz := s.heap.size)
  have hA : ∀ q : Nat, s.heap.size ≤ q → va_A (pw cy P) s.heap.size q := fun q h => Or.inr h
  have hS : va_S (va_A (pw cy P) s.heap.size) s.heap s.heap [] := va_S.rf
  have hl := lv_entry av (n := mL) hlen
  rw [hlv] at hl
  rw [lg_entry_eq]
  refine body (p, l, e, s, m, av.toArray, below, meth, c, _, va_A (pw cy P) s.heap.size) D cy ⟨hx, hb, hml, hown, hT, hK, hA, hlocks, hZ⟩ (fun h => hin.trans h) ?_ s.heap [] _ hP hD hS hl
  intro P2 cs sl pc lv2 d h1 h2 hp H locs ls hP2 hD2 hS2 hl2
  refine W.widen h1 h2 ?_
  exact W.vret hx hb hr (fun t ht hW => ⟨⟨P2, rfl, hp, by rw [ht]; exact hP2, va_K.moved hW.alike hK, hD2⟩, hS2.F ht⟩) hS2.2.2 d
def RetQ (E : EV) (R : Room) (D : va_G) (cy : Nat → ClassId) (nL : Nat) (cc : ByteArray) (mc ms : Nat) (rt : FieldType) (post : Option Nat → PP → Prop) : Prop := ∀ (P : PP) (cs sl pc : Nat) (lv : List (Nat × Value)) (v : Option Nat) , decode cc pc = .ok (.areturn, 1) → cs ≤ mc → sl ≤ ms → post v P → G E R D cy nL P cs sl pc lv [va_rf v]
theorem enQ {y : MethodName} {yc : ByteArray} {mL : Nat} {rt : FieldType} {rm : Room} {mc ms : Nat} {P : PP} {av : List Value} {post : Option Nat → PP → Prop} {lv : List (Nat × Value)} (hy : plainName y.cls = true) (hrt : (∃ n, rt = .object n) ∨ ∃ t, rt = .array t) (hlen : (lg_sl av).length ≤ mL) (hlv : lv_args 0 av = lv) (body : ∀ (E : EV) (D : va_G) (cy : Nat → ClassId), Cx E D cy mL yc y.cls → (y.name = "<init>" → Ci E) → RetQ E rm D cy mL yc mc ms rt post → G E rm D cy mL P 0 0 0 lv []) : CtrQ y yc mL (some rt) rm mc ms P av post := by
  intro l D cy sz
  refine Met.ofW (cc := yc) (maxL := mL) (ret := some rt) hy rfl ?_
  intro p e s m args below meth c s₁ B hml hv
  obtain ⟨rfl, hsz, hT, hP, hK, hD0, hZ⟩ := hv
  have hx := B.exec
  have hb := B.bytes
  have hr := B.returns
  have hown : s.vm.findClass y.cls = some m.cls := findClass_of_methodNamed B.named
  have hlocks := B.notSynchronized
  have hin : meth.name = y.name := (name_of_methodNamed B.named B.method).1
  subst hsz
  have hD := hD0.self (sz := s.heap.size)
  have hA : ∀ q : Nat, s.heap.size ≤ q → va_A (pw cy P) s.heap.size q := fun q h => Or.inr h
  have hS : va_S (va_A (pw cy P) s.heap.size) s.heap s.heap [] := va_S.rf
  have hl := lv_entry av (n := mL) hlen
  rw [hlv] at hl
  rw [lg_entry_eq]
  refine body (p, l, e, s, m, av.toArray, below, meth, c, _, va_A (pw cy P) s.heap.size) D cy ⟨hx, hb, hml, hown, hT, hK, hA, hlocks, hZ⟩ (fun h => hin.trans h) ?_ s.heap [] _ hP hD hS hl
  intro P2 cs sl pc lv2 v d h1 h2 hp H locs ls hP2 hD2 hS2 hl2
  refine W.widen h1 h2 ?_
  exact W.aret hx hb hr hrt (by cases v with | none => exact Or.inl rfl | some a => exact Or.inr ⟨a, rfl⟩) (fun t ht hW => ⟨⟨v, P2, rfl, hp, by rw [ht]; exact hP2, va_K.moved hW.alike hK, hD2⟩, hS2.F ht⟩) hS2.2.2 d
