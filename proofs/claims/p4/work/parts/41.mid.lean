/-! THE CLAIM OUT OF ONE WALK OF THE LAW'S BODY. Your part is whole_start (and what it stands on); all else here is the same for every law, but numbers. -/
def R_law : String := "ThousandLeafletsLaw"
def lw_P (b : Addr) (xs : List Int32) (args : Array Value) (s : State) : Prop := args = #[.ref b] ∧ s.IntsAt b xs ∧ xs.length ≤ 3584 ∧ (Jvm.Cond.and given_1 narrow_1).before args s = true
def lw_Q (_ : Array Value) (s : State) (o : Outcome) (t : State) : Prop := o = .returned (some (.int 1)) ∧ Framed s o t [] 601024 7293034
def lw_Z (below : List Frame) (a : Array Value) (s : State) : State → Prop := fun t => ∃ o, t.status = .running ∧ Ended t below o ∧ lw_Q a s o t
/-- the law's own end, with 1 on the stack, nothing written that was there before, its room as the claim has it -/
theorem lw_ret {p : Program} {l : Launch} {e : Env} {s : State} {m : MethodId} {below : List Frame} {meth : Method} {c : Code} {b : Nat} (hx : p.tables.exec = Jvm.exec) (hb : c.code = code) (hr : meth.sig.returnType = ret) (hlocks : meth.locks = false) {pc : Nat} {H : Heap} {ls : Array Slot} (hdg : decode code pc = .ok (.ireturn, 1)) : W p l e room_1 s m #[Value.ref b] below meth c H [] 601024 7293034 (lw_Z below #[Value.ref b] s) (F0 m pc ls [.int 1]) := by
  intro T hT X
  obtain ⟨fs, hret, hrun, hended, hW, hframe⟩ := X.leave (v := some (.int 1)) (hlocks := hlocks) (fun h => by rw [hr] at h; cases h)
  have hmeth' : T.vm.method? m = some meth := X.method'
  refine ⟨T.setFrames fs, ?_, .returned (some (.int 1)), hrun, hended, rfl, ⟨_, rfl⟩, hW, hframe⟩
  jvm_step X.here [X.here.top, hx, hb, hdg, hmeth', hr, ret, narrow_b1]
  (try refine ⟨rfl, ?_⟩); (try refine ⟨rfl, ?_⟩)
  first | (intro acts; rw [hret _ acts rfl rfl rfl]) | rw [hret _ _ rfl rfl rfl]
  exact Steps.refl _
/-- what holds at the law's entry: the machine, the code, the tables' words (any of lw_tbl by 'hts w (by decide +kernel)'), the script of L ints xs at the cell b, what the Statement gives of the start (any of its parts by flat_of_before) -/
def lw_At (p : Program) (s : State) (m : MethodId) (meth : Method) (c : Code) (b L : Nat) (xs : Nat → Int32) : Prop :=
  p.tables.exec = Jvm.exec ∧ c.code = code ∧ meth.sig.returnType = ret ∧ c.maxLocals = 7 ∧ s.vm.findClass R_law = some m.cls ∧ (∀ w ∈ lw_tbl, w.before #[Value.ref b] s = true) ∧ va_X b L xs s s.heap ∧ b < s.heap.size ∧ meth.locks = false ∧ (Jvm.Cond.and given_1 narrow_1).before #[Value.ref b] s = true
/-! rows of the law -/
def Lx (E : EV) (b L : Nat) (xs : Nat → Int32) : Prop := match E with
  | (_, _, _, s, _, args, below, meth, _, Q, A) => args = #[Value.ref b] ∧ Q = lw_Z below #[Value.ref b] s ∧ A = (fun q => s.heap.size ≤ q) ∧ meth.sig.returnType = ret ∧ va_X b L xs s s.heap ∧ b < s.heap.size
theorem hrc : room_1.cells = 601024 := rfl
theorem hrs : room_1.slots = 7293034 := rfl
section LR
variable {E : EV} {D : va_G} {cy : Nat → ClassId} {P Q O : PP} {x m o b n : Nat} {xs : Nat → Int32} {cs sl pc : Nat} {lv : List (Nat × Value)} {rest : List Value} {L : Nat} {R : Room}
theorem g_slen (C : Cx E D cy 7 code RL) (X : Lx E b L xs) (d : decode code pc = .ok (.arraylength, 1)) (k : G E R D cy 7 P cs sl (pc + 1) lv (.int (Int32.ofNat L) :: rest)) : G E R D cy 7 P cs sl pc lv (.ref b :: rest) := by
  obtain ⟨p, l, e, s, m, args, below, meth, c, Q, A⟩ := E
  obtain ⟨hx, hb, hml, hown, hT, hK, hA, hlk, hZ⟩ := C
  obtain ⟨h1, h2, h3, hr, hX, hbl⟩ := X
  intro H locs ls hP hD hS hl
  exact va_slen hx hb hX hbl (by rw [h3]; exact Nat.not_le.mpr hbl) hS d (k H locs ls hP hD hS hl)
theorem g_sld (C : Cx E D cy 7 code RL) (X : Lx E b L xs) {i : Int32} {j : Nat} (hi : IX i L j) (d : decode code pc = .ok (.iaload, 1)) (k : G E R D cy 7 P cs sl (pc + 1) lv (.int (xs j) :: rest)) : G E R D cy 7 P cs sl pc lv (.int i :: .ref b :: rest) := by
  obtain ⟨p, l, e, s, m, args, below, meth, c, Q, A⟩ := E
  obtain ⟨hx, hb, hml, hown, hT, hK, hA, hlk, hZ⟩ := C
  obtain ⟨h1, h2, h3, hr, hX, hbl⟩ := X
  obtain ⟨rfl, hin⟩ := hi
  intro H locs ls hP hD hS hl
  exact va_sld hx hb hX hbl (by rw [h3]; exact Nat.not_le.mpr hbl) hS hin d (k H locs ls hP hD hS hl)
theorem g_pop2 {nL : Nat} {cc : ByteArray} {own : String} (C : Cx E D cy nL cc own) {va : Value} (d : decode cc pc = .ok (.pop2, 1)) (hva : va.category = 2) (k : G E R D cy nL P cs sl (pc + 1) lv rest) : G E R D cy nL P cs sl pc lv (va :: rest) := by
  obtain ⟨p, l, e, s, m, args, below, meth, c, Q, A⟩ := E
  obtain ⟨hx, hb, hml, hown, hT, hK, hA, hlk, hZ⟩ := C
  intro H locs ls hP hD hS hl
  exact lv_pop2_2 hx hb d hva (k H locs ls hP hD hS hl)
theorem g_rd (C : Cx E D cy 7 code RL) (X : Lx E b L xs) {i : Int32} {k : Int} {j : Nat} (j0 j4 : Nat) (h0 : lv[j0]? = some (0, .ref b)) (h4 : lv[j4]? = some (4, .int i)) (hj : IX (i + Int32.ofInt k) L j) (d0 : decode code pc = .ok (.aload_n 0, 1)) (d1 : decode code (pc + 1) = .ok (.iload 4, 2)) (d2 : decode code (pc + 1 + 2) = .ok (.iconst k, 1)) (d3 : decode code (pc + 1 + 2 + 1) = .ok (.iadd, 1)) (d4 : decode code (pc + 1 + 2 + 1 + 1) = .ok (.iaload, 1)) (kk : G E R D cy 7 P cs sl (pc + 1 + 2 + 1 + 1 + 1) lv (.int (xs j) :: rest)) : G E R D cy 7 P cs sl pc lv rest :=
  g_aload_n C d0 rfl j0 h0 (g_iload C d1 j4 h4 (g_iconst C d2 rfl (g_iadd C d3 (g_sld C X hj d4 kk))))
theorem g_rdb (C : Cx E D cy 7 code RL) (X : Lx E b L xs) {i : Int32} {k : Int} {j : Nat} (j0 j4 : Nat) (h0 : lv[j0]? = some (0, .ref b)) (h4 : lv[j4]? = some (4, .int i)) (hj : IX (i + (Int8.ofInt k).toInt32) L j) (d0 : decode code pc = .ok (.aload_n 0, 1)) (d1 : decode code (pc + 1) = .ok (.iload 4, 2)) (d2 : decode code (pc + 1 + 2) = .ok (.bipush k, 2)) (d3 : decode code (pc + 1 + 2 + 2) = .ok (.iadd, 1)) (d4 : decode code (pc + 1 + 2 + 2 + 1) = .ok (.iaload, 1)) (kk : G E R D cy 7 P cs sl (pc + 1 + 2 + 2 + 1 + 1) lv (.int (xs j) :: rest)) : G E R D cy 7 P cs sl pc lv rest :=
  g_aload_n C d0 rfl j0 h0 (g_iload C d1 j4 h4 (g_bipush C d2 rfl (g_iadd C d3 (g_sld C X hj d4 kk))))
def hiL (u : Int32) : Int64 := u.toInt64 <<< ((32 : Int32).toInt64 &&& 63)
def loL (w : Int64) (u : Int32) : Int64 := w ||| (u.toInt64 &&& 4294967295)
theorem g_hi (C : Cx E D cy 7 code RL) {u : Int32} (d0 : decode code pc = .ok (.i2l, 1)) (d1 : decode code (pc + 1) = .ok (.bipush 32, 2)) (d2 : decode code (pc + 1 + 2) = .ok (.lshl, 1)) (k : G E R D cy 7 P cs sl (pc + 1 + 2 + 1) lv (.long (hiL u) :: rest)) : G E R D cy 7 P cs sl pc lv (.int u :: rest) :=
  g_i2l C d0 rfl (g_bipush (v := 32) C d1 (by decide) (g_lshl C d2 rfl k))
theorem g_lo (C : Cx E D cy 7 code RL) {u : Int32} {w : Int64} (d0 : decode code pc = .ok (.i2l, 1)) (d1 : decode code (pc + 1) = .ok (.ldc2_w 29, 3)) (d2 : decode code (pc + 1 + 3) = .ok (.land, 1)) (d3 : decode code (pc + 1 + 3 + 1) = .ok (.lor, 1)) (k : G E R D cy 7 P cs sl (pc + 1 + 3 + 1 + 1) lv (.long (loL w u) :: rest)) : G E R D cy 7 P cs sl pc lv (.int u :: .long w :: rest) :=
  g_i2l C d0 rfl (g_ldc2 C kl_L_29 d1 (g_land C d2 (g_lor C d3 k)))
theorem g_off {nL : Nat} {st : List Value} (k : (∀ a, a ∈ pL Q → a ∉ pL P) → G E R D cy nL (pM (pM P Q) O) cs sl pc lv st) : G E R D cy nL (pM (pM P Q) O) cs sl pc lv st := by
  obtain ⟨p, l, e, s, m, args, below, meth, c, Q9, A⟩ := E
  intro H locs ls hP hD hS hl
  have h1 := pM_off hD
  have hD2 := hD
  rw [pM_pw h1] at hD2
  exact k (pM_off (D_left hD2)) H locs ls hP hD hS hl
theorem pL_off {A : Nat → Prop} {cy : Nat → ClassId} {W P Q : PP} (h : va_D A (pw cy W)) (hL : pL W = pL P ++ pL Q) : ∀ a, a ∈ pL Q → a ∉ pL P := by
  intro a h2 h1
  obtain ⟨i, hi, e1⟩ := List.mem_iff_getElem.mp h1
  obtain ⟨j, hj, e2⟩ := List.mem_iff_getElem.mp h2
  have a1 : (pL W)[i]? = some a := by
    rw [hL, List.getElem?_append_left hi, List.getElem?_eq_getElem hi, e1]
  have a2 : (pL W)[(pL P).length + j]? = some a := by
    rw [hL, List.getElem?_append_right (by omega), show (pL P).length + j - (pL P).length = j by omega, List.getElem?_eq_getElem hj, e2]
  have := h.1 i ((pL P).length + j) _ _ (pw_at a1) (pw_at a2) rfl
  omega
theorem g_sjO {nL : Nat} {st : List Value} {k : Nat} {v : Int64} (ho : o ∈ pL O) (kk : G E R D cy nL (pM (pM P Q) (pSJ O o k v)) cs sl pc lv st) : G E R D cy nL (pSJ (pM (pM P Q) O) o k v) cs sl pc lv st := by
  obtain ⟨p, l, e, s, m, args, below, meth, c, Q9, A⟩ := E
  intro H locs ls hP hD hS hl
  have h1 : ∀ a, a ∈ pL O → a ∉ pL (pM P Q) := pL_off hD rfl
  rw [pM_sj (h1 o ho) h1] at hP hD
  exact kk H locs ls hP hD hS hl
theorem law_fin (C : Cx E D cy 7 code RL) (X : Lx E b L xs) (h1 : cs ≤ 601024) (h2 : sl ≤ 7293034) : G E room_1 D cy 7 P cs sl 1992 lv [] := by
  refine g_iconst (v := 1) C dW_1992 (by decide) ?_
  obtain ⟨p, l, e, s, m, args, below, meth, c, Q, A⟩ := E
  obtain ⟨hx, hb, hml, hown, hT, hK, hA, hlk, hZ⟩ := C
  obtain ⟨rfl, rfl, rfl, hr, hX, hbl⟩ := X
  intro H locs ls hP hD hS hl
  refine W.widen h1 h2 (va_forget (fun q hq => hS.2.2 q hq) ?_)
  exact lw_ret hx hb hr hlk dW_1993
end LR
theorem nI_addc {n k : Nat} {c : Int32} (hc : c.toInt = (k : Int)) (hn : n + k < 2147483648) : nI n + c = nI (n + k) := by
  apply Int32.toInt_inj.mp
  rw [Int32.toInt_add, ti_nI (by omega), ti_nI (by omega), hc, bm32 (by omega)]
  omega
theorem ixk {n L k : Nat} {c : Int32} (hc : c.toInt = (k : Int)) (hk : k < 7) (hn : n + 7 ≤ L) (hL : L ≤ 3584) : IX (nI n + c) L (n + k) := IX.of (nI_addc hc (by omega)) (by omega) (by omega)
theorem iw_0 {n L : Nat} (hn : n + 7 ≤ L) (hL : L ≤ 3584) : IX (nI n) L n := IX.of rfl (by omega) (by omega)
theorem hd_val {L : Nat} (hL : L ≤ 3584) : (Int32.ofNat L - 7).toInt = (L : Int) - 7 := by
  have h1 : (Int32.ofNat L).toInt = (L : Int) := ti_nI (i := L) (by omega)
  have h7 : (7 : Int32).toInt = 7 := rfl
  rw [Int32.toInt_sub, h1, h7, bm32 (by omega)]
theorem iw_1 {n L : Nat} (hn : n + 7 ≤ L) (hL : L ≤ 3584) : IX (nI n + Int32.ofInt 1) L (n + 1) := ixk (by decide) (by decide) hn hL
theorem iw_2 {n L : Nat} (hn : n + 7 ≤ L) (hL : L ≤ 3584) : IX (nI n + Int32.ofInt 2) L (n + 2) := ixk (by decide) (by decide) hn hL
theorem iw_3 {n L : Nat} (hn : n + 7 ≤ L) (hL : L ≤ 3584) : IX (nI n + Int32.ofInt 3) L (n + 3) := ixk (by decide) (by decide) hn hL
theorem iw_4 {n L : Nat} (hn : n + 7 ≤ L) (hL : L ≤ 3584) : IX (nI n + Int32.ofInt 4) L (n + 4) := ixk (by decide) (by decide) hn hL
theorem iw_5 {n L : Nat} (hn : n + 7 ≤ L) (hL : L ≤ 3584) : IX (nI n + Int32.ofInt 5) L (n + 5) := ixk (by decide) (by decide) hn hL
theorem iw_b {n L : Nat} (hn : n + 7 ≤ L) (hL : L ≤ 3584) : IX (nI n + (Int8.ofInt 6).toInt32) L (n + 6) := ixk (by decide) (by decide) hn hL
/-- what holds of the two sides between two calls -/
def LJ (P Q O : PP) (x m o : Nat) : Prop := IV P ∧ At P x 11 ∧ IM Q m ∧ MW Q m ∧ TL P x (pI Q m 2).toInt ∧ o ∈ pL O ∧ pK O o = 14 ∧ pN O o = 1
theorem pM_I1 {P Q : PP} {a : Nat} (h : a ∈ pL P) : pI (pM P Q) a = pI P a := by
  show (if a ∈ pL P then pI P a else pI Q a) = _
  rw [if_pos h]
theorem pM_N2 {P Q : PP} {a k : Nat} (h : a ∉ pL P) (hk : pN Q a = k) : pN (pM P Q) a = k := by
  show (if a ∈ pL P then pN P a else pN Q a) = k
  rw [if_neg h, hk]
theorem n1_mem (a kd n : Nat) : a ∈ pL (pNw p0 a kd n) := List.mem_singleton.mpr rfl
theorem n1_K (a kd n : Nat) : pK (pNw p0 a kd n) a = kd := by simp [pNw, pK, va_up]
theorem n1_N (a kd n : Nat) : pN (pNw p0 a kd n) a = n := by simp [pNw, pN, va_up]
theorem n1_I (a kd n k : Nat) : pI (pNw p0 a kd n) a k = 0 := by simp [pNw, pI, va_up]
theorem n1_R (a kd n : Nat) : ∀ k, pR (pNw p0 a kd n) a k = none := by intro k; simp [pNw, pR, va_up]
theorem n1_G (a kd n : Nat) : xAG [a] (pNw p0 a kd n) := fun b hb h => absurd hb h
theorem n1_Z (a kd n : Nat) : zG (pNw p0 a kd n) := zG.new (P := p0) (fun b hb => absurd hb List.not_mem_nil) List.not_mem_nil
theorem CtrQ.imp {y : MethodName} {yc : ByteArray} {mL : Nat} {ret : Option FieldType} {rm : Room} {mc ms : Nat} {P : PP} {av : List Value} {post post' : Option Nat → PP → Prop} (h : CtrQ y yc mL ret rm mc ms P av post) (hi : ∀ r U, post r U → post' r U) : CtrQ y yc mL ret rm mc ms P av post' := by
  intro l D cy sz p e ha hc hk s m args below hf happ hP hK
  obtain ⟨n, o, h1, h2, h3, ⟨⟨r, u, ho, hp, hA⟩, hF⟩, L, hL1, hL2⟩ := h l D cy sz p e ha hc hk s m args below hf happ hP hK
  exact ⟨n, o, h1, h2, h3, ⟨⟨r, u, ho, hi _ _ hp, hA⟩, hF⟩, L, hL1, hL2⟩
theorem CtrI.imp {y : MethodName} {yc : ByteArray} {mL : Nat} {ret : Option FieldType} {rm : Room} {mc ms : Nat} {P : PP} {av : List Value} {post post' : Int32 → PP → Prop} (h : CtrI y yc mL ret rm mc ms P av post) (hi : ∀ r U, post r U → post' r U) : CtrI y yc mL ret rm mc ms P av post' := by
  intro l D cy sz p e ha hc hk s m args below hf happ hP hK
  obtain ⟨n, o, h1, h2, h3, ⟨⟨r, u, ho, hp, hA⟩, hF⟩, L, hL1, hL2⟩ := h l D cy sz p e ha hc hk s m args below hf happ hP hK
  exact ⟨n, o, h1, h2, h3, ⟨⟨r, u, ho, hi _ _ hp, hA⟩, hF⟩, L, hL1, hL2⟩
