/-! paper throws NoSuchElementException; the law's own paper catches it -/
def xN : String := "java/util/NoSuchElementException"
def xS : List String := ["java/lang/RuntimeException", "java/lang/Exception"]
def xB : List Cond := [.declares ⟨"java/lang/RuntimeException", "<init>", "()V"⟩, .declares ⟨"java/lang/Exception", "<init>", "()V"⟩, .declares ⟨"java/lang/Throwable", "<init>", "()V"⟩, .castable xN xN]
theorem tw_1075 : TW (Jvm.Cond.classLink "ThousandLeaflets" (188 : Nat) "java/util/NoSuchElementException") := sb_5 (List.mem_of_getElem? (i := 115) rfl) rfl
theorem tw_23 : TW (Jvm.Cond.initialized "java/util/NoSuchElementException") := sb_1 (List.mem_of_getElem? (i := 23) rfl) rfl
theorem tw_1070 : TW (Jvm.Cond.classLink "ThousandLeafletsLaw" (13 : Nat) "java/util/NoSuchElementException") := sb_5 (List.mem_of_getElem? (i := 110) rfl) rfl
theorem tw_1067 : TW (Jvm.Cond.methodLink "ThousandLeafletsLaw" (68 : Nat) ({ cls := "ThousandLeafletsLaw", name := "paper", desc := "(LThousandLeaflets;III[J)I" } : Jvm.MethodName)) := sb_5 (List.mem_of_getElem? (i := 107) rfl) rfl
theorem tw_1068 : TW (Jvm.Cond.static ({ cls := "ThousandLeafletsLaw", name := "paper", desc := "(LThousandLeaflets;III[J)I" } : Jvm.MethodName)) := sb_5 (List.mem_of_getElem? (i := 108) rfl) rfl
theorem tw_0 : TW (Jvm.Cond.initialized "ThousandLeafletsLaw") := sb_1 (List.mem_of_getElem? (i := 0) rfl) rfl
theorem tw_1069 : TW (Jvm.Cond.codeWith ({ cls := "ThousandLeafletsLaw", name := "paper", desc := "(LThousandLeaflets;III[J)I" } : Jvm.MethodName) method_3_code (6 : Nat) (Option.some Jvm.ClassFile.FieldType.int) [((0 : Nat), (12 : Nat), (15 : Nat), (13 : Nat))]) := sb_5 (List.mem_of_getElem? (i := 109) rfl) rfl
theorem xw_k : TW (.classLink RX11 188 xN) := tw_1075
theorem xw_i : TW (.initialized xN) := tw_23
theorem xw_c : TW (.classLink RL 13 xN) := tw_1070
theorem xw_l : TW (.methodLink RL 68 yL_paper) := tw_1067
theorem xw_s : TW (.static yL_paper) := tw_1068
theorem xw_n : TW (.initialized RL) := tw_0
theorem xw_w : TW (.codeWith yL_paper cL_paper 6 (some .int) [(0, 12, 15, 13)]) := tw_1069
theorem okW_of {w : Cond} (h : goodWord w = true) : okW w = true := by
  unfold okW
  split <;> first | rfl | exact h
set_option maxRecDepth 20000 in
theorem xw_in : ∀ w ∈ (vx_at0 RX11 190 xN xS).filter goodWord, w ∈ lw_tbl := by decide +kernel
theorem xw_no : ∀ w ∈ (vx_at0 RX11 190 xN xS).filter (fun w => !goodWord w), w ∈ xB := by decide +kernel
theorem xw_ot : ∀ w ∈ Cond.classLink RX11 188 xN :: Cond.initialized xN :: vx_at0 RX11 190 xN xS, vx_ot w = true := by decide +kernel
def TX (U : State) : Prop := ∀ w ∈ xB, w.before #[] U = true
theorem xB_at {s U : State} {A A' : Array Value} (hW : s.WarmedH U.vm) {w : Cond} (hw : w ∈ xB) (h : w.before A s = true) : w.before A' U = true := by
  have hw' : w = .declares ⟨"java/lang/RuntimeException", "<init>", "()V"⟩ ∨ w = .declares ⟨"java/lang/Exception", "<init>", "()V"⟩ ∨ w = .declares ⟨"java/lang/Throwable", "<init>", "()V"⟩ ∨ w = .castable xN xN := by
    rcases List.mem_cons.mp hw with h | hw
    · exact Or.inl h
    rcases List.mem_cons.mp hw with h | hw
    · exact Or.inr (Or.inl h)
    rcases List.mem_cons.mp hw with h | hw
    · exact Or.inr (Or.inr (Or.inl h))
    · exact Or.inr (Or.inr (Or.inr (List.mem_singleton.mp hw)))
  rcases hw' with rfl | rfl | rfl | rfl
  · exact va_tabs rfl (rfl : (s.setVm U.vm).vm = U.vm) (by rw [Cond.declares_setVm hW.alike]; exact h)
  · exact va_tabs rfl (rfl : (s.setVm U.vm).vm = U.vm) (by rw [Cond.declares_setVm hW.alike]; exact h)
  · exact va_tabs rfl (rfl : (s.setVm U.vm).vm = U.vm) (by rw [Cond.declares_setVm hW.alike]; exact h)
  · exact va_tabs rfl (rfl : (s.setVm U.vm).vm = U.vm) (by rw [Cond.castable_setVm hW.alike]; exact h)
theorem TX.warm {s U : State} (hW : s.WarmedH U.vm) (h : TX s) : TX U := fun w hw => xB_at hW hw (h w hw)
theorem xw_at {s : State} (hT : TB s) (hX : TX s) (A : Array Value) : ∀ w ∈ vx_at0 RX11 190 xN xS, w.before A s = true :=
  vx_hat (B := xB) (fun w hw => TW.of (xw_in w hw) (okW_of (List.mem_filter.mp hw).2) s hT A) xw_no (fun w hw => xB_at (State.WarmedH.refl s) hw (hX w hw))
def xU (A : Nat → Prop) (U : State) (H : Heap) : Prop := vx_Zq Bundle.tN "UNASSIGNED_STACK" Bundle.steD A U H ∧ vx_Zq Bundle.tN "SUPPRESSED_SENTINEL" Bundle.listD A U H
def pX (D : va_G) (cy : Nat → ClassId) (P : PP) (sz : Nat) (U : State) : Prop := pB D cy P sz U ∧ TX U ∧ xU (va_A (pw cy P) sz) U U.heap
theorem pX_blind {D : va_G} {cy : Nat → ClassId} {P : PP} {sz : Nat} {av : List Value} : FrameBlind (va_Pc av (pX D cy P sz)) := fun a U g mk q => by
  obtain ⟨q0, qB, qT, q1, q2⟩ := q
  exact ⟨q0, (pB_blind (D := D) (cy := cy) (P := P) (sz := sz) (av := av) a U g mk ⟨q0, qB⟩).2, qT.warm (s := U) (U := U.calling g mk a) (State.WarmedH.refl U), vx_Zq.moved (u := U) (U := U.calling g mk a) (Vm.Alike.refl U.vm) q1, vx_Zq.moved (u := U) (U := U.calling g mk a) (Vm.Alike.refl U.vm) q2⟩
theorem xU.call {A B : Nat → Prop} {s U : State} {H : Heap} {locs : List Loc} (h : xU A s s.heap) (hU : U.heap = H) (hW : s.WarmedH U.vm) (hS : va_S A s.heap H locs) (hBA : ∀ q, B q → A q) : xU B U U.heap := by
  rw [hU]
  exact ⟨((h.1.moved hW.alike).kept (fun a h1 h2 => hS.2.1 a h1 h2)).narrow hBA, ((h.2.moved hW.alike).kept (fun a h1 h2 => hS.2.1 a h1 h2)).narrow hBA⟩
theorem g_aloadN {E : EV} {R : Room} {D : va_G} {cy : Nat → ClassId} {nL : Nat} {P : PP} {cs sl pc : Nat} {lv : List (Nat × Value)} {rest : List Value} {cc : ByteArray} {own : String} (C : Cx E D cy nL cc own) {i : Nat} (d : decode cc pc = .ok (.aload i, 2)) (j : Nat) (h : lv[j]? = some (i, .null)) (k : G E R D cy nL P cs sl (pc + 2) lv (.null :: rest)) : G E R D cy nL P cs sl pc lv rest := by
  obtain ⟨p, l, e, s, m, args, below, meth, c, Q, A⟩ := E
  obtain ⟨hx, hb, hml, hown, hT, hK, hA, hlk⟩ := C
  intro H locs ls hP hD hS hl
  exact lv_aloadN hx hb d (lv_at hl j h) (k H locs ls hP hD hS hl)
theorem dX11_paper_0 : decode cX11_paper 0 = .ok (.aload_n 0, 1) := by decide +kernel
theorem dX11_paper_1 : decode cX11_paper 1 = .ok (.iload_n 1, 1) := by decide +kernel
theorem dX11_paper_2 : decode cX11_paper 2 = .ok (.iload_n 2, 1) := by decide +kernel
theorem dX11_paper_3 : decode cX11_paper 3 = .ok (.invokevirtual 185, 3) := by decide +kernel
theorem dX11_paper_6 : decode cX11_paper 6 = .ok (.astore 4, 2) := by decide +kernel
theorem dX11_paper_8 : decode cX11_paper 8 = .ok (.aload 4, 2) := by decide +kernel
theorem dX11_paper_10 : decode cX11_paper 10 = .ok (.ifnonnull 11, 3) := by decide +kernel
theorem dX11_paper_13 : decode cX11_paper 13 = .ok (.new 188, 3) := by decide +kernel
theorem dX11_paper_16 : decode cX11_paper 16 = .ok (.dup, 1) := by decide +kernel
theorem dX11_paper_17 : decode cX11_paper 17 = .ok (.invokespecial 190, 3) := by decide +kernel
theorem dX11_paper_20 : decode cX11_paper 20 = .ok (.athrow, 1) := by decide +kernel
set_option maxHeartbeats 4000000 in
set_option maxRecDepth 100000 in
theorem c_X11_paper {P : PP} {x : Nat} {a b c0 : Int32} (hx : x ∈ pL P) (hxK : pK P x = 11) (hq : CtrQ yX11_paperAt cX11_paperAt 3 (some (Jvm.ClassFile.FieldType.object "ThousandLeaflets$Paper")) ({ frames := 2, cells := 0, slots := 0, locals := 128 } : Room) 0 0 P [.ref x, .int a, .int b] (fun r P2 => P = P2 ∧ r = none)) (l : Launch) (hl : l.stackTraces = false) (D : va_G) (cy : Nat → ClassId) (sz : Nat) : vx_Met l yX11_paper [.code yX11_paper cX11_paper 5 (some .int)] ({ frames := 6, cells := 1, slots := 6, locals := 384 } : Room) (va_Pc [.ref x, .int a, .int b, .int c0] (pX D cy P sz)) (va_Qi (fun (_ : Int32) (_ : PP) => False) (pA D cy (va_A (pw cy P) sz)) (va_A (pw cy P) sz)) (vx_X (fun u => u = P) (fun E u t => E = xN ∧ pA D cy (va_A (pw cy P) sz) u t) (va_A (pw cy P) sz)) 1 6 (va_A (pw cy P) sz) := by
  refine vx_ofW (cc := cX11_paper) (maxL := 5) (ret := some .int) (by decide) rfl ?_
  intro p e s m args below meth c s₁ B hml hex hv
  obtain ⟨rfl, ⟨hsz, hT, hP, hK, hD0⟩, hTX, hU, hN⟩ := hv
  have hx0 := B.exec
  have hb := B.bytes
  have hown : s.vm.findClass RX11 = some m.cls := findClass_of_methodNamed B.named
  have hlocks := B.notSynchronized
  subst hsz
  have hD := hD0.self (sz := s.heap.size)
  have hA : ∀ q : Nat, s.heap.size ≤ q → va_A (pw cy P) s.heap.size q := fun q h => Or.inr h
  have hS : va_S (va_A (pw cy P) s.heap.size) s.heap s.heap [] := va_S.rf
  have hlv := lv_entry [.ref x, .int a, .int b, .int c0] (n := 5) (Nat.le_of_ble_eq_true rfl)
  rw [show lv_args 0 [.ref x, .int a, .int b, .int c0] = [(0, .ref x), (1, .int a), (2, .int b), (3, .int c0)] from rfl] at hlv
  rw [lg_entry_eq]
  obtain ⟨Q, hQ⟩ : ∃ z, z = vx_MQ below (va_Qi (fun (_ : Int32) (_ : PP) => False) (pA D cy (va_A (pw cy P) s.heap.size)) (va_A (pw cy P) s.heap.size)) (vx_X (fun u => u = P) (fun E u t => E = xN ∧ pA D cy (va_A (pw cy P) s.heap.size) u t) (va_A (pw cy P) s.heap.size)) ([.ref x, .int a, .int b, .int c0] : List Value).toArray s 1 6 (va_A (pw cy P) s.heap.size) := ⟨_, rfl⟩
  rw [← hQ]
  obtain ⟨E, hE⟩ : ∃ E : EV, E = (p, l, e, s, m, ([.ref x, .int a, .int b, .int c0] : List Value).toArray, below, meth, c, Q, va_A (pw cy P) s.heap.size) := ⟨_, rfl⟩
  have C : Cx E D cy 5 cX11_paper RX11 := by
    rw [hE]; exact ⟨hx0, hb, hml, hown, hT, hK, hA, hlocks⟩
  suffices g9 : G E ({ frames := 6, cells := 1, slots := 6, locals := 384 } : Room) D cy 5 P 0 0 0 [(0, .ref x), (1, .int a), (2, .int b), (3, .int c0)] [] by
    rw [hE] at g9
    exact g9 s.heap [] _ hP hD hS hlv
  refine g_aload_n C dX11_paper_0 rfl 0 rfl ?_
  refine g_iload_n C dX11_paper_1 rfl 1 rfl ?_
  refine g_iload_n C dX11_paper_2 rfl 2 rfl ?_
  refine g_callVQ (rest := []) C mv_X11_185 [.int a, .int b] (hq) hx hxK rfl rfl (by decide) (Nat.le_of_ble_eq_true rfl) (by decide) dX11_paper_3 (fun r1 Q2 h3 => ?_)
  obtain ⟨rfl, rfl⟩ := h3
  refine g_astoreN (lv' := [(4, .null), (0, .ref x), (1, .int a), (2, .int b), (3, .int c0)]) C dX11_paper_6 (by decide) rfl ?_
  refine g_aloadN C dX11_paper_8 0 rfl ?_
  refine g_ifnonnullN C dX11_paper_10 ?_
  subst hE
  subst hQ
  intro H locs ls hP1 hD1 hS1 hl1
  refine vx_throw0 (rest := []) (own := RX11) (cls := xN) (names := xS) (ik := 188) (ic := 190) (A := va_A (pw cy P) s.heap.size) hx0 hb hl hown (by decide) (by decide) (xw_k s hT _) (xw_i s hT _) (xw_at hT hTX _) xw_ot hU hN hS1 (hl1.1.trans hml.symm) dX11_paper_13 dX11_paper_16 dX11_paper_17 dX11_paper_20 (fun z hz => (hex z hz).elim) (by decide) (by decide) (by decide) (by decide) hlocks ?_ ?_ (by decide) (by decide)
  · intro t hal hsz hk
    exact ⟨P, rfl, ⟨rfl, hP1.kept (fun k q hq9 => hk q.1 (hP1 k q hq9).lt), va_K.moved hal hK, hD1⟩, Nat.le_trans hS1.1 hsz, fun q h1 h2 => (hk q (Nat.lt_of_lt_of_le h1 hS1.1)).trans (hS1.2.1 q h1 h2)⟩
  · exact hS1.2.2
theorem dL_paper_0 : decode cL_paper 0 = .ok (.aload 4, 2) := by decide +kernel
theorem dL_paper_2 : decode cL_paper 2 = .ok (.iconst 0, 1) := by decide +kernel
theorem dL_paper_3 : decode cL_paper 3 = .ok (.aload_n 0, 1) := by decide +kernel
theorem dL_paper_4 : decode cL_paper 4 = .ok (.iload_n 1, 1) := by decide +kernel
theorem dL_paper_5 : decode cL_paper 5 = .ok (.iload_n 2, 1) := by decide +kernel
theorem dL_paper_6 : decode cL_paper 6 = .ok (.iload_n 3, 1) := by decide +kernel
theorem dL_paper_7 : decode cL_paper 7 = .ok (.invokevirtual 7, 3) := by decide +kernel
theorem dL_paper_15 : decode cL_paper 15 = .ok (.astore 5, 2) := by decide +kernel
theorem dL_paper_17 : decode cL_paper 17 = .ok (.iconst 1, 1) := by decide +kernel
theorem dL_paper_18 : decode cL_paper 18 = .ok (.ireturn, 1) := by decide +kernel
set_option maxHeartbeats 4000000 in
set_option maxRecDepth 100000 in
theorem c_L_paper {P : PP} {x o : Nat} {a b c0 : Int32} (hx : x ∈ pL P) (hxK : pK P x = 11) (hq : CtrQ yX11_paperAt cX11_paperAt 3 (some (Jvm.ClassFile.FieldType.object "ThousandLeaflets$Paper")) ({ frames := 2, cells := 0, slots := 0, locals := 128 } : Room) 0 0 P [.ref x, .int a, .int b] (fun r P2 => P = P2 ∧ r = none)) (l : Launch) (hl : l.stackTraces = false) (D : va_G) (cy : Nat → ClassId) (sz : Nat) : Met l yL_paper [.codeWith yL_paper cL_paper 6 (some .int) [(0, 12, 15, 13)]] ({ frames := 7, cells := 1, slots := 6, locals := 448 } : Room) (va_Pc [.ref x, .int a, .int b, .int c0, .ref o] (pX D cy P sz)) (va_Qi (fun r P2 => P = P2 ∧ r = 1) (pA D cy (va_A (pw cy P) sz)) (va_A (pw cy P) sz)) 1 6 (va_A (pw cy P) sz) := by
  refine va_MetW (cc := cL_paper) (maxL := 6) (ret := some .int) (by decide) rfl ?_
  intro p e s m args below meth c s₁ B hml hv
  have htab : c.exceptionTable.toList = [] ++ (⟨0, 12, 15, 13⟩ : ExceptionTableEntry) :: [] := vx_table (x := yL_paper) B (atoms_spec (ws := [.codeWith yL_paper cL_paper 6 (some .int) [(0, 12, 15, 13)]]) B.pre _ List.mem_cons_self)
  obtain ⟨rfl, ⟨hsz, hT, hP, hK, hD0⟩, hTX, hUN⟩ := hv
  have hx0 := B.exec
  have hb := B.bytes
  have hr := B.returns
  have hown : s.vm.findClass RL = some m.cls := findClass_of_methodNamed B.named
  have hlocks := B.notSynchronized
  subst hsz
  have hD := hD0.self (sz := s.heap.size)
  have hA : ∀ q : Nat, s.heap.size ≤ q → va_A (pw cy P) s.heap.size q := fun q h => Or.inr h
  have hS : va_S (va_A (pw cy P) s.heap.size) s.heap s.heap [] := va_S.rf
  have hlv := lv_entry [.ref x, .int a, .int b, .int c0, .ref o] (n := 6) (Nat.le_of_ble_eq_true rfl)
  rw [show lv_args 0 [.ref x, .int a, .int b, .int c0, .ref o] = [(0, .ref x), (1, .int a), (2, .int b), (3, .int c0), (4, .ref o)] from rfl] at hlv
  rw [lg_entry_eq]
  obtain ⟨Q, hQ⟩ : ∃ z, z = MQ below (va_Qi (fun r P2 => P = P2 ∧ r = 1) (pA D cy (va_A (pw cy P) s.heap.size)) (va_A (pw cy P) s.heap.size)) ([.ref x, .int a, .int b, .int c0, .ref o] : List Value).toArray s 1 6 (va_A (pw cy P) s.heap.size) := ⟨_, rfl⟩
  rw [← hQ]
  obtain ⟨E, hE⟩ : ∃ E : EV, E = (p, l, e, s, m, ([.ref x, .int a, .int b, .int c0, .ref o] : List Value).toArray, below, meth, c, Q, va_A (pw cy P) s.heap.size) := ⟨_, rfl⟩
  have C : Cx E D cy 6 cL_paper RL := by
    rw [hE]; exact ⟨hx0, hb, hml, hown, hT, hK, hA, hlocks⟩
  suffices g9 : G E ({ frames := 7, cells := 1, slots := 6, locals := 448 } : Room) D cy 6 P 0 0 0 [(0, .ref x), (1, .int a), (2, .int b), (3, .int c0), (4, .ref o)] [] by
    rw [hE] at g9
    exact g9 s.heap [] _ hP hD hS hlv
  refine g_aload C dL_paper_0 4 rfl ?_
  refine g_iconst (v := 0) C dL_paper_2 (by decide) ?_
  refine g_aload_n C dL_paper_3 rfl 0 rfl ?_
  refine g_iload_n C dL_paper_4 rfl 1 rfl ?_
  refine g_iload_n C dL_paper_5 rfl 2 rfl ?_
  refine g_iload_n C dL_paper_6 rfl 3 rfl ?_
  subst hE
  subst hQ
  intro H locs ls hP1 hD1 hS1 hl1
  have hFc : ∀ q : Nat, va_A (pw cy P) H.size q → va_A (pw cy P) s.heap.size q := by
    rintro q (⟨j, x9, h⟩ | h)
    · exact hD1.2 j _ h
    · exact hA q (Nat.le_trans hS1.1 h)
  have hpre : ∀ U : State, U.heap = H → s.WarmedH U.vm → va_Pc [.ref x, .int a, .int b, .int c0] (pX D cy P H.size) ([.ref x, .int a, .int b, .int c0] : List Value).toArray U := fun U hU9 hW => ⟨rfl, ⟨by rw [hU9], hT.warm hW, by rw [hU9]; exact hP1, va_K.moved hW.alike hK, ⟨hD1.1, fun _ _ _ => trivial⟩⟩, hTX.warm hW, hUN.call hU9 hW hS1 hFc⟩
  obtain ⟨mb, m1, m2, T9, N9, m3, m4⟩ := mv_L_7
  obtain ⟨q0, hq0⟩ := pw_get (cy := cy) hx
  rw [pe_obj hxK m4] at hq0
  have hrun := vx_runV (p := p) (l := l) (e := e) (R := ({ frames := 7, cells := 1, slots := 6, locals := 448 } : Room)) (args := ([.ref x, .int a, .int b, .int c0, .ref o] : List Value).toArray) (below := below) (meth := meth) (locs := locs) (cells := 0) (slots := 0) (g := F0 m 7 ls [.int c0, .int b, .int a, .ref x, .int 0, .ref o]) (As := [.int a, .int b, .int c0]) (rest := [.int 0, .ref o]) (Ts := []) ⟨hx0, hb, hml, hown, fun w hw => absurd hw List.not_mem_nil⟩ (c_X11_paper hx hxK hq l hl D cy H.size) ⟨callB_tw hT mb rfl rfl (by decide) (by decide), m1 s hT _, m2 s hT _⟩ ⟨pX_blind, va_recv hK hP1 m3 hq0, hpre⟩ rfl rfl hl1.1 rfl (lv_room (Nat.le_of_ble_eq_true rfl)) dL_paper_7 ⟨by decide, by decide⟩
  refine vx_calli hrun hS1 (fun q _ h => hFc q h) hFc (fun q _ h => hFc q h) (fun E9 ce q9 u t H1 locs1 ht hal hu hB hz hk hS2 hce hcv hcl => ?_) (fun r u t H1 locs1 _ _ hf => hf.elim)
  obtain ⟨rfl, hA9⟩ := hB
  subst hu
  refine vx_catch (own := RL) (name := xN) hown [] ⟨0, 12, 15, 13⟩ [] htab (fun z hz => by cases hz) (by decide) (by decide) (xw_c s hT _) (xB_at (State.WarmedH.refl s) (by decide +kernel) (hTX (.castable xN xN) (by decide +kernel))) hce hcv hcl ?_
  have hP2 : va_P D vwCl (pw cy u) H1 := by rw [← ht]; exact hA9.1
  have hD2 : va_D (va_A (pw cy u) s.heap.size) (pw cy u) := ⟨hA9.2.2.1, fun j q h => hFc _ (hA9.2.2.2 j q h)⟩
  suffices g8 : G (p, l, e, s, m, ([.ref x, .int a, .int b, .int c0, .ref o] : List Value).toArray, below, meth, c, MQ below (va_Qi (fun r P2 => u = P2 ∧ r = 1) (pA D cy (va_A (pw cy u) s.heap.size)) (va_A (pw cy u) s.heap.size)) ([.ref x, .int a, .int b, .int c0, .ref o] : List Value).toArray s 1 6 (va_A (pw cy u) s.heap.size), va_A (pw cy u) s.heap.size) ({ frames := 7, cells := 1, slots := 6, locals := 448 } : Room) D cy 6 u 1 6 15 [(0, .ref x), (1, .int a), (2, .int b), (3, .int c0), (4, .ref o)] [.ref q9] from g8 H1 locs1 ls hP2 hD2 hS2 hl1
  refine g_astore (lv' := (5, .ref q9) :: [(0, .ref x), (1, .int a), (2, .int b), (3, .int c0), (4, .ref o)]) C dL_paper_15 (by decide) rfl ?_
  refine g_iconst (v := 1) C dL_paper_17 (by decide) ?_
  intro H2 locs2 ls2 hP3 hD3 hS3 hl3
  exact W.zret hx0 hb hr rfl (fun t9 ht9 hW => ⟨⟨1, u, rfl, ⟨rfl, rfl⟩, by rw [ht9]; exact hP3, va_K.moved hW.alike hK, hD3⟩, hS3.F ht9⟩) hS3.2.2 dL_paper_18
/-- what a throw asks of the world, in the law -/
def Xt (E : EV) : Prop := match E with
  | (p, l, e, s, m, args, below, meth, c, Q, A) => l.stackTraces = false ∧ TX s ∧ xU A s s.heap
theorem pm_L_paper : (parseMethodDescriptor yL_paper.desc).map (fun d => d.parameters.length) = some 5 := by decide +kernel
theorem g_callPaper {E : EV} {R : Room} {D : va_G} {cy : Nat → ClassId} {nL : Nat} {P : PP} {cs sl pc : Nat} {lv : List (Nat × Value)} {st rest : List Value} {cc : ByteArray} (C : Cx E D cy nL cc RL) (hX : Xt E) {x o : Nat} {a b c0 : Int32} (hx : x ∈ pL P) (hxK : pK P x = 11) (hq : CtrQ yX11_paperAt cX11_paperAt 3 (some (Jvm.ClassFile.FieldType.object "ThousandLeaflets$Paper")) ({ frames := 2, cells := 0, slots := 0, locals := 128 } : Room) 0 0 P [.ref x, .int a, .int b] (fun r P2 => P = P2 ∧ r = none)) (hst : st = [.ref o, .int c0, .int b, .int a, .ref x] ++ rest) (hrm : 8 ≤ R.frames ∧ 1000 ≤ R.locals) (hrest : (rest.map fun v => v.category).sum ≤ 8) (hroom : cs + 1 ≤ R.cells ∧ sl + 6 ≤ R.slots) (d : decode cc pc = .ok (.invokestatic 68, 3)) (k : G E R D cy nL P (cs + 1) (sl + 6) (pc + 3) lv (.int 1 :: rest)) : G E R D cy nL P cs sl pc lv st := by
  obtain ⟨p, l, e, s, m, args, below, meth, c, Q, A⟩ := E
  obtain ⟨hx0, hb, hml, hown, hT, hK, hA, hlk⟩ := C
  obtain ⟨hl, hTX, hUN⟩ := hX
  intro H locs ls hP hD hS hlv
  have hFc : ∀ q : Nat, va_A (pw cy P) H.size q → A q := by
    rintro q (⟨j, x9, h⟩ | h)
    · exact hD.2 j _ h
    · exact hA q (Nat.le_trans hS.1 h)
  have hpre : ∀ U : State, U.heap = H → s.WarmedH U.vm → va_Pc [.ref x, .int a, .int b, .int c0, .ref o] (pX D cy P H.size) ([.ref x, .int a, .int b, .int c0, .ref o] : List Value).toArray U := fun U hU9 hW => ⟨rfl, ⟨by rw [hU9], hT.warm hW, by rw [hU9]; exact hP, va_K.moved hW.alike hK, ⟨hD.1, fun _ _ _ => trivial⟩⟩, hTX.warm hW, hUN.call hU9 hW hS hFc⟩
  have hrun := vx_runSW (p := p) (l := l) (e := e) (R := R) (args := args) (below := below) (meth := meth) (locs := locs) (cells := cs) (slots := sl) (g := F0 m pc ls st) (As := [.ref x, .int a, .int b, .int c0, .ref o]) (rest := rest) (Ts := []) (maxL := 6) (n := 5) (hh := [(0, 12, 15, 13)]) (bytes := cL_paper) (ret := some .int) ⟨hx0, hb, hml, hown, fun w hw => absurd hw List.not_mem_nil⟩ (c_L_paper hx hxK hq l hl D cy H.size) ⟨⟨rfl, rfl, by simpa using hrm.1, Nat.le_trans (by decide) hrm.2, fun w hw a' U hW => by rw [List.mem_singleton.mp hw]; exact xw_w U (hT.warm hW) a', List.mem_cons_self⟩, xw_w s hT _, xw_n s hT _, ⟨by decide +kernel, by decide +kernel⟩, fun sig h => by have h6 := pm_L_paper; rw [h] at h6; exact (Option.some.inj h6).symm, xw_l s hT _, xw_s s hT _⟩ ⟨pX_blind, hpre⟩ rfl rfl hlv.1 hst (lv_room hrest) d hroom
  exact va_calli hrun hS (fun q _ h => hFc q h) hFc (fun r u t H1 locs1 ht hvm hw hB hz1 hk1 hS1 => by
    obtain ⟨rfl, rfl⟩ := hw
    exact k H1 locs1 ls (by rw [← ht]; exact hB.1) ⟨hB.2.2.1, fun j q h => hFc _ (hB.2.2.2 j q h)⟩ hS1 hlv)
