/-! TEXTS: what the class's four words are, and the JDK's own methods on them -/
def CtI (D : va_G) (cy : Nat → ClassId) (y : MethodName) (yc : ByteArray) (mL : Nat) (ret : Option FieldType) (rm : Room) (mc ms : Nat) (P : PP) (av : List Value) (post : Int32 → PP → Prop) : Prop := ∀ (l : Launch) (sz : Nat), Met l y [.code y yc mL ret] rm (va_Pc av (pB D cy P sz)) (va_Qi post (pA D cy (va_A (pw cy P) sz)) (va_A (pw cy P) sz)) mc ms (va_A (pw cy P) sz)
def CtrID (y : MethodName) (yc : ByteArray) (mL : Nat) (ret : Option FieldType) (rm : Room) (mc ms : Nat) (P : PP) (av : va_G → List Value) (post : Int32 → PP → Prop) : Prop := ∀ (D : va_G) (cy : Nat → ClassId), CtI D cy y yc mL ret rm mc ms P (av D) post
theorem enIx {D : va_G} {cy : Nat → ClassId} {y : MethodName} {yc : ByteArray} {mL : Nat} {rt : FieldType} {rm : Room} {mc ms : Nat} {P : PP} {av : List Value} {post : Int32 → PP → Prop} {lv : List (Nat × Value)} (hy : plainName y.cls = true) (hlen : (lg_sl av).length ≤ mL) (hlv : lv_args 0 av = lv) (body : ∀ (E : EV), Cx E D cy mL yc y.cls → (y.name = "<init>" → Ci E) → RetI E rm D cy mL yc mc ms rt post → G E rm D cy mL P 0 0 0 lv []) : CtI D cy y yc mL (some rt) rm mc ms P av post := by
  intro l sz
  refine Met.ofW (cc := yc) (maxL := mL) (ret := some rt) hy rfl ?_
  intro p e s m args below meth c s₁ B hml hv
  obtain ⟨rfl, hsz, hT, hP, hK, hD0, hZ⟩ := hv
  have hx := B.exec
  have hb := B.bytes
  have hr := B.returns
  have hown : s.vm.findClass y.cls = some m.cls := findClass_of_methodNamed B.named
  have hlocks := B.notSynchronized
  have hin : meth.name = y.name := (name_of_methodNamed B.named B.method).1
  subst hsz
  have hD := hD0.self (sz := s.heap.size)
  have hA : ∀ q : Nat, s.heap.size ≤ q → va_A (pw cy P) s.heap.size q := fun q h => Or.inr h
  have hS : va_S (va_A (pw cy P) s.heap.size) s.heap s.heap [] := va_S.rf
  have hl := lv_entry av (n := mL) hlen
  rw [hlv] at hl
  rw [lg_entry_eq]
  refine body (p, l, e, s, m, av.toArray, below, meth, c, _, va_A (pw cy P) s.heap.size) ⟨hx, hb, hml, hown, hT, hK, hA, hlocks, hZ⟩ (fun h => hin.trans h) ?_ s.heap [] _ hP hD hS hl
  intro P2 cs sl pc lv2 v d hn h1 h2 hp H locs ls hP2 hD2 hS2 hl2
  refine W.widen h1 h2 ?_
  exact W.zret hx hb hr hn (fun t ht hW => ⟨⟨v, P2, rfl, hp, by rw [ht]; exact hP2, va_K.moved hW.alike hK, hD2⟩, hS2.F ht⟩) hS2.2.2 d
section GX
variable {E : EV} {R : Room} {D : va_G} {cy : Nat → ClassId} {nL : Nat} {P : PP} {cs sl pc : Nat} {lv lv' : List (Nat × Value)} {st rest : List Value} {cc : ByteArray} {own : String}
theorem g_callVIx (C : Cx E D cy nL cc own) {idx mL n ci mc ms b : Nat} {y : MethodName} {yc : ByteArray} {ret : Option FieldType} {rm : Room} (mv : MV own idx y yc mL ret n ci) (As : List Value) {post : Int32 → PP → Prop} (hM : CtI D cy y yc mL ret rm mc ms P (.ref b :: As) post) (hbL : b ∈ pL P) (hbK : pK P b = ci) (hst : st = As.reverse ++ .ref b :: rest) (hn : As.length = n) (hrm : rm.cells = mc ∧ rm.slots = ms ∧ rm.frames + 1 ≤ R.frames ∧ 8 + (mL + 11) + rm.locals ≤ R.locals) (hrest : (rest.map fun v => v.category).sum ≤ 8) (hroom : cs + mc ≤ R.cells ∧ sl + ms ≤ R.slots) (d : decode cc pc = .ok (.invokevirtual idx, 3)) (k : ∀ (r : Int32) (u : PP), post r u → G E R D cy nL u (cs + mc) (sl + ms) (pc + 3) lv (.int r :: rest)) : G E R D cy nL P cs sl pc lv st := by
  obtain ⟨p, l, e, s, m, args, below, meth, c, Q, A⟩ := E
  obtain ⟨hx, hb, hml, hown, hT, hK, hA, hlk, hZ⟩ := C
  intro H locs ls hP hD hS hl
  have hFc : ∀ q : Nat, va_A (pw cy P) H.size q → A q := by
    rintro q (⟨j, x, h⟩ | h)
    · exact hD.2 j _ h
    · exact hA q (Nat.le_trans hS.1 h)
  have hpre : ∀ U : State, U.heap = H → s.WarmedH U.vm → va_Pc (.ref b :: As) (pB D cy P H.size) ((.ref b :: As) : List Value).toArray U := fun U hU hW => ⟨rfl, by rw [hU], hT.warm hW, by rw [hU]; exact hP, va_K.moved hW.alike hK, ⟨hD.1, fun _ _ _ => trivial⟩, hZ.call hW hU hS hFc⟩
  obtain ⟨mb, m1, m2, T, N, m3, m4⟩ := mv
  obtain ⟨q0, hq⟩ := pw_get (cy := cy) hbL
  rw [pe_obj hbK m4] at hq
  have hrun := va_runV (p := p) (l := l) (e := e) (R := R) (below := below) (meth := meth) (locs := locs) (cells := cs) (slots := sl) (g := F0 m pc ls st) (As := As) (rest := rest) (Ts := []) ⟨hx, hb, hml, hown, fun w hw => absurd hw List.not_mem_nil⟩ (hM l H.size) ⟨callB_tw hT mb hrm.1 hrm.2.1 hrm.2.2.1 hrm.2.2.2, m1 s hT args, m2 s hT args⟩ ⟨pB_blind, va_recv hK hP m3 hq, hpre⟩ rfl hn hl.1 hst (lv_room hrest) d hroom
  exact va_calli hrun hS (fun q _ h => hFc q h) hFc (fun r u t H1 locs1 ht hvm hw hB hz1 hk1 hS1 => k r u hw H1 locs1 ls (by rw [← ht]; exact hB.1) ⟨hB.2.2.1, fun j q h => hFc _ (hB.2.2.2 j q h)⟩ hS1 hl)
theorem g_callSIx (C : Cx E D cy nL cc own) {idx mL n ci mc ms b : Nat} {y : MethodName} {yc : ByteArray} {ret : Option FieldType} {rm : Room} (mv : MS own idx y yc mL ret n) (As : List Value) {post : Int32 → PP → Prop} (hM : CtI D cy y yc mL ret rm mc ms P As post) (hst : st = As.reverse ++ rest) (hn : As.length = n) (hrm : rm.cells = mc ∧ rm.slots = ms ∧ rm.frames + 1 ≤ R.frames ∧ 8 + (mL + 11) + rm.locals ≤ R.locals) (hrest : (rest.map fun v => v.category).sum ≤ 8) (hroom : cs + mc ≤ R.cells ∧ sl + ms ≤ R.slots) (d : decode cc pc = .ok (.invokestatic idx, 3)) (k : ∀ (r : Int32) (u : PP), post r u → G E R D cy nL u (cs + mc) (sl + ms) (pc + 3) lv (.int r :: rest)) : G E R D cy nL P cs sl pc lv st := by
  obtain ⟨p, l, e, s, m, args, below, meth, c, Q, A⟩ := E
  obtain ⟨hx, hb, hml, hown, hT, hK, hA, hlk, hZ⟩ := C
  intro H locs ls hP hD hS hl
  have hFc : ∀ q : Nat, va_A (pw cy P) H.size q → A q := by
    rintro q (⟨j, x, h⟩ | h)
    · exact hD.2 j _ h
    · exact hA q (Nat.le_trans hS.1 h)
  have hpre : ∀ U : State, U.heap = H → s.WarmedH U.vm → va_Pc As (pB D cy P H.size) (As : List Value).toArray U := fun U hU hW => ⟨rfl, by rw [hU], hT.warm hW, by rw [hU]; exact hP, va_K.moved hW.alike hK, ⟨hD.1, fun _ _ _ => trivial⟩, hZ.call hW hU hS hFc⟩
  obtain ⟨mb, m1⟩ := mv
  have hrun := va_runS (p := p) (l := l) (e := e) (R := R) (below := below) (meth := meth) (locs := locs) (cells := cs) (slots := sl) (g := F0 m pc ls st) (As := As) (rest := rest) (Ts := []) ⟨hx, hb, hml, hown, fun w hw => absurd hw List.not_mem_nil⟩ (hM l H.size) ⟨callB_tw hT mb hrm.1 hrm.2.1 hrm.2.2.1 hrm.2.2.2, m1 s hT args⟩ ⟨pB_blind, hpre⟩ rfl hn hl.1 hst (lv_room hrest) d hroom
  exact va_calli hrun hS (fun q _ h => hFc q h) hFc (fun r u t H1 locs1 ht hvm hw hB hz1 hk1 hS1 => k r u hw H1 locs1 ls (by rw [← ht]; exact hB.1) ⟨hB.2.2.1, fun j q h => hFc _ (hB.2.2.2 j q h)⟩ hS1 hl)
theorem g_callKI (C : Cx E D cy nL cc own) {idx mL n mc ms i : Nat} (hi : i < 4) {y : MethodName} {yc : ByteArray} {ret : Option FieldType} {rm : Room} (mv : MB own idx y yc mL ret n ∧ TW (.instanceMethod y) ∧ TW (.selects "java/lang/String" y y)) (As : List Value) {post : Int32 → PP → Prop} (hM : CtI D cy y yc mL ret rm mc ms P (.ref (D.2 100 i) :: As) post) (hst : st = As.reverse ++ .ref (D.2 100 i) :: rest) (hn : As.length = n) (hrm : rm.cells = mc ∧ rm.slots = ms ∧ rm.frames + 1 ≤ R.frames ∧ 8 + (mL + 11) + rm.locals ≤ R.locals) (hrest : (rest.map fun v => v.category).sum ≤ 8) (hroom : cs + mc ≤ R.cells ∧ sl + ms ≤ R.slots) (d : decode cc pc = .ok (.invokevirtual idx, 3)) (k : ∀ (r : Int32) (u : PP), post r u → G E R D cy nL u (cs + mc) (sl + ms) (pc + 3) lv (.int r :: rest)) : G E R D cy nL P cs sl pc lv st := by
  obtain ⟨p, l, e, s, m, args, below, meth, c, Q, A⟩ := E
  obtain ⟨hx, hb, hml, hown, hT, hK, hA, hlk, hZ⟩ := C
  intro H locs ls hP hD hS hl
  have hFc : ∀ q : Nat, va_A (pw cy P) H.size q → A q := by
    rintro q (⟨j, x, h⟩ | h)
    · exact hD.2 j _ h
    · exact hA q (Nat.le_trans hS.1 h)
  have hpre : ∀ U : State, U.heap = H → s.WarmedH U.vm → va_Pc (.ref (D.2 100 i) :: As) (pB D cy P H.size) ((.ref (D.2 100 i) :: As) : List Value).toArray U := fun U hU hW => ⟨rfl, by rw [hU], hT.warm hW, by rw [hU]; exact hP, va_K.moved hW.alike hK, ⟨hD.1, fun _ _ _ => trivial⟩, hZ.call hW hU hS hFc⟩
  obtain ⟨mb, m1, m2⟩ := mv
  have hrun := va_runV (p := p) (l := l) (e := e) (R := R) (below := below) (meth := meth) (locs := locs) (cells := cs) (slots := sl) (g := F0 m pc ls st) (As := As) (rest := rest) (Ts := []) ⟨hx, hb, hml, hown, fun w hw => absurd hw List.not_mem_nil⟩ (hM l H.size) ⟨callB_tw hT mb hrm.1 hrm.2.1 hrm.2.2.1 hrm.2.2.2, m1 s hT args, m2 s hT args⟩ ⟨pB_blind, vk_recv hZ.1 hi hS, hpre⟩ rfl hn hl.1 hst (lv_room hrest) d hroom
  exact va_calli hrun hS (fun q _ h => hFc q h) hFc (fun r u t H1 locs1 ht hvm hw hB hz1 hk1 hS1 => k r u hw H1 locs1 ls (by rw [← ht]; exact hB.1) ⟨hB.2.2.1, fun j q h => hFc _ (hB.2.2.2 j q h)⟩ hS1 hl)
theorem g_ldcS (C : Cx E D cy nL cc RX4) {i : Nat} (hi : i < 4) (d : decode cc pc = .ok (.ldc (kxS i), 2)) (k : G E R D cy nL P cs sl (pc + 2) lv (.ref (D.2 100 i) :: rest)) : G E R D cy nL P cs sl (pc) lv (rest) := by
  obtain ⟨p, l, e, s, m, args, below, meth, c, Q, A⟩ := E
  obtain ⟨hx, hb, hml, hown, hT, hK, hA, hlk, hZ⟩ := C
  intro H locs ls hP hD hS hl
  exact va_ldcS hx hb hown (hZ.2.1 i hi) d (k H locs ls hP hD hS hl)
theorem g_sC (C : Cx E D cy nL cc own) {i idx : Nat} (hi : i < 4) (w : TW (.fieldLink own idx "java/lang/String" "coder" "B")) (d : decode cc pc = .ok (.getfield idx, 3)) (k : G E R D cy nL P cs sl (pc + 3) lv (.int 0 :: rest)) : G E R D cy nL P cs sl (pc) lv (.ref (D.2 100 i) :: rest) := by
  obtain ⟨p, l, e, s, m, args, below, meth, c, Q, A⟩ := E
  obtain ⟨hx, hb, hml, hown, hT, hK, hA, hlk, hZ⟩ := C
  intro H locs ls hP hD hS hl
  exact vk_getf hx hb (hZ.1.1 i hi).2.1 hS hown (w s hT args) (fun _ h => h) d (k H locs ls hP hD hS hl)
theorem g_sV (C : Cx E D cy nL cc own) {i idx : Nat} (hi : i < 4) (w : TW (.fieldLink own idx "java/lang/String" "value" "[B")) (d : decode cc pc = .ok (.getfield idx, 3)) (k : G E R D cy nL P cs sl (pc + 3) lv (.ref (D.2 101 i) :: rest)) : G E R D cy nL P cs sl (pc) lv (.ref (D.2 100 i) :: rest) := by
  obtain ⟨p, l, e, s, m, args, below, meth, c, Q, A⟩ := E
  obtain ⟨hx, hb, hml, hown, hT, hK, hA, hlk, hZ⟩ := C
  intro H locs ls hP hD hS hl
  exact vk_getf hx hb (hZ.1.1 i hi).2.2.1 hS hown (w s hT args) (fun _ h => h) d (k H locs ls hP hD hS hl)
theorem g_sL (C : Cx E D cy nL cc own) {i : Nat} (hi : i < 4) (d : decode cc pc = .ok (.arraylength, 1)) (k : G E R D cy nL P cs sl (pc + 1) lv (.int (nI (lenS.getD i 0)) :: rest)) : G E R D cy nL P cs sl (pc) lv (.ref (D.2 101 i) :: rest) := by
  obtain ⟨p, l, e, s, m, args, below, meth, c, Q, A⟩ := E
  obtain ⟨hx, hb, hml, hown, hT, hK, hA, hlk, hZ⟩ := C
  intro H locs ls hP hD hS hl
  exact va_tlen hx hb (hZ.1.1 i hi).2.2.2 hS rfl d (k H locs ls hP hD hS hl)
theorem g_sB (C : Cx E D cy nL cc own) {i : Nat} {x : Int32} (hi : i < 4) (hin : vp_in x (lenS.getD i 0)) (d : decode cc pc = .ok (.baload, 1)) (k : G E R D cy nL P cs sl (pc + 1) lv (.int ((bytS.getD i []).getD x.toNatClampNeg 0) :: rest)) : G E R D cy nL P cs sl (pc) lv (.int x :: .ref (D.2 101 i) :: rest) := by
  obtain ⟨p, l, e, s, m, args, below, meth, c, Q, A⟩ := E
  obtain ⟨hx, hb, hml, hown, hT, hK, hA, hlk, hZ⟩ := C
  intro H locs ls hP hD hS hl
  exact va_tb hx hb (hZ.1.1 i hi).2.2.2 hS hin rfl d (k H locs ls hP hD hS hl)
theorem g_gC (C : Cx E D cy nL cc own) {idx : Nat} (w : TW (.fieldLink own idx "java/lang/String" "COMPACT_STRINGS" "Z")) (d : decode cc pc = .ok (.getstatic idx, 3)) (k : G E R D cy nL P cs sl (pc + 3) lv (.int 1 :: rest)) : G E R D cy nL P cs sl (pc) lv (rest) := by
  obtain ⟨p, l, e, s, m, args, below, meth, c, Q, A⟩ := E
  obtain ⟨hx, hb, hml, hown, hT, hK, hA, hlk, hZ⟩ := C
  intro H locs ls hP hD hS hl
  exact va_gets hx hb hZ.2.2.1 hS hown (w s hT args) (fun _ h => h) d (k H locs ls hP hD hS hl)
theorem g_gF (C : Cx E D cy nL cc own) {idx : Nat} (w : TW (.fieldLink own idx "jdk/internal/util/Preconditions" "SIOOBE_FORMATTER" "Ljava/util/function/BiFunction;")) (d : decode cc pc = .ok (.getstatic idx, 3)) (k : ∀ o : Option Nat, G E R D cy nL P cs sl (pc + 3) lv (va_rf o :: rest)) : G E R D cy nL P cs sl (pc) lv (rest) := by
  obtain ⟨p, l, e, s, m, args, below, meth, c, Q, A⟩ := E
  obtain ⟨hx, hb, hml, hown, hT, hK, hA, hlk, hZ⟩ := C
  intro H locs ls hP hD hS hl
  rcases hZ.2.2.2 with h | ⟨t, h⟩
  · exact va_gets hx hb h hS hown (w s hT args) (fun _ h => h) d (k none H locs ls hP hD hS hl)
  · exact va_gets hx hb h hS hown (w s hT args) (fun _ h => h) d (k (some t) H locs ls hP hD hS hl)
theorem g_i2c (C : Cx E D cy nL cc own) {x v : Int32} (d : decode cc pc = .ok (.i2c, 1)) (hv : (x.toUInt32 % 65536).toInt32 = v) (k : G E R D cy nL P cs sl (pc + 1) lv (.int v :: rest)) : G E R D cy nL P cs sl (pc) lv (.int x :: rest) := by
  obtain ⟨p, l, e, s, m, args, below, meth, c, Q, A⟩ := E
  obtain ⟨hx, hb, hml, hown, hT, hK, hA, hlk, hZ⟩ := C
  intro H locs ls hP hD hS hl
  exact lv_i2c hx hb d hv (k H locs ls hP hD hS hl)
end GX
theorem tz_473 : TW (Jvm.Cond.fieldLink "java/lang/String" (38 : Nat) "java/lang/String" "COMPACT_STRINGS" "Z") := sb_2 (List.mem_of_getElem? (i := 233) rfl) rfl
theorem tz_1725 : TW (Jvm.Cond.fieldLink "java/lang/String" (15 : Nat) "java/lang/String" "coder" "B") := sb_8 (List.mem_of_getElem? (i := 45) rfl) rfl
theorem tz_469 : TW (Jvm.Cond.methodLink "java/lang/String" (335 : Nat) ({ cls := "java/lang/String", name := "coder", desc := "()B" } : Jvm.MethodName)) := sb_2 (List.mem_of_getElem? (i := 229) rfl) rfl
theorem tz_13 : TW (Jvm.Cond.initialized "java/lang/String") := sb_1 (List.mem_of_getElem? (i := 13) rfl) rfl
theorem tz_472 : TW (Jvm.Cond.code ({ cls := "java/lang/String", name := "coder", desc := "()B" } : Jvm.MethodName) prog_20_method_152_code (1 : Nat) (Option.some Jvm.ClassFile.FieldType.byte)) := sb_2 (List.mem_of_getElem? (i := 232) rfl) rfl
theorem tz_470 : TW (Jvm.Cond.instanceMethod ({ cls := "java/lang/String", name := "coder", desc := "()B" } : Jvm.MethodName)) := sb_2 (List.mem_of_getElem? (i := 230) rfl) rfl
theorem tz_471 : TW (Jvm.Cond.selects "java/lang/String" ({ cls := "java/lang/String", name := "coder", desc := "()B" } : Jvm.MethodName) ({ cls := "java/lang/String", name := "coder", desc := "()B" } : Jvm.MethodName)) := sb_2 (List.mem_of_getElem? (i := 231) rfl) rfl
theorem mk_J0_335 : MB RJ0 335 yJ0_coder_7d493 cJ0_coder_7d493 1 (some Jvm.ClassFile.FieldType.byte) 0 ∧ TW (.instanceMethod yJ0_coder_7d493) ∧ TW (.selects "java/lang/String" yJ0_coder_7d493 yJ0_coder_7d493) := ⟨⟨tz_469, tz_13, tz_472, nh_J0.1, nh_J0.2, pm_J0_coder_7d493⟩, tz_470, tz_471⟩
theorem len_sh : ∀ i, i < 4 → nI (lenS.getD i 0) >>> ((0 : Int32) &&& 31) = nI (lenS.getD i 0) := by decide +kernel
theorem tz_1724 : TW (Jvm.Cond.fieldLink "java/lang/String" (9 : Nat) "java/lang/String" "value" "[B") := sb_8 (List.mem_of_getElem? (i := 44) rfl) rfl
theorem tz_489 : TW (Jvm.Cond.fieldLink "java/lang/String" (1053 : Nat) "jdk/internal/util/Preconditions" "SIOOBE_FORMATTER" "Ljava/util/function/BiFunction;") := sb_3 (List.mem_of_getElem? (i := 9) rfl) rfl
theorem len_in : ∀ i, i < 4 → (nI (lenS.getD i 0)).toInt = (lenS.getD i 0 : Nat) ∧ lenS.getD i 0 ≤ 5 := by decide +kernel
theorem tz_479 : TW (Jvm.Cond.methodLink "java/lang/String" (492 : Nat) ({ cls := "java/lang/String", name := "isLatin1", desc := "()Z" } : Jvm.MethodName)) := sb_2 (List.mem_of_getElem? (i := 239) rfl) rfl
theorem tz_482 : TW (Jvm.Cond.code ({ cls := "java/lang/String", name := "isLatin1", desc := "()Z" } : Jvm.MethodName) prog_20_method_154_code (1 : Nat) (Option.some Jvm.ClassFile.FieldType.boolean)) := sb_3 (List.mem_of_getElem? (i := 2) rfl) rfl
theorem tz_480 : TW (Jvm.Cond.instanceMethod ({ cls := "java/lang/String", name := "isLatin1", desc := "()Z" } : Jvm.MethodName)) := sb_3 (List.mem_of_getElem? (i := 0) rfl) rfl
theorem tz_481 : TW (Jvm.Cond.selects "java/lang/String" ({ cls := "java/lang/String", name := "isLatin1", desc := "()Z" } : Jvm.MethodName) ({ cls := "java/lang/String", name := "isLatin1", desc := "()Z" } : Jvm.MethodName)) := sb_3 (List.mem_of_getElem? (i := 1) rfl) rfl
theorem mk_J0_492 : MB RJ0 492 yJ0_isLatin1_aae02 cJ0_isLatin1_aae02 1 (some Jvm.ClassFile.FieldType.boolean) 0 ∧ TW (.instanceMethod yJ0_isLatin1_aae02) ∧ TW (.selects "java/lang/String" yJ0_isLatin1_aae02 yJ0_isLatin1_aae02) := ⟨⟨tz_479, tz_13, tz_482, nh_J0.1, nh_J0.2, pm_J0_isLatin1_aae02⟩, tz_480, tz_481⟩
def pSA (P : PP) (a : Nat) (f : Nat → Int32) : PP := (pL P, pK P, pN P, va_up (pI P) a f, pR P, pJ P)
theorem pe_AW {cy : Nat → ClassId} {P : PP} {a : Nat} {f : Nat → Int32} (h : pK P a = 13) (b : Nat) : va_up (pe cy P) a (.inl (cy 13, pN P a, .inl f)) b = pe cy (pSA P a f) b := by
  by_cases hb : b = a
  · subst hb
    have e : pI (pSA P b f) b = f := by
      show va_up (pI P) b f b = _
      rw [up_self]
    rw [up_self, pe_int (P := pSA P b f) (show pK (pSA P b f) b = 13 from h) (by decide), e]; rfl
  · rw [up_ne hb]
    exact (pe_off (P' := pSA P a f) (P := P) rfl rfl (by simp [pSA, pI, va_up, hb]) rfl rfl).symm
def AC (own : String) (idx : Nat) : Prop := TW (.methodLink own idx arraycopyName) ∧ TW (.native arraycopyName) ∧ TW (.static arraycopyName) ∧ TW (.initialized "java/lang/System")
theorem g_copyi {E : EV} {R : Room} {D : va_G} {cy : Nat → ClassId} {nL : Nat} {P : PP} {cs sl pc : Nat} {lv : List (Nat × Value)} {rest : List Value} {cc : ByteArray} {own : String} (C : Cx E D cy nL cc own) {idx a b : Nat} {n : Int32} (ac : AC own idx) (haL : a ∈ pL P) (haK : pK P a = 13) (hbL : b ∈ pL P) (hbK : pK P b = 13) (h3 : ¬ n < 0) (h4 : n.toNatClampNeg ≤ pN P a) (h5 : n.toNatClampNeg ≤ pN P b) (hf : 1 ≤ R.frames) (hlo : (rest.map fun v => v.category).sum + (nativeFrameWords "java/lang/System" "arraycopy" 5 + 11) ≤ R.locals) (d : decode cc pc = .ok (.invokestatic idx, 3)) (kk : G E R D cy nL (pSA P b (va_cpy (pI P a) (pI P b) 0 0 n.toNatClampNeg)) cs sl (pc + 3) lv rest) : G E R D cy nL P cs sl pc lv (.int n :: .int 0 :: .ref b :: .int 0 :: .ref a :: rest) := by
  obtain ⟨p, l, e, s, m, args, below, meth, c, Q, A⟩ := E
  obtain ⟨hx, hb, hml, hown, hT, hK, hA, hlk, hZ⟩ := C
  intro H locs ls hP hD hS hl
  obtain ⟨q0, hq⟩ := pw_get (cy := cy) haL
  obtain ⟨q1, hq1⟩ := pw_get (cy := cy) hbL
  have hq2 := hq1
  rw [pe_int haK (by decide)] at hq
  rw [pe_int hbK (by decide)] at hq1
  refine va_copyi hx hb (hml.trans hl.1.symm) hown (ac.1 s hT args) (ac.2.1 s hT args) (ac.2.2.1 s hT args) (ac.2.2.2 s hT args) hK hP hD hS q0 q1 0 0 hq hq1 rfl rfl rfl (by decide) (by decide) h3 (by show 0 + _ ≤ _; omega) (by show 0 + _ ≤ _; omega) (fun _ _ => rfl) hf hlo d (fun H1 locs1 hP1 hD1 hS1 => ?_)
  have e9 := pw_set (P' := pSA P b (va_cpy (pI P a) (pI P b) 0 0 n.toNatClampNeg)) (x := .inl (cy 13, pN P b, .inl (va_cpy (pI P a) (pI P b) 0 0 n.toNatClampNeg))) hD hbL hq2 rfl (pe_AW hbK)
  have e8 : (pw cy P).set q1 (b, .inl (cy 13, pN P b, .inl (va_cpy (pI P a) (pI P b) (0 : Int32).toNatClampNeg (0 : Int32).toNatClampNeg n.toNatClampNeg))) = pw cy (pSA P b (va_cpy (pI P a) (pI P b) 0 0 n.toNatClampNeg)) := e9
  rw [e8] at hP1 hD1
  exact kk H1 locs1 ls hP1 hD1 hS1 hl
theorem IV.setW {P : PP} {a n : Nat} {f : Nat → Int32} (I : IV P) (h : Ar P a 13 n) : IV (pSA P a f) := by
  refine ⟨I.1, fun b hb j => ?_, fun b hb hk j z hz => I.2.2 b hb hk j z hz⟩
  show rgOk (pK P b) j (va_up (pI P) a f b j)
  by_cases e : b = a
  · subst e
    rw [h.2.1]
    exact rgOk.none (rgT_arr (by decide))
  · rw [up_ne e]; exact I.2.1 b hb j
theorem EK.setW {P : PP} {a n : Nat} {f : Nat → Int32} (h : Ar P a 13 n) : EK [13] P (pSA P a f) := ⟨fun _ h => ⟨h, rfl, rfl⟩, fun b _ hk => by
  have e : b ≠ a := fun e => hk (by rw [e, h.2.1]; decide)
  show va_up (pI P) a _ b = pI P b
  rw [up_ne e], fun _ _ _ => rfl⟩
theorem tz_552 : TW (Jvm.Cond.methodLink "ThousandLeaflets$Draw" (34 : Nat) ({ cls := "java/lang/System", name := "arraycopy", desc := "(Ljava/lang/Object;ILjava/lang/Object;II)V" } : Jvm.MethodName)) := sb_3 (List.mem_of_getElem? (i := 72) rfl) rfl
theorem tz_554 : TW (Jvm.Cond.native ({ cls := "java/lang/System", name := "arraycopy", desc := "(Ljava/lang/Object;ILjava/lang/Object;II)V" } : Jvm.MethodName)) := sb_3 (List.mem_of_getElem? (i := 74) rfl) rfl
theorem tz_553 : TW (Jvm.Cond.static ({ cls := "java/lang/System", name := "arraycopy", desc := "(Ljava/lang/Object;ILjava/lang/Object;II)V" } : Jvm.MethodName)) := sb_3 (List.mem_of_getElem? (i := 73) rfl) rfl
theorem tz_17 : TW (Jvm.Cond.initialized "java/lang/System") := sb_1 (List.mem_of_getElem? (i := 17) rfl) rfl
theorem cp_X3_34 : AC RX3 34 := ⟨tz_552, tz_554, tz_553, tz_17⟩
theorem tz_465 : TW (Jvm.Cond.methodLink "ThousandLeaflets$Tape" (39 : Nat) ({ cls := "java/lang/String", name := "length", desc := "()I" } : Jvm.MethodName)) := sb_2 (List.mem_of_getElem? (i := 225) rfl) rfl
theorem tz_468 : TW (Jvm.Cond.code ({ cls := "java/lang/String", name := "length", desc := "()I" } : Jvm.MethodName) prog_20_method_54_code (1 : Nat) (Option.some Jvm.ClassFile.FieldType.int)) := sb_2 (List.mem_of_getElem? (i := 228) rfl) rfl
theorem tz_466 : TW (Jvm.Cond.instanceMethod ({ cls := "java/lang/String", name := "length", desc := "()I" } : Jvm.MethodName)) := sb_2 (List.mem_of_getElem? (i := 226) rfl) rfl
theorem tz_467 : TW (Jvm.Cond.selects "java/lang/String" ({ cls := "java/lang/String", name := "length", desc := "()I" } : Jvm.MethodName) ({ cls := "java/lang/String", name := "length", desc := "()I" } : Jvm.MethodName)) := sb_2 (List.mem_of_getElem? (i := 227) rfl) rfl
theorem mk_X9_39 : MB RX9 39 yJ0_length_8abf5 cJ0_length_8abf5 1 (some Jvm.ClassFile.FieldType.int) 0 ∧ TW (.instanceMethod yJ0_length_8abf5) ∧ TW (.selects "java/lang/String" yJ0_length_8abf5 yJ0_length_8abf5) := ⟨⟨tz_465, tz_13, tz_468, nh_J0.1, nh_J0.2, pm_J0_length_8abf5⟩, tz_466, tz_467⟩
theorem tz_475 : TW (Jvm.Cond.methodLink "ThousandLeaflets$Tape" (43 : Nat) ({ cls := "java/lang/String", name := "charAt", desc := "(I)C" } : Jvm.MethodName)) := sb_2 (List.mem_of_getElem? (i := 235) rfl) rfl
theorem tz_478 : TW (Jvm.Cond.code ({ cls := "java/lang/String", name := "charAt", desc := "(I)C" } : Jvm.MethodName) prog_20_method_56_code (2 : Nat) (Option.some Jvm.ClassFile.FieldType.char)) := sb_2 (List.mem_of_getElem? (i := 238) rfl) rfl
theorem tz_476 : TW (Jvm.Cond.instanceMethod ({ cls := "java/lang/String", name := "charAt", desc := "(I)C" } : Jvm.MethodName)) := sb_2 (List.mem_of_getElem? (i := 236) rfl) rfl
theorem tz_477 : TW (Jvm.Cond.selects "java/lang/String" ({ cls := "java/lang/String", name := "charAt", desc := "(I)C" } : Jvm.MethodName) ({ cls := "java/lang/String", name := "charAt", desc := "(I)C" } : Jvm.MethodName)) := sb_2 (List.mem_of_getElem? (i := 237) rfl) rfl
theorem mk_X9_43 : MB RX9 43 yJ0_charAt_5068e cJ0_charAt_5068e 2 (some Jvm.ClassFile.FieldType.char) 1 ∧ TW (.instanceMethod yJ0_charAt_5068e) ∧ TW (.selects "java/lang/String" yJ0_charAt_5068e yJ0_charAt_5068e) := ⟨⟨tz_475, tz_13, tz_478, nh_J0.1, nh_J0.2, pm_J0_charAt_5068e⟩, tz_476, tz_477⟩
theorem dJ0_coder_7d493_0 : decode cJ0_coder_7d493 0 = .ok (.getstatic 38, 3) := by decide +kernel
theorem dJ0_coder_7d493_3 : decode cJ0_coder_7d493 3 = .ok (.ifCond .eq 10, 3) := by decide +kernel
theorem dJ0_coder_7d493_6 : decode cJ0_coder_7d493 6 = .ok (.aload_n 0, 1) := by decide +kernel
theorem dJ0_coder_7d493_7 : decode cJ0_coder_7d493 7 = .ok (.getfield 15, 3) := by decide +kernel
theorem dJ0_coder_7d493_10 : decode cJ0_coder_7d493 10 = .ok (.goto 4, 3) := by decide +kernel
theorem dJ0_coder_7d493_14 : decode cJ0_coder_7d493 14 = .ok (.ireturn, 1) := by decide +kernel
theorem dJ0_isLatin1_aae02_0 : decode cJ0_isLatin1_aae02 0 = .ok (.getstatic 38, 3) := by decide +kernel
theorem dJ0_isLatin1_aae02_3 : decode cJ0_isLatin1_aae02 3 = .ok (.ifCond .eq 14, 3) := by decide +kernel
theorem dJ0_isLatin1_aae02_6 : decode cJ0_isLatin1_aae02 6 = .ok (.aload_n 0, 1) := by decide +kernel
theorem dJ0_isLatin1_aae02_7 : decode cJ0_isLatin1_aae02 7 = .ok (.getfield 15, 3) := by decide +kernel
theorem dJ0_isLatin1_aae02_10 : decode cJ0_isLatin1_aae02 10 = .ok (.ifCond .ne 7, 3) := by decide +kernel
theorem dJ0_isLatin1_aae02_13 : decode cJ0_isLatin1_aae02 13 = .ok (.iconst 1, 1) := by decide +kernel
theorem dJ0_isLatin1_aae02_14 : decode cJ0_isLatin1_aae02 14 = .ok (.goto 4, 3) := by decide +kernel
theorem dJ0_isLatin1_aae02_18 : decode cJ0_isLatin1_aae02 18 = .ok (.ireturn, 1) := by decide +kernel
theorem dJ0_length_8abf5_0 : decode cJ0_length_8abf5 0 = .ok (.aload_n 0, 1) := by decide +kernel
theorem dJ0_length_8abf5_1 : decode cJ0_length_8abf5 1 = .ok (.getfield 9, 3) := by decide +kernel
theorem dJ0_length_8abf5_4 : decode cJ0_length_8abf5 4 = .ok (.arraylength, 1) := by decide +kernel
theorem dJ0_length_8abf5_5 : decode cJ0_length_8abf5 5 = .ok (.aload_n 0, 1) := by decide +kernel
theorem dJ0_length_8abf5_6 : decode cJ0_length_8abf5 6 = .ok (.invokevirtual 335, 3) := by decide +kernel
theorem dJ0_length_8abf5_9 : decode cJ0_length_8abf5 9 = .ok (.ishr, 1) := by decide +kernel
theorem dJ0_length_8abf5_10 : decode cJ0_length_8abf5 10 = .ok (.ireturn, 1) := by decide +kernel
theorem dJ3_checkIndex_8e157_0 : decode cJ3_checkIndex_8e157 0 = .ok (.iload_n 0, 1) := by decide +kernel
theorem dJ3_checkIndex_8e157_1 : decode cJ3_checkIndex_8e157 1 = .ok (.ifCond .lt 8, 3) := by decide +kernel
theorem dJ3_checkIndex_8e157_4 : decode cJ3_checkIndex_8e157 4 = .ok (.iload_n 0, 1) := by decide +kernel
theorem dJ3_checkIndex_8e157_5 : decode cJ3_checkIndex_8e157 5 = .ok (.iload_n 1, 1) := by decide +kernel
theorem dJ3_checkIndex_8e157_6 : decode cJ3_checkIndex_8e157 6 = .ok (.if_icmp .lt 10, 3) := by decide +kernel
theorem dJ3_checkIndex_8e157_16 : decode cJ3_checkIndex_8e157 16 = .ok (.iload_n 0, 1) := by decide +kernel
theorem dJ3_checkIndex_8e157_17 : decode cJ3_checkIndex_8e157 17 = .ok (.ireturn, 1) := by decide +kernel
theorem dJ0_checkIndex_df160_0 : decode cJ0_checkIndex_df160 0 = .ok (.iload_n 0, 1) := by decide +kernel
theorem dJ0_checkIndex_df160_1 : decode cJ0_checkIndex_df160 1 = .ok (.iload_n 1, 1) := by decide +kernel
theorem dJ0_checkIndex_df160_2 : decode cJ0_checkIndex_df160 2 = .ok (.getstatic 1053, 3) := by decide +kernel
theorem dJ0_checkIndex_df160_5 : decode cJ0_checkIndex_df160 5 = .ok (.invokestatic 1059, 3) := by decide +kernel
theorem dJ0_checkIndex_df160_8 : decode cJ0_checkIndex_df160 8 = .ok (.pop, 1) := by decide +kernel
theorem dJ0_checkIndex_df160_9 : decode cJ0_checkIndex_df160 9 = .ok (.return_, 1) := by decide +kernel
theorem dJ1_charAt_3b067_0 : decode cJ1_charAt_3b067 0 = .ok (.iload_n 1, 1) := by decide +kernel
theorem dJ1_charAt_3b067_1 : decode cJ1_charAt_3b067 1 = .ok (.aload_n 0, 1) := by decide +kernel
theorem dJ1_charAt_3b067_2 : decode cJ1_charAt_3b067 2 = .ok (.arraylength, 1) := by decide +kernel
theorem dJ1_charAt_3b067_3 : decode cJ1_charAt_3b067 3 = .ok (.invokestatic 9, 3) := by decide +kernel
theorem dJ1_charAt_3b067_6 : decode cJ1_charAt_3b067 6 = .ok (.aload_n 0, 1) := by decide +kernel
theorem dJ1_charAt_3b067_7 : decode cJ1_charAt_3b067 7 = .ok (.iload_n 1, 1) := by decide +kernel
theorem dJ1_charAt_3b067_8 : decode cJ1_charAt_3b067 8 = .ok (.baload, 1) := by decide +kernel
theorem dJ1_charAt_3b067_9 : decode cJ1_charAt_3b067 9 = .ok (.sipush 255, 3) := by decide +kernel
theorem dJ1_charAt_3b067_12 : decode cJ1_charAt_3b067 12 = .ok (.iand, 1) := by decide +kernel
theorem dJ1_charAt_3b067_13 : decode cJ1_charAt_3b067 13 = .ok (.i2c, 1) := by decide +kernel
theorem dJ1_charAt_3b067_14 : decode cJ1_charAt_3b067 14 = .ok (.ireturn, 1) := by decide +kernel
theorem dJ0_charAt_5068e_0 : decode cJ0_charAt_5068e 0 = .ok (.aload_n 0, 1) := by decide +kernel
theorem dJ0_charAt_5068e_1 : decode cJ0_charAt_5068e 1 = .ok (.invokevirtual 492, 3) := by decide +kernel
theorem dJ0_charAt_5068e_4 : decode cJ0_charAt_5068e 4 = .ok (.ifCond .eq 12, 3) := by decide +kernel
theorem dJ0_charAt_5068e_7 : decode cJ0_charAt_5068e 7 = .ok (.aload_n 0, 1) := by decide +kernel
theorem dJ0_charAt_5068e_8 : decode cJ0_charAt_5068e 8 = .ok (.getfield 9, 3) := by decide +kernel
theorem dJ0_charAt_5068e_11 : decode cJ0_charAt_5068e 11 = .ok (.iload_n 1, 1) := by decide +kernel
theorem dJ0_charAt_5068e_12 : decode cJ0_charAt_5068e 12 = .ok (.invokestatic 495, 3) := by decide +kernel
theorem dJ0_charAt_5068e_15 : decode cJ0_charAt_5068e 15 = .ok (.ireturn, 1) := by decide +kernel
set_option maxRecDepth 100000 in
theorem k_J0_coder {D : va_G} {cy : Nat → ClassId} {P : PP} {i : Nat} (hi : i < 4) : CtI D cy yJ0_coder_7d493 cJ0_coder_7d493 1 (some Jvm.ClassFile.FieldType.byte) ({ frames := 1, cells := 0, slots := 0, locals := 64 } : Room) 0 0 P [.ref (D.2 100 i)] (fun r P2 => P = P2 ∧ r = 0) := by
  refine enIx (lv := [(0, .ref (D.2 100 i))]) (by decide) (Nat.le_of_ble_eq_true rfl) rfl (fun E C Ci0 ret => ?_)
  refine g_gC C tz_473 dJ0_coder_7d493_0 ?_
  refine b_if_eq C 13 dJ0_coder_7d493_3 (by decide) (fun h => absurd h (by decide)) (fun _ => ?_)
  refine g_aload_n C dJ0_coder_7d493_6 rfl 0 rfl ?_
  refine g_sC C hi tz_1725 dJ0_coder_7d493_7 ?_
  refine g_goto C 14 dJ0_coder_7d493_10 (by decide) ?_
  exact ret _ _ _ _ _ _ dJ0_coder_7d493_14 rfl (by decide) (by decide) ⟨rfl, rfl⟩
set_option maxRecDepth 100000 in
theorem k_J0_isLatin1 {D : va_G} {cy : Nat → ClassId} {P : PP} {i : Nat} (hi : i < 4) : CtI D cy yJ0_isLatin1_aae02 cJ0_isLatin1_aae02 1 (some Jvm.ClassFile.FieldType.boolean) ({ frames := 1, cells := 0, slots := 0, locals := 64 } : Room) 0 0 P [.ref (D.2 100 i)] (fun r P2 => P = P2 ∧ r = 1) := by
  refine enIx (lv := [(0, .ref (D.2 100 i))]) (by decide) (Nat.le_of_ble_eq_true rfl) rfl (fun E C Ci0 ret => ?_)
  refine g_gC C tz_473 dJ0_isLatin1_aae02_0 ?_
  refine b_if_eq C 17 dJ0_isLatin1_aae02_3 (by decide) (fun h => absurd h (by decide)) (fun _ => ?_)
  refine g_aload_n C dJ0_isLatin1_aae02_6 rfl 0 rfl ?_
  refine g_sC C hi tz_1725 dJ0_isLatin1_aae02_7 ?_
  refine b_if_ne C 17 dJ0_isLatin1_aae02_10 (by decide) (fun h => absurd rfl h) (fun _ => ?_)
  refine g_iconst (v := 1) C dJ0_isLatin1_aae02_13 (by decide) ?_
  refine g_goto C 18 dJ0_isLatin1_aae02_14 (by decide) ?_
  exact ret _ _ _ _ _ _ dJ0_isLatin1_aae02_18 rfl (by decide) (by decide) ⟨rfl, rfl⟩
set_option maxRecDepth 100000 in
theorem k_J0_length {D : va_G} {cy : Nat → ClassId} {P : PP} {i : Nat} (hi : i < 4) : CtI D cy yJ0_length_8abf5 cJ0_length_8abf5 1 (some Jvm.ClassFile.FieldType.int) ({ frames := 2, cells := 0, slots := 0, locals := 128 } : Room) 0 0 P [.ref (D.2 100 i)] (fun r P2 => P = P2 ∧ r = nI (lenS.getD i 0)) := by
  refine enIx (lv := [(0, .ref (D.2 100 i))]) (by decide) (Nat.le_of_ble_eq_true rfl) rfl (fun E C Ci0 ret => ?_)
  refine g_aload_n C dJ0_length_8abf5_0 rfl 0 rfl ?_
  refine g_sV C hi tz_1724 dJ0_length_8abf5_1 ?_
  refine g_sL C hi dJ0_length_8abf5_4 ?_
  refine g_aload_n C dJ0_length_8abf5_5 rfl 0 rfl ?_
  refine g_callKI C hi (rest := [.int (nI (lenS.getD i 0))]) mk_J0_335 [] (k_J0_coder hi) rfl rfl (by decide) (Nat.le_of_ble_eq_true rfl) (by decide) dJ0_length_8abf5_6 (fun r Y h => ?_)
  obtain ⟨rfl, rfl⟩ := h
  refine g_ishr C dJ0_length_8abf5_9 ?_
  exact ret _ _ _ _ _ _ dJ0_length_8abf5_10 rfl (by decide) (by decide) ⟨rfl, len_sh i hi⟩
set_option maxRecDepth 100000 in
theorem k_J3_checkIndex {P : PP} {x n : Int32} {o : Option Nat} (h0 : 0 ≤ x.toInt) (h1 : x.toInt < n.toInt) : CtrI yJ3_checkIndex_8e157 cJ3_checkIndex_8e157 3 (some Jvm.ClassFile.FieldType.int) ({ frames := 1, cells := 0, slots := 0, locals := 64 } : Room) 0 0 P [.int x, .int n, va_rf o] (fun _ P2 => P = P2) := by
  refine enI (lv := [(0, .int x), (1, .int n), (2, va_rf o)]) (by decide) (by cases o <;> exact Nat.le_of_ble_eq_true rfl) (by cases o <;> rfl) (fun E D cy C Ci0 ret => ?_)
  refine g_iload_n C dJ3_checkIndex_8e157_0 rfl 0 rfl ?_
  refine b_if_lt C 9 dJ3_checkIndex_8e157_1 (by decide) (fun h => absurd h (by omega)) (fun _ => ?_)
  refine g_iload_n C dJ3_checkIndex_8e157_4 rfl 0 rfl ?_
  refine g_iload_n C dJ3_checkIndex_8e157_5 rfl 1 rfl ?_
  refine b_icmp_lt C 16 dJ3_checkIndex_8e157_6 (by decide) (fun _ => ?_) (fun h => absurd h (by omega))
  refine g_iload_n C dJ3_checkIndex_8e157_16 rfl 0 rfl ?_
  exact ret _ _ _ _ _ _ dJ3_checkIndex_8e157_17 rfl (by decide) (by decide) rfl
set_option maxRecDepth 100000 in
theorem k_J0_checkIndex {P : PP} {x n : Int32} (h0 : 0 ≤ x.toInt) (h1 : x.toInt < n.toInt) : CtrV yJ0_checkIndex_df160 cJ0_checkIndex_df160 2 none ({ frames := 2, cells := 0, slots := 0, locals := 128 } : Room) 0 0 P [.int x, .int n] (fun P2 => P = P2) := by
  refine enV (lv := [(0, .int x), (1, .int n)]) (by decide) (Nat.le_of_ble_eq_true rfl) rfl (fun E D cy C Ci0 ret => ?_)
  refine g_iload_n C dJ0_checkIndex_df160_0 rfl 0 rfl ?_
  refine g_iload_n C dJ0_checkIndex_df160_1 rfl 1 rfl ?_
  refine g_gF C tz_489 dJ0_checkIndex_df160_2 (fun o => ?_)
  refine g_callSI (b := 0) (ci := 0) (rest := []) C ms_J0_1059 [.int x, .int n, va_rf o] (k_J3_checkIndex h0 h1) rfl rfl (by decide) (Nat.le_of_ble_eq_true rfl) (by decide) dJ0_checkIndex_df160_5 (fun r Y h => ?_)
  subst h
  refine g_pop C dJ0_checkIndex_df160_8 rfl ?_
  exact ret _ _ _ _ _ dJ0_checkIndex_df160_9 (by decide) (by decide) rfl
set_option maxRecDepth 100000 in
theorem k_J1_charAt {D : va_G} {cy : Nat → ClassId} {P : PP} {i : Nat} {x : Int32} (hi : i < 4) (h0 : 0 ≤ x.toInt) (h1 : x.toInt < (lenS.getD i 0 : Nat)) : CtI D cy yJ1_charAt_3b067 cJ1_charAt_3b067 2 (some Jvm.ClassFile.FieldType.char) ({ frames := 3, cells := 0, slots := 0, locals := 192 } : Room) 0 0 P [.ref (D.2 101 i), .int x] (fun r P2 => P = P2 ∧ narrow .char (.int r) = .int r) := by
  refine enIx (lv := [(0, .ref (D.2 101 i)), (1, .int x)]) (by decide) (Nat.le_of_ble_eq_true rfl) rfl (fun E C Ci0 ret => ?_)
  refine g_iload_n C dJ1_charAt_3b067_0 rfl 1 rfl ?_
  refine g_aload_n C dJ1_charAt_3b067_1 rfl 0 rfl ?_
  refine g_sL C hi dJ1_charAt_3b067_2 ?_
  refine g_callSV (b := 0) (ci := 0) (rest := []) C ms_J1_9 [.int x, .int (nI (lenS.getD i 0))] (k_J0_checkIndex h0 (by rw [(len_in i hi).1]; exact h1)) rfl rfl (by decide) (Nat.le_of_ble_eq_true rfl) (by decide) dJ1_charAt_3b067_3 (fun Y h => ?_)
  subst h
  refine g_aload_n C dJ1_charAt_3b067_6 rfl 0 rfl ?_
  refine g_iload_n C dJ1_charAt_3b067_7 rfl 1 rfl ?_
  refine g_sB C hi (IX.intn (n := lenS.getD i 0) rfl h0 h1).2 dJ1_charAt_3b067_8 ?_
  refine g_sipush (v := 255) C dJ1_charAt_3b067_9 (by decide) ?_
  refine g_iand C dJ1_charAt_3b067_12 ?_
  refine g_i2c C dJ1_charAt_3b067_13 rfl ?_
  exact ret _ _ _ _ _ _ dJ1_charAt_3b067_14 (pk_nc _) (by decide) (by decide) ⟨rfl, pk_nc _⟩
set_option maxRecDepth 100000 in
theorem k_J0_charAt {D : va_G} {cy : Nat → ClassId} {P : PP} {i : Nat} {x : Int32} (hi : i < 4) (h0 : 0 ≤ x.toInt) (h1 : x.toInt < (lenS.getD i 0 : Nat)) : CtI D cy yJ0_charAt_5068e cJ0_charAt_5068e 2 (some Jvm.ClassFile.FieldType.char) ({ frames := 4, cells := 0, slots := 0, locals := 256 } : Room) 0 0 P [.ref (D.2 100 i), .int x] (fun _ P2 => P = P2) := by
  refine enIx (lv := [(0, .ref (D.2 100 i)), (1, .int x)]) (by decide) (Nat.le_of_ble_eq_true rfl) rfl (fun E C Ci0 ret => ?_)
  refine g_aload_n C dJ0_charAt_5068e_0 rfl 0 rfl ?_
  refine g_callKI C hi (rest := []) mk_J0_492 [] (k_J0_isLatin1 hi) rfl rfl (by decide) (Nat.le_of_ble_eq_true rfl) (by decide) dJ0_charAt_5068e_1 (fun r Y h => ?_)
  obtain ⟨rfl, rfl⟩ := h
  refine b_if_eq C 16 dJ0_charAt_5068e_4 (by decide) (fun h => absurd h (by decide)) (fun _ => ?_)
  refine g_aload_n C dJ0_charAt_5068e_7 rfl 0 rfl ?_
  refine g_sV C hi tz_1724 dJ0_charAt_5068e_8 ?_
  refine g_iload_n C dJ0_charAt_5068e_11 rfl 1 rfl ?_
  refine g_callSIx (b := 0) (ci := 0) (rest := []) C ms_J0_495 [.ref (D.2 101 i), .int x] (k_J1_charAt hi h0 h1) rfl rfl (by decide) (Nat.le_of_ble_eq_true rfl) (by decide) dJ0_charAt_5068e_12 (fun r Y h => ?_)
  obtain ⟨rfl, h⟩ := h
  exact ret _ _ _ _ _ _ dJ0_charAt_5068e_15 h (by decide) (by decide) rfl
