/-! paper throws NoSuchElementException; the law's own paper catches it -/
def xN : String := "java/util/NoSuchElementException"
def xS : List String := ["java/lang/RuntimeException", "java/lang/Exception"]
def xB : List Cond := [.declares ⟨"java/lang/RuntimeException", "<init>", "()V"⟩, .declares ⟨"java/lang/Exception", "<init>", "()V"⟩, .declares ⟨"java/lang/Throwable", "<init>", "()V"⟩, .castable xN xN]
theorem tw_1075 : TW (Jvm.Cond.classLink "ThousandLeaflets" (188 : Nat) "java/util/NoSuchElementException") := sb_5 (List.mem_of_getElem? (i := 115) rfl) rfl
theorem tw_23 : TW (Jvm.Cond.initialized "java/util/NoSuchElementException") := sb_1 (List.mem_of_getElem? (i := 23) rfl) rfl
theorem tw_1070 : TW (Jvm.Cond.classLink "ThousandLeafletsLaw" (13 : Nat) "java/util/NoSuchElementException") := sb_5 (List.mem_of_getElem? (i := 110) rfl) rfl
theorem tw_1067 : TW (Jvm.Cond.methodLink "ThousandLeafletsLaw" (68 : Nat) ({ cls := "ThousandLeafletsLaw", name := "paper", desc := "(LThousandLeaflets;III[J)I" } : Jvm.MethodName)) := sb_5 (List.mem_of_getElem? (i := 107) rfl) rfl
theorem tw_1068 : TW (Jvm.Cond.static ({ cls := "ThousandLeafletsLaw", name := "paper", desc := "(LThousandLeaflets;III[J)I" } : Jvm.MethodName)) := sb_5 (List.mem_of_getElem? (i := 108) rfl) rfl
theorem tw_0 : TW (Jvm.Cond.initialized "ThousandLeafletsLaw") := sb_1 (List.mem_of_getElem? (i := 0) rfl) rfl
theorem tw_1069 : TW (Jvm.Cond.codeWith ({ cls := "ThousandLeafletsLaw", name := "paper", desc := "(LThousandLeaflets;III[J)I" } : Jvm.MethodName) method_3_code (6 : Nat) (Option.some Jvm.ClassFile.FieldType.int) [((0 : Nat), (12 : Nat), (15 : Nat), (13 : Nat))]) := sb_5 (List.mem_of_getElem? (i := 109) rfl) rfl
theorem xw_k : TW (.classLink RX11 188 xN) := tw_1075
theorem xw_i : TW (.initialized xN) := tw_23
theorem xw_c : TW (.classLink RL 13 xN) := tw_1070
theorem xw_l : TW (.methodLink RL 68 yL_paper) := tw_1067
theorem xw_s : TW (.static yL_paper) := tw_1068
theorem xw_n : TW (.initialized RL) := tw_0
theorem xw_w : TW (.codeWith yL_paper cL_paper 6 (some .int) [(0, 12, 15, 13)]) := tw_1069
theorem okW_of {w : Cond} (h : goodWord w = true) : okW w = true := by
  unfold okW
  split <;> first | rfl | exact h
set_option maxRecDepth 20000 in
theorem xw_in : ∀ w ∈ (vx_at0 RX11 190 xN xS).filter goodWord, w ∈ lw_tbl := by decide +kernel
theorem xw_no : ∀ w ∈ (vx_at0 RX11 190 xN xS).filter (fun w => !goodWord w), w ∈ xB := by decide +kernel
theorem xw_ot : ∀ w ∈ Cond.classLink RX11 188 xN :: Cond.initialized xN :: vx_at0 RX11 190 xN xS, vx_ot w = true := by decide +kernel
def TX (U : State) : Prop := ∀ w ∈ xB, w.before #[] U = true
theorem xB_at {s U : State} {A A' : Array Value} (hW : s.WarmedH U.vm) {w : Cond} (hw : w ∈ xB) (h : w.before A s = true) : w.before A' U = true := by
  have hw' : w = .declares ⟨"java/lang/RuntimeException", "<init>", "()V"⟩ ∨ w = .declares ⟨"java/lang/Exception", "<init>", "()V"⟩ ∨ w = .declares ⟨"java/lang/Throwable", "<init>", "()V"⟩ ∨ w = .castable xN xN := by
    rcases List.mem_cons.mp hw with h | hw
    · exact Or.inl h
    rcases List.mem_cons.mp hw with h | hw
    · exact Or.inr (Or.inl h)
    rcases List.mem_cons.mp hw with h | hw
    · exact Or.inr (Or.inr (Or.inl h))
    · exact Or.inr (Or.inr (Or.inr (List.mem_singleton.mp hw)))
  rcases hw' with rfl | rfl | rfl | rfl
  · exact va_tabs rfl (rfl : (s.setVm U.vm).vm = U.vm) (by rw [Cond.declares_setVm hW.alike]; exact h)
  · exact va_tabs rfl (rfl : (s.setVm U.vm).vm = U.vm) (by rw [Cond.declares_setVm hW.alike]; exact h)
  · exact va_tabs rfl (rfl : (s.setVm U.vm).vm = U.vm) (by rw [Cond.declares_setVm hW.alike]; exact h)
  · exact va_tabs rfl (rfl : (s.setVm U.vm).vm = U.vm) (by rw [Cond.castable_setVm hW.alike]; exact h)
theorem TX.warm {s U : State} (hW : s.WarmedH U.vm) (h : TX s) : TX U := fun w hw => xB_at hW hw (h w hw)
theorem xw_at {s : State} (hT : TB s) (hX : TX s) (A : Array Value) : ∀ w ∈ vx_at0 RX11 190 xN xS, w.before A s = true :=
  vx_hat (B := xB) (fun w hw => TW.of (xw_in w hw) (okW_of (List.mem_filter.mp hw).2) s hT A) xw_no (fun w hw => xB_at (State.WarmedH.refl s) hw (hX w hw))
def xU (A : Nat → Prop) (U : State) (H : Heap) : Prop := vx_Zq Bundle.tN "UNASSIGNED_STACK" Bundle.steD A U H ∧ vx_Zq Bundle.tN "SUPPRESSED_SENTINEL" Bundle.listD A U H
def pX (D : va_G) (cy : Nat → ClassId) (P : PP) (sz : Nat) (U : State) : Prop := pB D cy P sz U ∧ TX U ∧ xU (va_A (pw cy P) sz) U U.heap
theorem pX_blind {D : va_G} {cy : Nat → ClassId} {P : PP} {sz : Nat} {av : List Value} : FrameBlind (va_Pc av (pX D cy P sz)) := fun a U g mk q => by
  obtain ⟨q0, qB, qT, q1, q2⟩ := q
  exact ⟨q0, (pB_blind (D := D) (cy := cy) (P := P) (sz := sz) (av := av) a U g mk ⟨q0, qB⟩).2, qT.warm (s := U) (U := U.calling g mk a) (State.WarmedH.refl U), vx_Zq.moved (u := U) (U := U.calling g mk a) (Vm.Alike.refl U.vm) q1, vx_Zq.moved (u := U) (U := U.calling g mk a) (Vm.Alike.refl U.vm) q2⟩
theorem xU.call {A B : Nat → Prop} {s U : State} {H : Heap} {locs : List Loc} (h : xU A s s.heap) (hU : U.heap = H) (hW : s.WarmedH U.vm) (hS : va_S A s.heap H locs) (hBA : ∀ q, B q → A q) : xU B U U.heap := by
  rw [hU]
  exact ⟨((h.1.moved hW.alike).kept (fun a h1 h2 => hS.2.1 a h1 h2)).narrow hBA, ((h.2.moved hW.alike).kept (fun a h1 h2 => hS.2.1 a h1 h2)).narrow hBA⟩
theorem dX11_paper_16 : decode cX11_paper 16 = .ok (.dup, 1) := by decide +kernel
theorem dX11_paper_17 : decode cX11_paper 17 = .ok (.invokespecial 190, 3) := by decide +kernel
theorem dX11_paper_20 : decode cX11_paper 20 = .ok (.athrow, 1) := by decide +kernel
theorem dX11_paper_21 : decode cX11_paper 21 = .ok (.iload_n 3, 1) := by decide +kernel
theorem dX11_paper_22 : decode cX11_paper 22 = .ok (.tableswitch 89 0 5 #[38, 44, 50, 56, 62, 68], 38) := by decide +kernel
theorem dX11_paper_60 : decode cX11_paper 60 = .ok (.aload 4, 2) := by decide +kernel
theorem dX11_paper_62 : decode cX11_paper 62 = .ok (.getfield 191, 3) := by decide +kernel
theorem dX11_paper_65 : decode cX11_paper 65 = .ok (.ireturn, 1) := by decide +kernel
theorem dX11_paper_66 : decode cX11_paper 66 = .ok (.aload 4, 2) := by decide +kernel
theorem dX11_paper_68 : decode cX11_paper 68 = .ok (.getfield 194, 3) := by decide +kernel
theorem dX11_paper_71 : decode cX11_paper 71 = .ok (.ireturn, 1) := by decide +kernel
theorem dX11_paper_72 : decode cX11_paper 72 = .ok (.aload 4, 2) := by decide +kernel
theorem dX11_paper_74 : decode cX11_paper 74 = .ok (.getfield 197, 3) := by decide +kernel
theorem dX11_paper_77 : decode cX11_paper 77 = .ok (.ireturn, 1) := by decide +kernel
theorem dX11_paper_78 : decode cX11_paper 78 = .ok (.aload 4, 2) := by decide +kernel
theorem dX11_paper_80 : decode cX11_paper 80 = .ok (.getfield 200, 3) := by decide +kernel
theorem dX11_paper_83 : decode cX11_paper 83 = .ok (.ireturn, 1) := by decide +kernel
theorem dX11_paper_84 : decode cX11_paper 84 = .ok (.aload 4, 2) := by decide +kernel
theorem dX11_paper_86 : decode cX11_paper 86 = .ok (.getfield 203, 3) := by decide +kernel
theorem dX11_paper_89 : decode cX11_paper 89 = .ok (.ireturn, 1) := by decide +kernel
theorem dX11_paper_90 : decode cX11_paper 90 = .ok (.aload 4, 2) := by decide +kernel
theorem dX11_paper_92 : decode cX11_paper 92 = .ok (.getfield 191, 3) := by decide +kernel
theorem dX11_paper_95 : decode cX11_paper 95 = .ok (.iconst (-1), 1) := by decide +kernel
theorem dX11_paper_96 : decode cX11_paper 96 = .ok (.if_icmp .ne 7, 3) := by decide +kernel
theorem dX11_paper_99 : decode cX11_paper 99 = .ok (.iconst (-1), 1) := by decide +kernel
theorem dX11_paper_100 : decode cX11_paper 100 = .ok (.goto 10, 3) := by decide +kernel
theorem dX11_paper_103 : decode cX11_paper 103 = .ok (.aload_n 0, 1) := by decide +kernel
theorem dX11_paper_104 : decode cX11_paper 104 = .ok (.iload_n 1, 1) := by decide +kernel
theorem dX11_paper_105 : decode cX11_paper 105 = .ok (.aload 4, 2) := by decide +kernel
theorem dX11_paper_107 : decode cX11_paper 107 = .ok (.invokevirtual 206, 3) := by decide +kernel
theorem dX11_paper_110 : decode cX11_paper 110 = .ok (.ireturn, 1) := by decide +kernel
theorem dX11_paper_111 : decode cX11_paper 111 = .ok (.new 188, 3) := by decide +kernel
theorem dX11_paper_114 : decode cX11_paper 114 = .ok (.dup, 1) := by decide +kernel
theorem dX11_paper_115 : decode cX11_paper 115 = .ok (.invokespecial 190, 3) := by decide +kernel
theorem dX11_paper_118 : decode cX11_paper 118 = .ok (.athrow, 1) := by decide +kernel
set_option maxHeartbeats 4000000 in
set_option maxRecDepth 100000 in
theorem c_X11_paper {P : PP} {x : Nat} {a b c0 : Int32} {Kp : Nat → Prop} {Zp : PP → Prop} (hx : x ∈ pL P) (hxK : pK P x = 11) (hZp : Zp P) (hKp : ∀ q, Kp q → q ∈ pL P ∧ pK P q = 7) (hq : CtrQ yX11_paperAt cX11_paperAt 3 (some (Jvm.ClassFile.FieldType.object "ThousandLeaflets$Paper")) ({ frames := 2, cells := 0, slots := 0, locals := 128 } : Room) 0 0 P [.ref x, .int a, .int b] (fun r P2 => P = P2 ∧ (r = none ∨ ∃ q, r = some q ∧ Kp q))) (hu : ∀ q, Kp q → ¬ pI P q 0 = -1 → CtrI yX11_unknownPages cX11_unknownPages 5 (some Jvm.ClassFile.FieldType.int) ({ frames := 4, cells := 0, slots := 0, locals := 256 } : Room) 0 0 P [.ref x, .int a, .ref q] (fun _ P2 => Zp P2)) (l : Launch) (hl : l.stackTraces = false) (D : va_G) (cy : Nat → ClassId) (sz : Nat) : vx_Met l yX11_paper [.code yX11_paper cX11_paper 5 (some .int)] ({ frames := 6, cells := 1, slots := 6, locals := 384 } : Room) (va_Pc [.ref x, .int a, .int b, .int c0] (pX D cy P sz)) (va_Qi (fun (_ : Int32) (U : PP) => Zp U) (pA D cy (va_A (pw cy P) sz)) (va_A (pw cy P) sz)) (vx_X (fun u => u = P) (fun E u t => E = xN ∧ pA D cy (va_A (pw cy P) sz) u t) (va_A (pw cy P) sz)) 1 6 (va_A (pw cy P) sz) := by
  refine vx_ofW (cc := cX11_paper) (maxL := 5) (ret := some .int) (by decide) rfl ?_
  intro p e s m args below meth c s₁ B hml hex hv
  obtain ⟨rfl, ⟨hsz, hT, hP, hK, hD0, hZ⟩, hTX, hU, hN⟩ := hv
  have hx0 := B.exec
  have hb := B.bytes
  have hr := B.returns
  have hown : s.vm.findClass RX11 = some m.cls := findClass_of_methodNamed B.named
  have hlocks := B.notSynchronized
  subst hsz
  have hD := hD0.self (sz := s.heap.size)
  have hA : ∀ q : Nat, s.heap.size ≤ q → va_A (pw cy P) s.heap.size q := fun q h => Or.inr h
  have hS : va_S (va_A (pw cy P) s.heap.size) s.heap s.heap [] := va_S.rf
  have hlv := lv_entry [.ref x, .int a, .int b, .int c0] (n := 5) (Nat.le_of_ble_eq_true rfl)
  rw [show lv_args 0 [.ref x, .int a, .int b, .int c0] = [(0, .ref x), (1, .int a), (2, .int b), (3, .int c0)] from rfl] at hlv
  rw [lg_entry_eq]
  obtain ⟨Q, hQ⟩ : ∃ z, z = vx_MQ below (va_Qi (fun (_ : Int32) (U : PP) => Zp U) (pA D cy (va_A (pw cy P) s.heap.size)) (va_A (pw cy P) s.heap.size)) (vx_X (fun u => u = P) (fun E u t => E = xN ∧ pA D cy (va_A (pw cy P) s.heap.size) u t) (va_A (pw cy P) s.heap.size)) ([.ref x, .int a, .int b, .int c0] : List Value).toArray s 1 6 (va_A (pw cy P) s.heap.size) := ⟨_, rfl⟩
  rw [← hQ]
  obtain ⟨E, hE⟩ : ∃ E : EV, E = (p, l, e, s, m, ([.ref x, .int a, .int b, .int c0] : List Value).toArray, below, meth, c, Q, va_A (pw cy P) s.heap.size) := ⟨_, rfl⟩
  have C : Cx E D cy 5 cX11_paper RX11 := by
    rw [hE]; exact ⟨hx0, hb, hml, hown, hT, hK, hA, hlocks, hZ⟩
  have ret : RetI E ({ frames := 6, cells := 1, slots := 6, locals := 384 } : Room) D cy 5 cX11_paper 1 6 .int (fun _ U => Zp U) := by
    rw [hE, hQ]
    intro P2 cs sl pc lv2 v d hn h1 h2 hp H locs ls hP2 hD2 hS2 hl2
    refine W.widen h1 h2 (vx_ret ?_)
    exact W.zret hx0 hb hr hn (fun t ht hW => ⟨⟨v, P2, rfl, hp, by rw [ht]; exact hP2, va_K.moved hW.alike hK, hD2⟩, hS2.F ht⟩) hS2.2.2 d
  have thr : ∀ (pc : Nat) (lv9 : List (Nat × Value)), decode cX11_paper pc = .ok (.new 188, 3) → decode cX11_paper (pc + 3) = .ok (.dup, 1) → decode cX11_paper (pc + 4) = .ok (.invokespecial 190, 3) → decode cX11_paper (pc + 7) = .ok (.athrow, 1) → G E ({ frames := 6, cells := 1, slots := 6, locals := 384 } : Room) D cy 5 P 0 0 pc lv9 [] := by
    intro pc lv9 d1 d2 d3 d4
    rw [hE, hQ]
    intro H locs ls hP1 hD1 hS1 hl1
    refine vx_throw0 (rest := []) (own := RX11) (cls := xN) (names := xS) (ik := 188) (ic := 190) (A := va_A (pw cy P) s.heap.size) hx0 hb hl hown (by decide) (by decide) (xw_k s hT _) (xw_i s hT _) (xw_at hT hTX _) xw_ot hU hN hS1 (hl1.1.trans hml.symm) d1 d2 d3 d4 (fun z hz => (hex z hz).elim) (by decide) (by decide) (by decide) (by decide) hlocks ?_ ?_ (by decide) (by decide)
    · intro t hal hsz hk
      exact ⟨P, rfl, ⟨rfl, hP1.kept (fun k q hq9 => hk q.1 (hP1 k q hq9).lt), va_K.moved hal hK, hD1⟩, Nat.le_trans hS1.1 hsz, fun q h1 h2 => (hk q (Nat.lt_of_lt_of_le h1 hS1.1)).trans (hS1.2.1 q h1 h2)⟩
    · exact hS1.2.2
  suffices g9 : G E ({ frames := 6, cells := 1, slots := 6, locals := 384 } : Room) D cy 5 P 0 0 0 [(0, .ref x), (1, .int a), (2, .int b), (3, .int c0)] [] by
    rw [hE] at g9
    exact g9 s.heap [] _ hP hD hS hlv
  refine g_aload_n C dX11_paper_0 rfl 0 rfl ?_
  refine g_iload_n C dX11_paper_1 rfl 1 rfl ?_
  refine g_iload_n C dX11_paper_2 rfl 2 rfl ?_
  refine g_callVQ (rest := []) C mv_X11_185 [.int a, .int b] hq hx hxK rfl rfl (by decide) (Nat.le_of_ble_eq_true rfl) (by decide) dX11_paper_3 (fun r1 Q2 h3 => ?_)
  obtain ⟨rfl, h3⟩ := h3
  rcases h3 with rfl | ⟨q, rfl, hk⟩
  · show G _ _ _ _ _ _ _ _ _ _ (.null :: _)
    refine g_astoreN (lv' := [(4, .null), (0, .ref x), (1, .int a), (2, .int b), (3, .int c0)]) C dX11_paper_6 (by decide) rfl ?_
    refine g_aloadN C dX11_paper_8 0 rfl ?_
    refine g_ifnonnullN C dX11_paper_10 ?_
    exact thr 13 _ dX11_paper_13 dX11_paper_16 dX11_paper_17 dX11_paper_20
  · show G _ _ _ _ _ _ _ _ _ _ (.ref q :: _)
    obtain ⟨hqL, hqK⟩ := hKp q hk
    refine g_astore (lv' := [(4, .ref q), (0, .ref x), (1, .int a), (2, .int b), (3, .int c0)]) C dX11_paper_6 (by decide) rfl ?_
    refine g_aload C dX11_paper_8 0 rfl ?_
    refine g_ifnonnull C 21 dX11_paper_10 (by decide) ?_
    refine g_iload_n C dX11_paper_21 rfl 4 rfl ?_
    by_cases hs : c0.toInt < 0 ∨ 5 < c0.toInt
    · exact g_tableOut C 111 dX11_paper_22 hs (by decide) (thr 111 _ dX11_paper_111 dX11_paper_114 dX11_paper_115 dX11_paper_118)
    · rcases (show c0.toInt = 0 ∨ c0.toInt = 1 ∨ c0.toInt = 2 ∨ c0.toInt = 3 ∨ c0.toInt = 4 ∨ c0.toInt = 5 by omega) with e9 | e9 | e9 | e9 | e9 | e9
      · refine g_tableIn C 60 dX11_paper_22 (by omega) (by omega) (by rw [e9]; rfl) (by decide) ?_
        refine g_aload C dX11_paper_60 0 rfl ?_
        refine g_getI C fi_X11_191 (by decide) hqL hqK dX11_paper_62 ?_
        exact ret _ _ _ _ _ _ dX11_paper_65 rfl (by decide) (by decide) hZp
      · refine g_tableIn C 66 dX11_paper_22 (by omega) (by omega) (by rw [e9]; rfl) (by decide) ?_
        refine g_aload C dX11_paper_66 0 rfl ?_
        refine g_getI C fi_X11_194 (by decide) hqL hqK dX11_paper_68 ?_
        exact ret _ _ _ _ _ _ dX11_paper_71 rfl (by decide) (by decide) hZp
      · refine g_tableIn C 72 dX11_paper_22 (by omega) (by omega) (by rw [e9]; rfl) (by decide) ?_
        refine g_aload C dX11_paper_72 0 rfl ?_
        refine g_getI C fi_X11_197 (by decide) hqL hqK dX11_paper_74 ?_
        exact ret _ _ _ _ _ _ dX11_paper_77 rfl (by decide) (by decide) hZp
      · refine g_tableIn C 78 dX11_paper_22 (by omega) (by omega) (by rw [e9]; rfl) (by decide) ?_
        refine g_aload C dX11_paper_78 0 rfl ?_
        refine g_getI C fi_X11_200 (by decide) hqL hqK dX11_paper_80 ?_
        exact ret _ _ _ _ _ _ dX11_paper_83 rfl (by decide) (by decide) hZp
      · refine g_tableIn C 84 dX11_paper_22 (by omega) (by omega) (by rw [e9]; rfl) (by decide) ?_
        refine g_aload C dX11_paper_84 0 rfl ?_
        refine g_getI C fi_X11_203 (by decide) hqL hqK dX11_paper_86 ?_
        exact ret _ _ _ _ _ _ dX11_paper_89 rfl (by decide) (by decide) hZp
      · refine g_tableIn C 90 dX11_paper_22 (by omega) (by omega) (by rw [e9]; rfl) (by decide) ?_
        refine g_aload C dX11_paper_90 0 rfl ?_
        refine g_getI C fi_X11_191 (by decide) hqL hqK dX11_paper_92 ?_
        refine g_iconst (v := -1) C dX11_paper_95 (by decide) ?_
        refine b_icmp_ne C 103 dX11_paper_96 (by decide) (fun h => ?_) (fun h => ?_)
        · refine g_aload_n C dX11_paper_103 rfl 1 rfl ?_
          refine g_iload_n C dX11_paper_104 rfl 2 rfl ?_
          refine g_aload C dX11_paper_105 0 rfl ?_
          refine g_callVI (rest := []) C mv_X11_206 [.int a, .ref q] (hu q hk h) hx hxK rfl rfl (by decide) (Nat.le_of_ble_eq_true rfl) (by decide) dX11_paper_107 (fun r U h9 => ?_)
          exact ret _ _ _ _ _ _ dX11_paper_110 rfl (by decide) (by decide) h9
        · refine g_iconst (v := -1) C dX11_paper_99 (by decide) ?_
          refine g_goto C 110 dX11_paper_100 (by decide) ?_
          exact ret _ _ _ _ _ _ dX11_paper_110 rfl (by decide) (by decide) hZp
theorem dL_paper_0 : decode cL_paper 0 = .ok (.aload 4, 2) := by decide +kernel
theorem dL_paper_2 : decode cL_paper 2 = .ok (.iconst 0, 1) := by decide +kernel
theorem dL_paper_3 : decode cL_paper 3 = .ok (.aload_n 0, 1) := by decide +kernel
theorem dL_paper_4 : decode cL_paper 4 = .ok (.iload_n 1, 1) := by decide +kernel
theorem dL_paper_5 : decode cL_paper 5 = .ok (.iload_n 2, 1) := by decide +kernel
theorem dL_paper_6 : decode cL_paper 6 = .ok (.iload_n 3, 1) := by decide +kernel
theorem dL_paper_7 : decode cL_paper 7 = .ok (.invokevirtual 7, 3) := by decide +kernel
theorem dL_paper_10 : decode cL_paper 10 = .ok (.i2l, 1) := by decide +kernel
theorem dL_paper_11 : decode cL_paper 11 = .ok (.lastore, 1) := by decide +kernel
theorem dL_paper_12 : decode cL_paper 12 = .ok (.goto 7, 3) := by decide +kernel
theorem dL_paper_15 : decode cL_paper 15 = .ok (.astore 5, 2) := by decide +kernel
theorem dL_paper_17 : decode cL_paper 17 = .ok (.iconst 1, 1) := by decide +kernel
theorem dL_paper_18 : decode cL_paper 18 = .ok (.ireturn, 1) := by decide +kernel
theorem dL_paper_19 : decode cL_paper 19 = .ok (.iconst 0, 1) := by decide +kernel
theorem dL_paper_20 : decode cL_paper 20 = .ok (.ireturn, 1) := by decide +kernel
theorem ix0_1 : IX 0 1 0 := ⟨by decide, by unfold vp_in; decide⟩
set_option maxHeartbeats 4000000 in
set_option maxRecDepth 100000 in
theorem c_L_paper {P : PP} {x : Nat} {a b c0 : Int32} {Kp : Nat → Prop} {Zp : PP → Prop} {o : Nat} (hx : x ∈ pL P) (hxK : pK P x = 11) (hZp : Zp P) (hKp : ∀ q, Kp q → q ∈ pL P ∧ pK P q = 7) (hq : CtrQ yX11_paperAt cX11_paperAt 3 (some (Jvm.ClassFile.FieldType.object "ThousandLeaflets$Paper")) ({ frames := 2, cells := 0, slots := 0, locals := 128 } : Room) 0 0 P [.ref x, .int a, .int b] (fun r P2 => P = P2 ∧ (r = none ∨ ∃ q, r = some q ∧ Kp q))) (hu : ∀ q, Kp q → ¬ pI P q 0 = -1 → CtrI yX11_unknownPages cX11_unknownPages 5 (some Jvm.ClassFile.FieldType.int) ({ frames := 4, cells := 0, slots := 0, locals := 256 } : Room) 0 0 P [.ref x, .int a, .ref q] (fun _ P2 => Zp P2)) (hZo : ∀ (cy : Nat → ClassId) (A : Nat → Prop) (U : PP), va_D A (pw cy U) → Zp U → o ∈ pL U ∧ pK U o = 14 ∧ pN U o = 1) (l : Launch) (hl : l.stackTraces = false) (D : va_G) (cy : Nat → ClassId) (sz : Nat) : Met l yL_paper [.codeWith yL_paper cL_paper 6 (some .int) [(0, 12, 15, 13)]] ({ frames := 7, cells := 1, slots := 6, locals := 448 } : Room) (va_Pc [.ref x, .int a, .int b, .int c0, .ref o] (pX D cy P sz)) (va_Qi (fun (_ : Int32) (U : PP) => U = P ∨ ∃ P2 v, Zp P2 ∧ U = pSJ P2 o 0 v) (pA D cy (va_A (pw cy P) sz)) (va_A (pw cy P) sz)) 1 6 (va_A (pw cy P) sz) := by
  refine va_MetW (cc := cL_paper) (maxL := 6) (ret := some .int) (by decide) rfl ?_
  intro p e s m args below meth c s₁ B hml hv
  have htab : c.exceptionTable.toList = [] ++ (⟨0, 12, 15, 13⟩ : ExceptionTableEntry) :: [] := vx_table (x := yL_paper) B (atoms_spec (ws := [.codeWith yL_paper cL_paper 6 (some .int) [(0, 12, 15, 13)]]) B.pre _ List.mem_cons_self)
  obtain ⟨rfl, ⟨hsz, hT, hP, hK, hD0, hZ⟩, hTX, hUN⟩ := hv
  have hx0 := B.exec
  have hb := B.bytes
  have hr := B.returns
  have hown : s.vm.findClass RL = some m.cls := findClass_of_methodNamed B.named
  have hlocks := B.notSynchronized
  subst hsz
  have hD := hD0.self (sz := s.heap.size)
  have hA : ∀ q : Nat, s.heap.size ≤ q → va_A (pw cy P) s.heap.size q := fun q h => Or.inr h
  have hS : va_S (va_A (pw cy P) s.heap.size) s.heap s.heap [] := va_S.rf
  have hlv := lv_entry [.ref x, .int a, .int b, .int c0, .ref o] (n := 6) (Nat.le_of_ble_eq_true rfl)
  rw [show lv_args 0 [.ref x, .int a, .int b, .int c0, .ref o] = [(0, .ref x), (1, .int a), (2, .int b), (3, .int c0), (4, .ref o)] from rfl] at hlv
  rw [lg_entry_eq]
  obtain ⟨Q, hQ⟩ : ∃ z, z = MQ below (va_Qi (fun (_ : Int32) (U : PP) => U = P ∨ ∃ P2 v, Zp P2 ∧ U = pSJ P2 o 0 v) (pA D cy (va_A (pw cy P) s.heap.size)) (va_A (pw cy P) s.heap.size)) ([.ref x, .int a, .int b, .int c0, .ref o] : List Value).toArray s 1 6 (va_A (pw cy P) s.heap.size) := ⟨_, rfl⟩
  rw [← hQ]
  obtain ⟨E, hE⟩ : ∃ E : EV, E = (p, l, e, s, m, ([.ref x, .int a, .int b, .int c0, .ref o] : List Value).toArray, below, meth, c, Q, va_A (pw cy P) s.heap.size) := ⟨_, rfl⟩
  have C : Cx E D cy 6 cL_paper RL := by
    rw [hE]; exact ⟨hx0, hb, hml, hown, hT, hK, hA, hlocks, hZ⟩
  have ret : RetI E ({ frames := 7, cells := 1, slots := 6, locals := 448 } : Room) D cy 6 cL_paper 1 6 .int (fun (_ : Int32) (U : PP) => U = P ∨ ∃ P2 v, Zp P2 ∧ U = pSJ P2 o 0 v) := by
    rw [hE, hQ]
    intro P2 cs sl pc lv2 v d hn h1 h2 hp H locs ls hP2 hD2 hS2 hl2
    refine W.widen h1 h2 ?_
    exact W.zret hx0 hb hr hn (fun t ht hW => ⟨⟨v, P2, rfl, hp, by rw [ht]; exact hP2, va_K.moved hW.alike hK, hD2⟩, hS2.F ht⟩) hS2.2.2 d
  suffices g9 : G E ({ frames := 7, cells := 1, slots := 6, locals := 448 } : Room) D cy 6 P 0 0 0 [(0, .ref x), (1, .int a), (2, .int b), (3, .int c0), (4, .ref o)] [] by
    rw [hE] at g9
    exact g9 s.heap [] _ hP hD hS hlv
  refine g_aload C dL_paper_0 4 rfl ?_
  refine g_iconst (v := 0) C dL_paper_2 (by decide) ?_
  refine g_aload_n C dL_paper_3 rfl 0 rfl ?_
  refine g_iload_n C dL_paper_4 rfl 1 rfl ?_
  refine g_iload_n C dL_paper_5 rfl 2 rfl ?_
  refine g_iload_n C dL_paper_6 rfl 3 rfl ?_
  subst hE
  intro H locs ls hP1 hD1 hS1 hl1
  have hFc : ∀ q : Nat, va_A (pw cy P) H.size q → va_A (pw cy P) s.heap.size q := by
    rintro q (⟨j, x9, h⟩ | h)
    · exact hD1.2 j _ h
    · exact hA q (Nat.le_trans hS1.1 h)
  have hpre : ∀ U : State, U.heap = H → s.WarmedH U.vm → va_Pc [.ref x, .int a, .int b, .int c0] (pX D cy P H.size) ([.ref x, .int a, .int b, .int c0] : List Value).toArray U := fun U hU9 hW => ⟨rfl, ⟨by rw [hU9], hT.warm hW, by rw [hU9]; exact hP1, va_K.moved hW.alike hK, ⟨hD1.1, fun _ _ _ => trivial⟩, hZ.call hW hU9 hS1 hFc⟩, hTX.warm hW, hUN.call hU9 hW hS1 hFc⟩
  obtain ⟨mb, m1, m2, T9, N9, m3, m4⟩ := mv_L_7
  obtain ⟨q0, hq0⟩ := pw_get (cy := cy) hx
  rw [pe_obj hxK m4] at hq0
  have hrun := vx_runV (p := p) (l := l) (e := e) (R := ({ frames := 7, cells := 1, slots := 6, locals := 448 } : Room)) (args := ([.ref x, .int a, .int b, .int c0, .ref o] : List Value).toArray) (below := below) (meth := meth) (locs := locs) (cells := 0) (slots := 0) (g := F0 m 7 ls [.int c0, .int b, .int a, .ref x, .int 0, .ref o]) (As := [.int a, .int b, .int c0]) (rest := [.int 0, .ref o]) (Ts := []) ⟨hx0, hb, hml, hown, fun w hw => absurd hw List.not_mem_nil⟩ (c_X11_paper hx hxK hZp hKp hq hu l hl D cy H.size) ⟨callB_tw hT mb rfl rfl (by decide) (by decide), m1 s hT _, m2 s hT _⟩ ⟨pX_blind, va_recv hK hP1 m3 hq0, hpre⟩ rfl rfl hl1.1 rfl (lv_room (Nat.le_of_ble_eq_true rfl)) dL_paper_7 ⟨by decide, by decide⟩
  refine vx_calli hrun hS1 (fun q _ h => hFc q h) hFc (fun q _ h => hFc q h) (fun E9 ce q9 u t H1 locs1 ht hal hu9 hB hz hk hS2 hce hcv hcl => ?_) (fun r u t H1 locs1 ht hal hw hB hz hk hS2 => ?_)
  · obtain ⟨rfl, hA9⟩ := hB
    subst hu9
    refine vx_catch (own := RL) (name := xN) hown [] ⟨0, 12, 15, 13⟩ [] htab (fun z hz => by cases hz) (by decide) (by decide) (xw_c s hT _) (xB_at (State.WarmedH.refl s) (by decide +kernel) (hTX (.castable xN xN) (by decide +kernel))) hce hcv hcl ?_
    have hP2 : va_P D vwCl (pw cy u) H1 := by rw [← ht]; exact hA9.1
    have hD2 : va_D (va_A (pw cy u) s.heap.size) (pw cy u) := ⟨hA9.2.2.1, fun j q h => hFc _ (hA9.2.2.2 j q h)⟩
    suffices g8 : G (p, l, e, s, m, ([.ref x, .int a, .int b, .int c0, .ref o] : List Value).toArray, below, meth, c, Q, va_A (pw cy u) s.heap.size) ({ frames := 7, cells := 1, slots := 6, locals := 448 } : Room) D cy 6 u 1 6 15 [(0, .ref x), (1, .int a), (2, .int b), (3, .int c0), (4, .ref o)] [.ref q9] from g8 H1 locs1 ls hP2 hD2 hS2 hl1
    refine g_astore (lv' := (5, .ref q9) :: [(0, .ref x), (1, .int a), (2, .int b), (3, .int c0), (4, .ref o)]) C dL_paper_15 (by decide) rfl ?_
    refine g_iconst (v := 1) C dL_paper_17 (by decide) ?_
    exact ret _ _ _ _ _ _ dL_paper_18 rfl (by decide) (by decide) (Or.inl rfl)
  · have hP2 : va_P D vwCl (pw cy u) H1 := by rw [← ht]; exact hB.1
    have hD2 : va_D (va_A (pw cy P) s.heap.size) (pw cy u) := ⟨hB.2.2.1, fun j q h => hFc _ (hB.2.2.2 j q h)⟩
    obtain ⟨ho1, ho2, ho3⟩ := hZo cy _ u hD2 hw
    suffices g8 : G (p, l, e, s, m, ([.ref x, .int a, .int b, .int c0, .ref o] : List Value).toArray, below, meth, c, Q, va_A (pw cy P) s.heap.size) ({ frames := 7, cells := 1, slots := 6, locals := 448 } : Room) D cy 6 u 1 6 10 [(0, .ref x), (1, .int a), (2, .int b), (3, .int c0), (4, .ref o)] [.int r, .int 0, .ref o] from g8 H1 locs1 ls hP2 hD2 hS2 hl1
    refine g_i2l C dL_paper_10 rfl ?_
    refine g_last (j := 0) C ho1 ho2 (by rw [ho3]; exact ix0_1) dL_paper_11 ?_
    refine g_goto C 19 dL_paper_12 (by decide) ?_
    refine g_iconst (v := 0) C dL_paper_19 (by decide) ?_
    exact ret _ _ _ _ _ _ dL_paper_20 rfl (by decide) (by decide) (Or.inr ⟨u, _, hw, rfl⟩)
/-- what a throw asks of the world, in the law -/
def Xt (E : EV) : Prop := match E with
  | (p, l, e, s, m, args, below, meth, c, Q, A) => l.stackTraces = false ∧ TX s ∧ xU A s s.heap
theorem pm_L_paper : (parseMethodDescriptor yL_paper.desc).map (fun d => d.parameters.length) = some 5 := by decide +kernel
theorem g_callPaper {E : EV} {R : Room} {D : va_G} {cy : Nat → ClassId} {nL : Nat} {cs sl pc : Nat} {lv : List (Nat × Value)} {st rest : List Value} {cc : ByteArray} {P : PP} {x : Nat} {a b c0 : Int32} {Kp : Nat → Prop} {Zp : PP → Prop} {o : Nat} (C : Cx E D cy nL cc RL) (hX : Xt E) (hx : x ∈ pL P) (hxK : pK P x = 11) (hZp : Zp P) (hKp : ∀ q, Kp q → q ∈ pL P ∧ pK P q = 7) (hq : CtrQ yX11_paperAt cX11_paperAt 3 (some (Jvm.ClassFile.FieldType.object "ThousandLeaflets$Paper")) ({ frames := 2, cells := 0, slots := 0, locals := 128 } : Room) 0 0 P [.ref x, .int a, .int b] (fun r P2 => P = P2 ∧ (r = none ∨ ∃ q, r = some q ∧ Kp q))) (hu : ∀ q, Kp q → ¬ pI P q 0 = -1 → CtrI yX11_unknownPages cX11_unknownPages 5 (some Jvm.ClassFile.FieldType.int) ({ frames := 4, cells := 0, slots := 0, locals := 256 } : Room) 0 0 P [.ref x, .int a, .ref q] (fun _ P2 => Zp P2)) (hZo : ∀ (cy : Nat → ClassId) (A : Nat → Prop) (U : PP), va_D A (pw cy U) → Zp U → o ∈ pL U ∧ pK U o = 14 ∧ pN U o = 1) (hst : st = [.ref o, .int c0, .int b, .int a, .ref x] ++ rest) (hrm : 8 ≤ R.frames ∧ 1000 ≤ R.locals) (hrest : (rest.map fun v => v.category).sum ≤ 8) (hroom : cs + 1 ≤ R.cells ∧ sl + 6 ≤ R.slots) (d : decode cc pc = .ok (.invokestatic 68, 3)) (k : ∀ (r : Int32) (U : PP), (U = P ∨ ∃ P2 v, Zp P2 ∧ U = pSJ P2 o 0 v) → G E R D cy nL U (cs + 1) (sl + 6) (pc + 3) lv (.int r :: rest)) : G E R D cy nL P cs sl pc lv st := by
  obtain ⟨p, l, e, s, m, args, below, meth, c, Q, A⟩ := E
  obtain ⟨hx0, hb, hml, hown, hT, hK, hA, hlk, hZ⟩ := C
  obtain ⟨hl, hTX, hUN⟩ := hX
  intro H locs ls hP hD hS hlv
  have hFc : ∀ q : Nat, va_A (pw cy P) H.size q → A q := by
    rintro q (⟨j, x9, h⟩ | h)
    · exact hD.2 j _ h
    · exact hA q (Nat.le_trans hS.1 h)
  have hpre : ∀ U : State, U.heap = H → s.WarmedH U.vm → va_Pc [.ref x, .int a, .int b, .int c0, .ref o] (pX D cy P H.size) ([.ref x, .int a, .int b, .int c0, .ref o] : List Value).toArray U := fun U hU9 hW => ⟨rfl, ⟨by rw [hU9], hT.warm hW, by rw [hU9]; exact hP, va_K.moved hW.alike hK, ⟨hD.1, fun _ _ _ => trivial⟩, hZ.call hW hU9 hS hFc⟩, hTX.warm hW, hUN.call hU9 hW hS hFc⟩
  have hrun := vx_runSW (p := p) (l := l) (e := e) (R := R) (args := args) (below := below) (meth := meth) (locs := locs) (cells := cs) (slots := sl) (g := F0 m pc ls st) (As := [.ref x, .int a, .int b, .int c0, .ref o]) (rest := rest) (Ts := []) (maxL := 6) (n := 5) (hh := [(0, 12, 15, 13)]) (bytes := cL_paper) (ret := some .int) ⟨hx0, hb, hml, hown, fun w hw => absurd hw List.not_mem_nil⟩ (c_L_paper hx hxK hZp hKp hq hu hZo l hl D cy H.size) ⟨⟨rfl, rfl, by simpa using hrm.1, Nat.le_trans (by decide) hrm.2, fun w hw a' U hW => by rw [List.mem_singleton.mp hw]; exact xw_w U (hT.warm hW) a', List.mem_cons_self⟩, xw_w s hT _, xw_n s hT _, ⟨by decide +kernel, by decide +kernel⟩, fun sig h => by have h6 := pm_L_paper; rw [h] at h6; exact (Option.some.inj h6).symm, xw_l s hT _, xw_s s hT _⟩ ⟨pX_blind, hpre⟩ rfl rfl hlv.1 hst (lv_room hrest) d hroom
  exact va_calli hrun hS (fun q _ h => hFc q h) hFc (fun r u t H1 locs1 ht hvm hw hB hz1 hk1 hS1 => k r u hw H1 locs1 ls (by rw [← ht]; exact hB.1) ⟨hB.2.2.1, fun j q h => hFc _ (hB.2.2.2 j q h)⟩ hS1 hlv)
