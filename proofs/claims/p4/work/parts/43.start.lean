theorem arr_obj {args : Array Value} {s : State} {C : String} (h : (Cond.arrayOver (.object C)).before args s = true) : ∃ cA : ClassId, ArrOfT s cA (.object C) ∧ va_RA s cA (.object C) := by
  obtain ⟨comp, c, k, h1, h2, h3, h4, h5⟩ := Cond.arrayOver_spec h
  exact ⟨c, fun n z => ⟨fun k h => (by cases h), k, h3, comp, h4⟩, k, comp, h3, h4, h1, h5⟩
theorem arr_int {args : Array Value} {s : State} (h : (Cond.arrayClass .int).before args s = true) : ∃ cA : ClassId, ArrOfT s cA .int ∧ va_RA s cA .int := by
  obtain ⟨c, k, comp, h1, h2, h3⟩ := Cond.arrayClass_spec h
  exact ⟨c, fun n z => ⟨fun k h => (by cases h), k, h2, comp, h3⟩, h1⟩
theorem arr_long {args : Array Value} {s : State} (h : (Cond.arrayClass .long).before args s = true) : ∃ cA : ClassId, ArrOfT s cA .long ∧ va_RA s cA .long := by
  obtain ⟨c, k, comp, h1, h2, h3⟩ := Cond.arrayClass_spec h
  exact ⟨c, fun n z => ⟨fun k h => (by cases h), k, h2, comp, h3⟩, h1⟩
theorem arr_boolean {args : Array Value} {s : State} (h : (Cond.arrayClass .boolean).before args s = true) : ∃ cA : ClassId, ArrOfT s cA .boolean ∧ va_RA s cA .boolean := by
  obtain ⟨c, k, comp, h1, h2, h3⟩ := Cond.arrayClass_spec h
  exact ⟨c, fun n z => ⟨fun k h => (by cases h), k, h2, comp, h3⟩, h1⟩
theorem law_K {s : State} (hT : TB s) (aK aV : Nat → Nat) : ∃ (D : va_G) (cy : Nat → ClassId), va_K D vwCl (tysL cy) s ∧ D.2 100 = aK ∧ D.2 101 = aV := by
  obtain ⟨c0, i0, k0⟩ := u_known (s := s) (args := #[]) (C := RX0) (T := TX0) (N := 4) (n := 4) (ws := u_ws RX0 TX0 4) (fun w hw => us_X0 w hw s hT _) (fun w hw => hw) (tw_171 s hT _)
  obtain ⟨c1, i1, k1⟩ := u_known (s := s) (args := #[]) (C := RX1) (T := TX1) (N := 7) (n := 7) (ws := u_ws RX1 TX1 7) (fun w hw => us_X1 w hw s hT _) (fun w hw => hw) (tw_283 s hT _)
  obtain ⟨c2, i2, k2⟩ := u_known (s := s) (args := #[]) (C := RX2) (T := TX2) (N := 7) (n := 7) (ws := u_ws RX2 TX2 7) (fun w hw => us_X2 w hw s hT _) (fun w hw => hw) (tw_223 s hT _)
  obtain ⟨c3, i3, k3⟩ := u_known (s := s) (args := #[]) (C := RX3) (T := TX3) (N := 6) (n := 6) (ws := u_ws RX3 TX3 6) (fun w hw => us_X3 w hw s hT _) (fun w hw => hw) (tw_76 s hT _)
  obtain ⟨c4, i4, k4⟩ := u_known (s := s) (args := #[]) (C := RX4) (T := TX4) (N := 2) (n := 2) (ws := u_ws RX4 TX4 2) (fun w hw => us_X4 w hw s hT _) (fun w hw => hw) (tw_39 s hT _)
  obtain ⟨c5, i5, k5⟩ := u_known (s := s) (args := #[]) (C := RX5) (T := TX5) (N := 6) (n := 6) (ws := u_ws RX5 TX5 6) (fun w hw => us_X5 w hw s hT _) (fun w hw => hw) (tw_138 s hT _)
  obtain ⟨c6, i6, k6⟩ := u_known (s := s) (args := #[]) (C := RX6) (T := TX6) (N := 2) (n := 2) (ws := u_ws RX6 TX6 2) (fun w hw => us_X6 w hw s hT _) (fun w hw => hw) (tw_319 s hT _)
  obtain ⟨c7, i7, k7⟩ := u_known (s := s) (args := #[]) (C := RX7) (T := TX7) (N := 7) (n := 7) (ws := u_ws RX7 TX7 7) (fun w hw => us_X7 w hw s hT _) (fun w hw => hw) (tw_653 s hT _)
  obtain ⟨c8, i8, k8⟩ := u_known (s := s) (args := #[]) (C := RX8) (T := TX8) (N := 8) (n := 8) (ws := u_ws RX8 TX8 8) (fun w hw => us_X8 w hw s hT _) (fun w hw => hw) (tw_132 s hT _)
  obtain ⟨c9, i9, k9⟩ := u_known (s := s) (args := #[]) (C := RX9) (T := TX9) (N := 6) (n := 6) (ws := u_ws RX9 TX9 6) (fun w hw => us_X9 w hw s hT _) (fun w hw => hw) (tw_45 s hT _)
  obtain ⟨c10, i10, k10⟩ := u_known (s := s) (args := #[]) (C := RX10) (T := TX10) (N := 6) (n := 6) (ws := u_ws RX10 TX10 6) (fun w hw => us_X10 w hw s hT _) (fun w hw => hw) (tw_255 s hT _)
  obtain ⟨c11, i11, k11⟩ := u_known (s := s) (args := #[]) (C := RX11) (T := TX11) (N := 14) (n := 14) (ws := u_ws RX11 TX11 14) (fun w hw => us_X11 w hw s hT _) (fun w hw => hw) (tw_27 s hT _)
  obtain ⟨c12, i12, k12⟩ := u_known (s := s) (args := #[]) (C := RX12) (T := TX12) (N := 48) (n := 48) (ws := u_ws RX12 TX12 48) (fun w hw => us_X12 w hw s hT _) (fun w hw => hw) (tw_1149 s hT _)
  obtain ⟨y13, z13⟩ := arr_int (ac_int s hT #[])
  obtain ⟨y14, z14⟩ := arr_long (ac_long s hT #[])
  obtain ⟨y15, z15⟩ := arr_boolean (ac_boolean s hT #[])
  obtain ⟨y16, z16⟩ := arr_obj (ao_X0 s hT #[])
  obtain ⟨y17, z17⟩ := arr_obj (ao_X1 s hT #[])
  obtain ⟨y18, z18⟩ := arr_obj (ao_X5 s hT #[])
  obtain ⟨y19, z19⟩ := arr_obj (ao_X6 s hT #[])
  obtain ⟨y20, z20⟩ := arr_obj (ao_X7 s hT #[])
  refine ⟨(fun k => [c0, c1, c2, c3, c4, c5, c6, c7, c8, c9, c10, c11, c12].getD k 0, fun k => if k = 100 then aK else if k = 101 then aV else [i0, i1, i2, i3, i4, i5, i6, i7, i8, i9, i10, i11, i12].getD k (fun _ => 0)), fun k => [y13, y14, y15, y16, y17, y18, y19, y20].getD (k - 13) 0, ⟨?_, ?_⟩, rfl, rfl⟩
  · intro c q hq
    match c, hq with
    | 0, h => cases h; exact k0
    | 1, h => cases h; exact k1
    | 2, h => cases h; exact k2
    | 3, h => cases h; exact k3
    | 4, h => cases h; exact k4
    | 5, h => cases h; exact k5
    | 6, h => cases h; exact k6
    | 7, h => cases h; exact k7
    | 8, h => cases h; exact k8
    | 9, h => cases h; exact k9
    | 10, h => cases h; exact k10
    | 11, h => cases h; exact k11
    | 12, h => cases h; exact k12
    | c + 13, h => cases h
  · intro c q hq
    match c, hq with
    | 0, h => cases h; exact z13
    | 1, h => cases h; exact z14
    | 2, h => cases h; exact z15
    | 3, h => cases h; exact z16
    | 4, h => cases h; exact z17
    | 5, h => cases h; exact z18
    | 6, h => cases h; exact z19
    | 7, h => cases h; exact z20
    | c + 8, h => cases h
theorem xb_0 : (Jvm.Cond.declares ({ cls := "java/lang/RuntimeException", name := "<init>", desc := "()V" } : Jvm.MethodName)) ∈ lw_tbl := List.mem_append_right _ (List.mem_append_right _ (List.mem_append_right _ (List.mem_append_right _ (List.mem_append_right _ (List.mem_append_left _ (List.mem_of_getElem? (i := 118) rfl))))))
theorem xb_1 : (Jvm.Cond.declares ({ cls := "java/lang/Exception", name := "<init>", desc := "()V" } : Jvm.MethodName)) ∈ lw_tbl := List.mem_append_right _ (List.mem_append_right _ (List.mem_append_right _ (List.mem_append_right _ (List.mem_append_right _ (List.mem_append_left _ (List.mem_of_getElem? (i := 120) rfl))))))
theorem xb_2 : (Jvm.Cond.declares ({ cls := "java/lang/Throwable", name := "<init>", desc := "()V" } : Jvm.MethodName)) ∈ lw_tbl := List.mem_append_right _ (List.mem_append_right _ (List.mem_append_right _ (List.mem_append_right _ (List.mem_append_right _ (List.mem_append_left _ (List.mem_of_getElem? (i := 122) rfl))))))
theorem xb_3 : (Jvm.Cond.castable "java/util/NoSuchElementException" "java/util/NoSuchElementException") ∈ lw_tbl := List.mem_append_right _ (List.mem_append_right _ (List.mem_append_right _ (List.mem_append_right _ (List.mem_append_right _ (List.mem_append_left _ (List.mem_of_getElem? (i := 117) rfl))))))
theorem xb_in : ∀ w ∈ xB, w ∈ lw_tbl := List.forall_mem_cons.mpr ⟨xb_0, List.forall_mem_cons.mpr ⟨xb_1, List.forall_mem_cons.mpr ⟨xb_2, List.forall_mem_cons.mpr ⟨xb_3, fun _ h => absurd h List.not_mem_nil⟩⟩⟩⟩
theorem xl_U : (Jvm.Cond.laysStatic "java/lang/Throwable" "UNASSIGNED_STACK" "[Ljava/lang/StackTraceElement;") ∈ lw_tbl := List.mem_append_right _ (List.mem_append_right _ (List.mem_append_right _ (List.mem_append_right _ (List.mem_append_right _ (List.mem_append_left _ (List.mem_of_getElem? (i := 142) rfl))))))
theorem xl_N : (Jvm.Cond.laysStatic "java/lang/Throwable" "SUPPRESSED_SENTINEL" "Ljava/util/List;") ∈ lw_tbl := List.mem_append_right _ (List.mem_append_right _ (List.mem_append_right _ (List.mem_append_right _ (List.mem_append_right _ (List.mem_append_left _ (List.mem_of_getElem? (i := 144) rfl))))))
theorem xl_I : (Jvm.Cond.initialized "java/lang/Throwable") ∈ lw_tbl := List.mem_append_right _ (List.mem_append_left _ (List.mem_of_getElem? (i := 20) rfl))
theorem xs_0 : (Jvm.Cond.stringRef "ThousandLeaflets$DrawReader" (42 : Nat) "odds") ∈ lw_tbl := List.mem_append_right _ (List.mem_append_right _ (List.mem_append_left _ (List.mem_of_getElem? (i := 220) rfl)))
theorem xs_1 : (Jvm.Cond.stringRef "ThousandLeaflets$DrawReader" (52 : Nat) "first") ∈ lw_tbl := List.mem_append_right _ (List.mem_append_right _ (List.mem_append_right _ (List.mem_append_left _ (List.mem_of_getElem? (i := 49) rfl))))
theorem xs_2 : (Jvm.Cond.stringRef "ThousandLeaflets$DrawReader" (63 : Nat) "sum") ∈ lw_tbl := List.mem_append_right _ (List.mem_append_right _ (List.mem_append_right _ (List.mem_append_left _ (List.mem_of_getElem? (i := 54) rfl))))
theorem xs_3 : (Jvm.Cond.stringRef "ThousandLeaflets$DrawReader" (71 : Nat) "seal") ∈ lw_tbl := List.mem_append_right _ (List.mem_append_right _ (List.mem_append_right _ (List.mem_append_left _ (List.mem_of_getElem? (i := 59) rfl))))
theorem xc_C : (Jvm.Cond.laysStatic "java/lang/String" "COMPACT_STRINGS" "Z") ∈ lw_tbl := List.mem_append_right _ (List.mem_append_right _ (List.mem_append_left _ (List.mem_of_getElem? (i := 234) rfl)))
theorem xc_S : (Jvm.Cond.initialized "java/lang/String") ∈ lw_tbl := List.mem_append_right _ (List.mem_append_left _ (List.mem_of_getElem? (i := 13) rfl))
theorem xc_F : (Jvm.Cond.laysStatic "jdk/internal/util/Preconditions" "SIOOBE_FORMATTER" "Ljava/util/function/BiFunction;") ∈ lw_tbl := List.mem_append_right _ (List.mem_append_right _ (List.mem_append_right _ (List.mem_append_left _ (List.mem_of_getElem? (i := 10) rfl))))
theorem xc_Q : (Jvm.Cond.initialized "jdk/internal/util/Preconditions") ∈ lw_tbl := List.mem_append_right _ (List.mem_append_left _ (List.mem_of_getElem? (i := 15) rfl))
def tmS (i : Nat) : Term := .string RX4 (kxS i)
theorem four {p : Nat → Prop} (h0 : p 0) (h1 : p 1) (h2 : p 2) (h3 : p 3) : ∀ i, i < 4 → p i := by
  intro i hi
  rcases (show i = 0 ∨ i = 1 ∨ i = 2 ∨ i = 3 by omega) with rfl | rfl | rfl | rfl
  · exact h0
  · exact h1
  · exact h2
  · exact h3
set_option maxHeartbeats 4000000 in
set_option maxRecDepth 100000 in
theorem law_S {s : State} {args : Array Value} {A : Nat → Prop} (hg : ∀ w ∈ flatC (Jvm.Cond.and given_1 narrow_1), w.before args s = true) (hA : ∀ a : Nat, a < s.heap.size → ¬ A a) : ∃ adK adV : Nat → Nat, vk_S 4 lenS bytS adK adV A s s.heap ∧ ∀ i : Nat, i < 4 → (tmS i).eval args s none [] s = some (.ref (adK i)) := by
  refine vk_Sof (tm := tmS) ?_ ?_ ?_ ?_ ?_ ?_ ?_ hA
  · refine four ?_ ?_ ?_ ?_ <;> decide
  · refine four ?_ ?_ ?_ ?_ <;> exact hg _ (by decide +kernel)
  · refine four ?_ ?_ ?_ ?_ <;> exact hg _ (by decide +kernel)
  · refine four ?_ ?_ ?_ ?_ <;> exact hg _ (by decide +kernel)
  · refine four ?_ ?_ ?_ ?_ <;> exact hg _ (by decide +kernel)
  · refine four ?_ ?_ ?_ ?_
    · intro j hj
      have hj2 : j < 4 := hj
      rcases (show j = 0 ∨ j = 1 ∨ j = 2 ∨ j = 3 by omega) with rfl | rfl | rfl | rfl
      · exact hg _ (by decide +kernel)
      · exact hg _ (by decide +kernel)
      · exact hg _ (by decide +kernel)
      · exact hg _ (by decide +kernel)
    · intro j hj
      have hj2 : j < 5 := hj
      rcases (show j = 0 ∨ j = 1 ∨ j = 2 ∨ j = 3 ∨ j = 4 by omega) with rfl | rfl | rfl | rfl | rfl
      · exact hg _ (by decide +kernel)
      · exact hg _ (by decide +kernel)
      · exact hg _ (by decide +kernel)
      · exact hg _ (by decide +kernel)
      · exact hg _ (by decide +kernel)
    · intro j hj
      have hj2 : j < 3 := hj
      rcases (show j = 0 ∨ j = 1 ∨ j = 2 by omega) with rfl | rfl | rfl
      · exact hg _ (by decide +kernel)
      · exact hg _ (by decide +kernel)
      · exact hg _ (by decide +kernel)
    · intro j hj
      have hj2 : j < 4 := hj
      rcases (show j = 0 ∨ j = 1 ∨ j = 2 ∨ j = 3 by omega) with rfl | rfl | rfl | rfl
      · exact hg _ (by decide +kernel)
      · exact hg _ (by decide +kernel)
      · exact hg _ (by decide +kernel)
      · exact hg _ (by decide +kernel)
  · intro i j hi hj hne
    rcases (show i = 0 ∨ i = 1 ∨ i = 2 ∨ i = 3 by omega) with rfl | rfl | rfl | rfl <;> rcases (show j = 0 ∨ j = 1 ∨ j = 2 ∨ j = 3 by omega) with rfl | rfl | rfl | rfl <;> first | exact absurd rfl hne | exact Or.inl (hg _ (by decide +kernel)) | exact Or.inr (hg _ (by decide +kernel))
/-- from the entry, for every script of at most 3584 ints, the law comes to its end with true -/
theorem whole_start {p : Program} {e : Env} {s : State} {m : MethodId} {below : List Frame} {meth : Method} {c : Code} (l : Launch) (hst : l.stackTraces = false) {b L : Nat} {xs : Nat → Int32} (hL : L ≤ 3584) (C0 : lw_At p s m meth c b L xs) : W p l e room_1 s m #[Value.ref b] below meth c s.heap [] 0 0 (lw_Z below #[Value.ref b] s) (entryFrame m ([Value.ref b] : List Value).toArray 7) := by
  obtain ⟨hx, hb, hr, hml, hown, hts, hX, hbl, hlk, hgv⟩ := C0
  have hT : TB s := TB.of hts
  have hTX : TX s := fun w hw => xB_at (State.WarmedH.refl s) hw (hts w (xb_in w hw))
  have hg := flat_of_before _ hgv
  have hnA : ∀ a : Nat, a < s.heap.size → ¬ (fun q => s.heap.size ≤ q) a := fun a h1 => Nat.not_le.mpr h1
  have hUN : xU (fun q => s.heap.size ≤ q) s s.heap := ⟨vx_Zqof (hts _ xl_U) (hts _ xl_I) (hg _ (by decide +kernel)) hnA, vx_Zqof (hts _ xl_N) (hts _ xl_I) (hg _ (by decide +kernel)) hnA⟩
  obtain ⟨aK, aV, hS4, hev⟩ := law_S hg hnA
  obtain ⟨D, cy, hK, hd1, hd2⟩ := law_K hT aK aV
  have hZ : SX D (fun q => s.heap.size ≤ q) s s.heap := by
    refine ⟨by rw [hd1, hd2]; exact hS4, ?_, va_Zof (hts _ xc_C) (hts _ xc_S) (va_eqt (hg _ (by decide +kernel))) hnA, va_Zqof (hts _ xc_F) (hts _ xc_Q) (hg _ (by decide +kernel)) hnA⟩
    rw [hd1]
    exact four (p := fun i => vk_R RX4 (kxS i) (txS i) (aK i) s) (vk_R.of (hts _ xs_0) (hev 0 (by decide))) (vk_R.of (hts _ xs_1) (hev 1 (by decide))) (vk_R.of (hts _ xs_2) (hev 2 (by decide))) (vk_R.of (hts _ xs_3) (hev 3 (by decide)))
  have hlv := lv_entry [.ref b] (n := 7) (Nat.le_of_ble_eq_true rfl)
  rw [show lv_args 0 [.ref b] = [(0, .ref b)] from rfl] at hlv
  rw [lg_entry_eq]
  have g9 : G (p, l, e, s, m, #[Value.ref b], below, meth, c, lw_Z below #[Value.ref b] s, fun q => s.heap.size ≤ q) room_1 D cy 7 p0 0 0 0 [(0, .ref b)] [] := law_walk (L := L) (xs := xs) (b := b) ⟨hx, hb, hml, hown, hT, hK, fun q h => h, hlk, hZ⟩ hL ⟨rfl, rfl, rfl, hr, hX, hbl⟩ ⟨hst, hTX, hUN⟩
  exact g9 s.heap [] _ (fun k q h => by cases h) ⟨fun i j p q h => (by cases h), fun k q h => (by cases h)⟩ va_S.rf hlv
