theorem dX11_scatter_64 : decode cX11_scatter 64 = .ok (.iadd, 1) := by decide +kernel
theorem dX11_scatter_65 : decode cX11_scatter 65 = .ok (.istore 4, 2) := by decide +kernel
theorem dX11_scatter_67 : decode cX11_scatter 67 = .ok (.iinc 5 1, 3) := by decide +kernel
theorem dX11_scatter_70 : decode cX11_scatter 70 = .ok (.goto (-33), 3) := by decide +kernel
set_option maxHeartbeats 4000000 in
set_option maxRecDepth 100000 in
theorem s_X11_scatter {P : PP} {a0 : Nat} {a1 : Int32} {a2 : Int32} {a3 : Int32} (I : IV P) (ha0 : At P a0 11) : CtrI yX11_scatter cX11_scatter 6 (some Jvm.ClassFile.FieldType.int) ({ frames := 7, cells := 100, slots := 700, locals := 448 } : Room) 100 700 P [.ref a0, .int a1, .int a2, .int a3] (fun r P2 => IV P2 ∧ EK [1, 6, 7, 13] P P2 ∧ (True)) := by
  refine enI (lv := [(0, .ref a0), (1, .int a1), (2, .int a2), (3, .int a3)]) (by decide) (Nat.le_of_ble_eq_true rfl) rfl (fun E D cy C Ci0 ret => ?_)
  have J37 : ∀ (n37 : Nat) (P37 : PP) (v37_4 : Int32) (v37_5 : Int32) (c37 : Nat) (d37 : Nat), (a3.toInt - v37_5.toInt + 1).toNat < n37 → (IV P37) → (EK [1, 6, 7, 13] P P37) → (0 ≤ a1.toInt ∧ a1.toInt ≤ 1) → (0 ≤ a3.toInt ∧ a3.toInt ≤ 9999) → (0 ≤ v37_5.toInt ∧ v37_5.toInt ≤ 10000) → (c37 + 1 * (a3.toInt - v37_5.toInt + 1).toNat ≤ 100) → (d37 + 7 * (a3.toInt - v37_5.toInt + 1).toNat ≤ 700) → G E ({ frames := 7, cells := 100, slots := 700, locals := 448 } : Room) D cy 6 P37 c37 d37 37 [(0, .ref a0), (1, .int a1), (3, .int a3), (4, .int v37_4), (5, .int v37_5)] [] := by
    intro n37
    induction n37 with
    | zero => intro P37 v37_4 v37_5 c37 d37 hm37 I37 X37 hv37_1 hv37_3 hv37_5 rel37_0 rel37_1; omega
    | succ n37 ih37 =>
      intro P37 v37_4 v37_5 c37 d37 hm37 I37 X37 hv37_1 hv37_3 hv37_5 rel37_0 rel37_1
      have h29224 := X37.at ha0
      have J67 : ∀ (P67 : PP) (v67_4 : Int32), (IV P67) → (EK [1, 6, 7, 13] P P67) → (0 ≤ a1.toInt ∧ a1.toInt ≤ 1) → (0 ≤ a3.toInt ∧ a3.toInt ≤ 9999) → (0 ≤ v37_5.toInt ∧ v37_5.toInt ≤ 9999) → (v37_5.toInt ≤ a3.toInt) → G E ({ frames := 7, cells := 100, slots := 700, locals := 448 } : Room) D cy 6 P67 (c37 + 1) (d37 + 7) 67 [(0, .ref a0), (1, .int a1), (3, .int a3), (4, .int v67_4), (5, .int v37_5)] [] := by
        intro P67 v67_4 I67 X67 hv67_1 hv67_3 hv67_5 rel67_0
        have h29225 := X67.at ha0
        refine s_iinc (lv0 := [(0, .ref a0), (1, .int a1), (3, .int a3), (4, .int v67_4)]) (m := 1) C dX11_scatter_67 4 rfl (by decide) rfl (by decide) (by omega) (fun z29226 h29227 => ?_)
        have h29227 : z29226.toInt = v37_5.toInt + 1 := h29227
        refine g_goto C 37 dX11_scatter_70 (by decide) ?_
        refine g_lv (lv' := [(0, .ref a0), (1, .int a1), (3, .int a3), (4, .int v67_4), (5, .int z29226)]) [1, 2, 3, 4, 0] rfl ?_
        exact ih37 P67 v67_4 z29226 (c37 + 1) (d37 + 7) (by omega) I67 X67 (by omega) (by omega) (by omega) (by show (c37 + 1) + 1 * (a3.toInt - z29226.toInt + 1).toNat ≤ 100; omega) (by show (d37 + 7) + 7 * (a3.toInt - z29226.toInt + 1).toNat ≤ 700; omega)
      refine g_iload C dX11_scatter_37 4 rfl ?_
      refine g_iload_n C dX11_scatter_39 rfl 2 rfl ?_
      refine b_icmp_gt C 73 dX11_scatter_40 (by decide) (fun h29228 => ?_) (fun h29228 => ?_)
      · have h29228 : a3.toInt < v37_5.toInt := h29228
        refine g_iload C dX11_scatter_73 3 rfl ?_
        exact ret _ _ _ _ _ _ dX11_scatter_75 rfl (by omega) (by omega) ⟨I37, X37, trivial⟩
      · have h29228 : v37_5.toInt ≤ a3.toInt := h29228
        refine g_aload_n C dX11_scatter_43 rfl 0 rfl ?_
        refine g_callVI (rest := []) C mv_X11_319 [] (s_X11_isRoomAnywhere I37 h29224) (h29224).1 (h29224).2 rfl rfl (by decide) (Nat.le_of_ble_eq_true rfl) (by show _ + _ ≤ 100 ∧ _ + _ ≤ 700; omega) dX11_scatter_44 (fun r29229 Y29230 h29231 => ?_)
        obtain ⟨rfl, h29231⟩ := h29231
        have h29231 : 0 ≤ r29229.toInt ∧ r29229.toInt ≤ 1 := h29231
        refine b_if_eq C 67 dX11_scatter_47 (by decide) (fun h29232 => ?_) (fun h29232 => ?_)
        · have h29232 : r29229.toInt = 0 := congrArg Int32.toInt h29232
          refine g_widen (cs2 := (c37 + 1)) (sl2 := (d37 + 7)) (by omega) (by omega) ?_
          exact J67 P37 v37_4 I37 X37 (by omega) (by omega) (by omega) (by show v37_5.toInt ≤ a3.toInt; omega)
        · have h29232 : r29229.toInt ≠ 0 := ti_ne h29232
          refine g_iload C dX11_scatter_50 3 rfl ?_
          refine g_aload_n C dX11_scatter_52 rfl 0 rfl ?_
          refine g_aload_n C dX11_scatter_53 rfl 0 rfl ?_
          obtain ⟨b29233, e29234, h29235⟩ := I37.fld (h29224) 0 17 2 rfl
          refine g_getR C fi_X11_11 rfl e29234 (h29224).1 (h29224).2 dX11_scatter_54 ?_
          refine g_iload_n C dX11_scatter_57 rfl 1 rfl ?_
          obtain ⟨b29236, e29237, h29238⟩ := I37.elm h29235 (by decide) (a1.toInt.toNat) (by omega)
          refine g_aldR C h29235.1 h29235.2.1 (by decide) (ix_in h29235.2.2 (by omega)) e29237 dX11_scatter_58 ?_
          refine g_iload C dX11_scatter_59 4 rfl ?_
          refine g_callVI (rest := [.int v37_4]) C mv_X11_323 [.ref b29236, .int v37_5] (s_X11_throwOne I37 h29224 h29238) (h29224).1 (h29224).2 rfl rfl (by decide) (Nat.le_of_ble_eq_true rfl) (by show _ + _ ≤ 100 ∧ _ + _ ≤ 700; omega) dX11_scatter_61 (fun r29239 Y29240 h29241 => ?_)
          obtain ⟨Iy29242, Xy29243, h29241⟩ := h29241
          have Xz29244 : EK [1, 6, 7, 13] P Y29240 := X37.tr (Xy29243.mono (by decide))
          have h29245 := Xy29243.at h29224
          have h29241 : True := h29241
          refine a_iadd C dX11_scatter_64 (fun z29246 => ?_)
          refine g_istore (lv' := [(4, .int z29246), (0, .ref a0), (1, .int a1), (3, .int a3), (5, .int v37_5)]) C dX11_scatter_65 (by decide) rfl ?_
          refine g_lv (lv' := [(0, .ref a0), (1, .int a1), (3, .int a3), (4, .int z29246), (5, .int v37_5)]) [1, 2, 3, 0, 4] rfl ?_
          exact J67 Y29240 z29246 Iy29242 Xz29244 (by omega) (by omega) (by omega) (by show v37_5.toInt ≤ a3.toInt; omega)
  have J29 : G E ({ frames := 7, cells := 100, slots := 700, locals := 448 } : Room) D cy 6 P 0 0 29 [] [] := by
    refine g_iconst (v := (-1)) C dX11_scatter_29 (by decide) ?_
    exact ret _ _ _ _ _ _ dX11_scatter_30 rfl (by decide) (by decide) ⟨I, EK.rf, trivial⟩
  refine g_aload_n C dX11_scatter_0 rfl 0 rfl ?_
  refine g_iload_n C dX11_scatter_1 rfl 1 rfl ?_
  refine g_iload_n C dX11_scatter_2 rfl 2 rfl ?_
  refine g_callVI (rest := []) C mv_X11_136 [.int a1, .int a2] (s_X11_isLeaflet I ha0) (ha0).1 (ha0).2 rfl rfl (by decide) (Nat.le_of_ble_eq_true rfl) (by decide) dX11_scatter_3 (fun r29248 Y29249 h29250 => ?_)
  obtain ⟨rfl, h29250⟩ := h29250
  obtain ⟨h29250, hi29251⟩ := h29250
  have hi29251 : r29248.toInt = 0 ∨ (((0 : Int) ≤ a1.toInt ∧ a1.toInt ≤ (1 : Int)) ∧ ((0 : Int) ≤ a2.toInt ∧ a2.toInt ≤ (9999 : Int))) := hi29251
  have h29250 : 0 ≤ r29248.toInt ∧ r29248.toInt ≤ 1 := h29250
  refine b_if_eq C 29 dX11_scatter_6 (by decide) (fun h29252 => ?_) (fun h29252 => ?_)
  · have h29252 : r29248.toInt = 0 := congrArg Int32.toInt h29252
    clear hi29251
    refine g_lv (lv' := []) [] rfl ?_
    exact J29 
  · have h29252 : r29248.toInt ≠ 0 := ti_ne h29252
    replace hi29251 := hi29251.resolve_left (by omega)
    refine g_iload_n C dX11_scatter_9 rfl 3 rfl ?_
    refine g_callSI (b := 0) (ci := 0) (rest := []) C ms_X11_173 [.int a3] (s_X11_isNumber I) rfl rfl (by decide) (Nat.le_of_ble_eq_true rfl) (by decide) dX11_scatter_10 (fun r29253 Y29254 h29255 => ?_)
    obtain ⟨rfl, h29255⟩ := h29255
    obtain ⟨h29255, hi29256⟩ := h29255
    have hi29256 : r29253.toInt = 0 ∨ (((0 : Int) ≤ a3.toInt ∧ a3.toInt ≤ (9999 : Int))) := hi29256
    have h29255 : 0 ≤ r29253.toInt ∧ r29253.toInt ≤ 1 := h29255
    refine b_if_eq C 29 dX11_scatter_13 (by decide) (fun h29257 => ?_) (fun h29257 => ?_)
    · have h29257 : r29253.toInt = 0 := congrArg Int32.toInt h29257
      clear hi29256
      refine g_lv (lv' := []) [] rfl ?_
      exact J29 
    · have h29257 : r29253.toInt ≠ 0 := ti_ne h29257
      replace hi29256 := hi29256.resolve_left (by omega)
      refine g_iload_n C dX11_scatter_16 rfl 3 rfl ?_
      refine g_iload_n C dX11_scatter_17 rfl 2 rfl ?_
      refine b_icmp_lt C 29 dX11_scatter_18 (by decide) (fun h29258 => ?_) (fun h29258 => ?_)
      · have h29258 : a3.toInt < a2.toInt := h29258
        refine g_lv (lv' := []) [] rfl ?_
        exact J29 
      · have h29258 : a2.toInt ≤ a3.toInt := h29258
        refine g_iload_n C dX11_scatter_21 rfl 3 rfl ?_
        refine g_iload_n C dX11_scatter_22 rfl 2 rfl ?_
        refine s_isub C dX11_scatter_23 (by show -2147483648 ≤ a3.toInt - a2.toInt ∧ a3.toInt - a2.toInt ≤ 2147483647; omega) (fun z29259 h29260 => ?_)
        have h29260 : z29259.toInt = a3.toInt - a2.toInt := h29260
        refine g_bipush (v := 100) C dX11_scatter_24 (by decide) ?_
        refine b_icmp_lt C 31 dX11_scatter_26 (by decide) (fun h29261 => ?_) (fun h29261 => ?_)
        · have h29261 : z29259.toInt < 100 := h29261
          refine g_iconst (v := 0) C dX11_scatter_31 (by decide) ?_
          refine g_istore (lv' := [(4, .int 0), (0, .ref a0), (1, .int a1), (2, .int a2), (3, .int a3)]) C dX11_scatter_32 (by decide) rfl ?_
          refine g_iload_n C dX11_scatter_34 rfl 3 rfl ?_
          refine g_istore (lv' := [(5, .int a2), (4, .int 0), (0, .ref a0), (1, .int a1), (2, .int a2), (3, .int a3)]) C dX11_scatter_35 (by decide) rfl ?_
          refine g_lv (lv' := [(0, .ref a0), (1, .int a1), (3, .int a3), (4, .int 0), (5, .int a2)]) [2, 3, 5, 1, 0] rfl ?_
          exact J37 _ P 0 a2 0 0 (Nat.lt_succ_self _) I EK.rf (by omega) (by omega) (by omega) (by show 0 + 1 * (a3.toInt - a2.toInt + 1).toNat ≤ 100; omega) (by show 0 + 7 * (a3.toInt - a2.toInt + 1).toNat ≤ 700; omega)
        · have h29261 : 100 ≤ z29259.toInt := h29261
          refine g_lv (lv' := []) [] rfl ?_
          exact J29 
theorem dX11_slip_0 : decode cX11_slip 0 = .ok (.iload_n 1, 1) := by decide +kernel
theorem dX11_slip_1 : decode cX11_slip 1 = .ok (.invokestatic 158, 3) := by decide +kernel
theorem dX11_slip_4 : decode cX11_slip 4 = .ok (.ifCond .eq 25, 3) := by decide +kernel
theorem dX11_slip_7 : decode cX11_slip 7 = .ok (.aload_n 0, 1) := by decide +kernel
theorem dX11_slip_8 : decode cX11_slip 8 = .ok (.iload_n 2, 1) := by decide +kernel
theorem dX11_slip_9 : decode cX11_slip 9 = .ok (.iload_n 3, 1) := by decide +kernel
theorem dX11_slip_10 : decode cX11_slip 10 = .ok (.invokevirtual 136, 3) := by decide +kernel
theorem dX11_slip_13 : decode cX11_slip 13 = .ok (.ifCond .eq 16, 3) := by decide +kernel
theorem dX11_slip_16 : decode cX11_slip 16 = .ok (.iload 4, 2) := by decide +kernel
theorem dX11_slip_18 : decode cX11_slip 18 = .ok (.iconst 1, 1) := by decide +kernel
theorem dX11_slip_19 : decode cX11_slip 19 = .ok (.if_icmp .lt 10, 3) := by decide +kernel
theorem dX11_slip_22 : decode cX11_slip 22 = .ok (.iload 4, 2) := by decide +kernel
theorem dX11_slip_24 : decode cX11_slip 24 = .ok (.ldc 104, 2) := by decide +kernel
theorem dX11_slip_26 : decode cX11_slip 26 = .ok (.if_icmp .le 5, 3) := by decide +kernel
theorem dX11_slip_29 : decode cX11_slip 29 = .ok (.iconst (-1), 1) := by decide +kernel
theorem dX11_slip_30 : decode cX11_slip 30 = .ok (.ireturn, 1) := by decide +kernel
theorem dX11_slip_31 : decode cX11_slip 31 = .ok (.aload_n 0, 1) := by decide +kernel
theorem dX11_slip_32 : decode cX11_slip 32 = .ok (.getfield 11, 3) := by decide +kernel
theorem dX11_slip_35 : decode cX11_slip 35 = .ok (.iload_n 2, 1) := by decide +kernel
theorem dX11_slip_36 : decode cX11_slip 36 = .ok (.aaload, 1) := by decide +kernel
theorem dX11_slip_37 : decode cX11_slip 37 = .ok (.astore 5, 2) := by decide +kernel
theorem dX11_slip_39 : decode cX11_slip 39 = .ok (.aload 5, 2) := by decide +kernel
theorem dX11_slip_41 : decode cX11_slip 41 = .ok (.aload 5, 2) := by decide +kernel
theorem dX11_slip_43 : decode cX11_slip 43 = .ok (.iload_n 3, 1) := by decide +kernel
theorem dX11_slip_44 : decode cX11_slip 44 = .ok (.invokevirtual 140, 3) := by decide +kernel
theorem dX11_slip_47 : decode cX11_slip 47 = .ok (.invokevirtual 143, 3) := by decide +kernel
theorem dX11_slip_50 : decode cX11_slip 50 = .ok (.istore 6, 2) := by decide +kernel
theorem dX11_slip_52 : decode cX11_slip 52 = .ok (.aload_n 0, 1) := by decide +kernel
theorem dX11_slip_53 : decode cX11_slip 53 = .ok (.iload_n 1, 1) := by decide +kernel
theorem dX11_slip_54 : decode cX11_slip 54 = .ok (.aload 5, 2) := by decide +kernel
theorem dX11_slip_56 : decode cX11_slip 56 = .ok (.iload_n 3, 1) := by decide +kernel
theorem dX11_slip_57 : decode cX11_slip 57 = .ok (.iload 6, 2) := by decide +kernel
theorem dX11_slip_59 : decode cX11_slip 59 = .ok (.iload 4, 2) := by decide +kernel
theorem dX11_slip_61 : decode cX11_slip 61 = .ok (.ixor, 1) := by decide +kernel
theorem dX11_slip_62 : decode cX11_slip 62 = .ok (.aload 5, 2) := by decide +kernel
theorem dX11_slip_64 : decode cX11_slip 64 = .ok (.iload_n 3, 1) := by decide +kernel
theorem dX11_slip_65 : decode cX11_slip 65 = .ok (.iload 6, 2) := by decide +kernel
theorem dX11_slip_67 : decode cX11_slip 67 = .ok (.invokevirtual 146, 3) := by decide +kernel
theorem dX11_slip_70 : decode cX11_slip 70 = .ok (.invokevirtual 169, 3) := by decide +kernel
theorem dX11_slip_73 : decode cX11_slip 73 = .ok (.ireturn, 1) := by decide +kernel
set_option maxHeartbeats 4000000 in
set_option maxRecDepth 100000 in
theorem s_X11_slip {P : PP} {a0 : Nat} {a1 : Int32} {a2 : Int32} {a3 : Int32} {a4 : Int32} (I : IV P) (ha0 : At P a0 11) : CtrI yX11_slip cX11_slip 7 (some Jvm.ClassFile.FieldType.int) ({ frames := 6, cells := 1, slots := 7, locals := 384 } : Room) 1 7 P [.ref a0, .int a1, .int a2, .int a3, .int a4] (fun r P2 => IV P2 ∧ EK [1, 6, 7, 11, 13] P P2 ∧ (-1 ≤ r.toInt ∧ r.toInt ≤ 39)) := by
  refine enI (lv := [(0, .ref a0), (1, .int a1), (2, .int a2), (3, .int a3), (4, .int a4)]) (by decide) (Nat.le_of_ble_eq_true rfl) rfl (fun E D cy C Ci0 ret => ?_)
  have J29 : G E ({ frames := 6, cells := 1, slots := 7, locals := 384 } : Room) D cy 7 P 0 0 29 [] [] := by
    refine g_iconst (v := (-1)) C dX11_slip_29 (by decide) ?_
    exact ret _ _ _ _ _ _ dX11_slip_30 rfl (by decide) (by decide) ⟨I, EK.rf, (by decide)⟩
  refine g_iload_n C dX11_slip_0 rfl 1 rfl ?_
  refine g_callSI (b := 0) (ci := 0) (rest := []) C ms_X11_158 [.int a1] (s_X11_isQuarter I) rfl rfl (by decide) (Nat.le_of_ble_eq_true rfl) (by decide) dX11_slip_1 (fun r29306 Y29307 h29308 => ?_)
  obtain ⟨rfl, h29308⟩ := h29308
  obtain ⟨h29308, hi29309⟩ := h29308
  have hi29309 : r29306.toInt = 0 ∨ (((0 : Int) ≤ a1.toInt ∧ a1.toInt ≤ (3 : Int))) := hi29309
  have h29308 : 0 ≤ r29306.toInt ∧ r29306.toInt ≤ 1 := h29308
  refine b_if_eq C 29 dX11_slip_4 (by decide) (fun h29310 => ?_) (fun h29310 => ?_)
  · have h29310 : r29306.toInt = 0 := congrArg Int32.toInt h29310
    clear hi29309
    refine g_lv (lv' := []) [] rfl ?_
    exact J29 
  · have h29310 : r29306.toInt ≠ 0 := ti_ne h29310
    replace hi29309 := hi29309.resolve_left (by omega)
    refine g_aload_n C dX11_slip_7 rfl 0 rfl ?_
    refine g_iload_n C dX11_slip_8 rfl 2 rfl ?_
    refine g_iload_n C dX11_slip_9 rfl 3 rfl ?_
    refine g_callVI (rest := []) C mv_X11_136 [.int a2, .int a3] (s_X11_isLeaflet I ha0) (ha0).1 (ha0).2 rfl rfl (by decide) (Nat.le_of_ble_eq_true rfl) (by decide) dX11_slip_10 (fun r29311 Y29312 h29313 => ?_)
    obtain ⟨rfl, h29313⟩ := h29313
    obtain ⟨h29313, hi29314⟩ := h29313
    have hi29314 : r29311.toInt = 0 ∨ (((0 : Int) ≤ a2.toInt ∧ a2.toInt ≤ (1 : Int)) ∧ ((0 : Int) ≤ a3.toInt ∧ a3.toInt ≤ (9999 : Int))) := hi29314
    have h29313 : 0 ≤ r29311.toInt ∧ r29311.toInt ≤ 1 := h29313
    refine b_if_eq C 29 dX11_slip_13 (by decide) (fun h29315 => ?_) (fun h29315 => ?_)
    · have h29315 : r29311.toInt = 0 := congrArg Int32.toInt h29315
      clear hi29314
      refine g_lv (lv' := []) [] rfl ?_
      exact J29 
    · have h29315 : r29311.toInt ≠ 0 := ti_ne h29315
      replace hi29314 := hi29314.resolve_left (by omega)
      refine g_iload C dX11_slip_16 4 rfl ?_
      refine g_iconst (v := 1) C dX11_slip_18 (by decide) ?_
      have u29317 := ti_rng a4
      refine b_icmp_lt C 29 dX11_slip_19 (by decide) (fun h29316 => ?_) (fun h29316 => ?_)
      · have h29316 : a4.toInt < 1 := h29316
        refine g_lv (lv' := []) [] rfl ?_
        exact J29 
      · have h29316 : 1 ≤ a4.toInt := h29316
        refine g_iload C dX11_slip_22 4 rfl ?_
        refine g_ldc (v := 65535) C kc_X11_104 dX11_slip_24 ?_
        have u29319 := ti_rng a4
        refine b_icmp_le C 31 dX11_slip_26 (by decide) (fun h29318 => ?_) (fun h29318 => ?_)
        · have h29318 : a4.toInt ≤ 65535 := h29318
          refine g_aload_n C dX11_slip_31 rfl 0 rfl ?_
          obtain ⟨b29320, e29321, h29322⟩ := I.fld (ha0) 0 17 2 rfl
          refine g_getR C fi_X11_11 rfl e29321 (ha0).1 (ha0).2 dX11_slip_32 ?_
          refine g_iload_n C dX11_slip_35 rfl 2 rfl ?_
          obtain ⟨b29323, e29324, h29325⟩ := I.elm h29322 (by decide) (a2.toInt.toNat) (by omega)
          refine g_aldR C h29322.1 h29322.2.1 (by decide) (ix_in h29322.2.2 (by omega)) e29324 dX11_slip_36 ?_
          refine g_astore (lv' := [(5, .ref b29323), (0, .ref a0), (1, .int a1), (2, .int a2), (3, .int a3), (4, .int a4)]) C dX11_slip_37 (by decide) rfl ?_
          refine g_aload C dX11_slip_39 0 rfl ?_
          refine g_aload C dX11_slip_41 0 rfl ?_
          refine g_iload_n C dX11_slip_43 rfl 4 rfl ?_
          refine g_callVI (rest := [.ref b29323]) C mv_X11_140 [.int a3] (s_X1_pagesOf I h29325) (h29325).1 (h29325).2 rfl rfl (by decide) (Nat.le_of_ble_eq_true rfl) (by decide) dX11_slip_44 (fun r29326 Y29327 h29328 => ?_)
          obtain ⟨Iy29329, Xy29330, h29328⟩ := h29328
          have Xz29331 : EK [1, 6, 7, 11, 13] P Y29327 := Xy29330.mono (by decide)
          have h29332 := Xy29330.at ha0
          have h29333 := Xy29330.at h29325
          have h29328 : True := h29328
          refine g_callVI (rest := []) C mv_X11_143 [.int r29326] (s_X1_sumOf Iy29329 h29333) (h29333).1 (h29333).2 rfl rfl (by decide) (Nat.le_of_ble_eq_true rfl) (by decide) dX11_slip_47 (fun r29334 Y29335 h29336 => ?_)
          obtain ⟨rfl, h29336⟩ := h29336
          have h29336 : True := h29336
          refine g_istore (lv' := [(6, .int r29334), (5, .ref b29323), (0, .ref a0), (1, .int a1), (2, .int a2), (3, .int a3), (4, .int a4)]) C dX11_slip_50 (by decide) rfl ?_
          refine g_aload_n C dX11_slip_52 rfl 2 rfl ?_
          refine g_iload_n C dX11_slip_53 rfl 3 rfl ?_
          refine g_aload C dX11_slip_54 1 rfl ?_
          refine g_iload_n C dX11_slip_56 rfl 5 rfl ?_
          refine g_iload C dX11_slip_57 0 rfl ?_
          refine g_iload C dX11_slip_59 6 rfl ?_
          refine a_ixor C dX11_slip_61 (fun z29337 => ?_)
          refine g_aload C dX11_slip_62 1 rfl ?_
          refine g_iload_n C dX11_slip_64 rfl 5 rfl ?_
          refine g_iload C dX11_slip_65 0 rfl ?_
          refine g_callVI (rest := [.int z29337, .int a3, .ref b29323, .int a1, .ref a0]) C mv_X11_146 [.int a3, .int r29334] (s_X1_sealOf Iy29329 h29333) (h29333).1 (h29333).2 rfl rfl (by decide) (Nat.le_of_ble_eq_true rfl) (by decide) dX11_slip_67 (fun r29339 Y29340 h29341 => ?_)
          obtain ⟨rfl, h29341⟩ := h29341
          have h29341 : True := h29341
          refine g_callVI (rest := []) C mv_X11_169 [.int a1, .ref b29323, .int a3, .int z29337, .int r29339] (s_X11_send Iy29329 h29332 (by omega) h29333) (h29332).1 (h29332).2 rfl rfl (by decide) (Nat.le_of_ble_eq_true rfl) (by decide) dX11_slip_70 (fun r29342 Y29343 h29344 => ?_)
          obtain ⟨Iy29345, Xy29346, h29344⟩ := h29344
          have Xz29347 : EK [1, 6, 7, 11, 13] P Y29343 := Xz29331.tr (Xy29346.mono (by decide))
          have h29348 := Xy29346.at h29332
          have h29349 := Xy29346.at h29333
          have h29344 : -1 ≤ r29342.toInt ∧ r29342.toInt ≤ 39 := h29344
          exact ret _ _ _ _ _ _ dX11_slip_73 rfl (by decide) (by decide) ⟨Iy29345, Xz29347, (by omega)⟩
        · have h29318 : 65535 < a4.toInt := h29318
          refine g_lv (lv' := []) [] rfl ?_
          exact J29 
theorem dX11_slipped_0 : decode cX11_slipped 0 = .ok (.iload_n 1, 1) := by decide +kernel
theorem dX11_slipped_1 : decode cX11_slipped 1 = .ok (.invokestatic 158, 3) := by decide +kernel
theorem dX11_slipped_4 : decode cX11_slipped 4 = .ok (.ifCond .eq 29, 3) := by decide +kernel
theorem dX11_slipped_7 : decode cX11_slipped 7 = .ok (.aload_n 0, 1) := by decide +kernel
theorem dX11_slipped_8 : decode cX11_slipped 8 = .ok (.iload_n 2, 1) := by decide +kernel
theorem dX11_slipped_9 : decode cX11_slipped 9 = .ok (.invokevirtual 97, 3) := by decide +kernel
theorem dX11_slipped_12 : decode cX11_slipped 12 = .ok (.ifCond .eq 21, 3) := by decide +kernel
theorem dX11_slipped_15 : decode cX11_slipped 15 = .ok (.iload_n 3, 1) := by decide +kernel
theorem dX11_slipped_16 : decode cX11_slipped 16 = .ok (.invokestatic 213, 3) := by decide +kernel
theorem dX11_slipped_19 : decode cX11_slipped 19 = .ok (.ifCond .eq 14, 3) := by decide +kernel
theorem dX11_slipped_22 : decode cX11_slipped 22 = .ok (.iload 4, 2) := by decide +kernel
theorem dX11_slipped_24 : decode cX11_slipped 24 = .ok (.ifCond .lt 9, 3) := by decide +kernel
theorem dX11_slipped_27 : decode cX11_slipped 27 = .ok (.iload 4, 2) := by decide +kernel
theorem dX11_slipped_29 : decode cX11_slipped 29 = .ok (.iconst 2, 1) := by decide +kernel
theorem dX11_slipped_30 : decode cX11_slipped 30 = .ok (.if_icmp .le 5, 3) := by decide +kernel
theorem dX11_slipped_33 : decode cX11_slipped 33 = .ok (.iconst (-1), 1) := by decide +kernel
theorem dX11_slipped_34 : decode cX11_slipped 34 = .ok (.ireturn, 1) := by decide +kernel
theorem dX11_slipped_35 : decode cX11_slipped 35 = .ok (.aload_n 0, 1) := by decide +kernel
theorem dX11_slipped_36 : decode cX11_slipped 36 = .ok (.iload_n 1, 1) := by decide +kernel
theorem dX11_slipped_37 : decode cX11_slipped 37 = .ok (.iload_n 2, 1) := by decide +kernel
theorem dX11_slipped_38 : decode cX11_slipped 38 = .ok (.iload_n 3, 1) := by decide +kernel
theorem dX11_slipped_39 : decode cX11_slipped 39 = .ok (.invokevirtual 216, 3) := by decide +kernel
theorem dX11_slipped_42 : decode cX11_slipped 42 = .ok (.astore 5, 2) := by decide +kernel
theorem dX11_slipped_44 : decode cX11_slipped 44 = .ok (.aload_n 0, 1) := by decide +kernel
theorem dX11_slipped_45 : decode cX11_slipped 45 = .ok (.getfield 53, 3) := by decide +kernel
theorem dX11_slipped_48 : decode cX11_slipped 48 = .ok (.iconst 0, 1) := by decide +kernel
theorem dX11_slipped_49 : decode cX11_slipped 49 = .ok (.aaload, 1) := by decide +kernel
theorem dX11_slipped_50 : decode cX11_slipped 50 = .ok (.astore 6, 2) := by decide +kernel
theorem dX11_slipped_52 : decode cX11_slipped 52 = .ok (.aload 6, 2) := by decide +kernel
theorem dX11_slipped_54 : decode cX11_slipped 54 = .ok (.aload 5, 2) := by decide +kernel
theorem dX11_slipped_56 : decode cX11_slipped 56 = .ok (.iconst (-1), 1) := by decide +kernel
theorem dX11_slipped_57 : decode cX11_slipped 57 = .ok (.invokevirtual 236, 3) := by decide +kernel
theorem dX11_slipped_60 : decode cX11_slipped 60 = .ok (.aload 6, 2) := by decide +kernel
theorem dX11_slipped_62 : decode cX11_slipped 62 = .ok (.getfield 243, 3) := by decide +kernel
theorem dX11_slipped_65 : decode cX11_slipped 65 = .ok (.ifCond .eq 5, 3) := by decide +kernel
theorem dX11_slipped_68 : decode cX11_slipped 68 = .ok (.iconst (-1), 1) := by decide +kernel
theorem dX11_slipped_69 : decode cX11_slipped 69 = .ok (.ireturn, 1) := by decide +kernel
theorem dX11_slipped_70 : decode cX11_slipped 70 = .ok (.iconst 0, 1) := by decide +kernel
theorem dX11_slipped_71 : decode cX11_slipped 71 = .ok (.istore 7, 2) := by decide +kernel
theorem dX11_slipped_73 : decode cX11_slipped 73 = .ok (.iconst (-1), 1) := by decide +kernel
theorem dX11_slipped_74 : decode cX11_slipped 74 = .ok (.istore 8, 2) := by decide +kernel
theorem dX11_slipped_76 : decode cX11_slipped 76 = .ok (.aload 5, 2) := by decide +kernel
theorem dX11_slipped_78 : decode cX11_slipped 78 = .ok (.getfield 263, 3) := by decide +kernel
theorem dX11_slipped_81 : decode cX11_slipped 81 = .ok (.istore 9, 2) := by decide +kernel
theorem dX11_slipped_83 : decode cX11_slipped 83 = .ok (.iload 9, 2) := by decide +kernel
theorem dX11_slipped_85 : decode cX11_slipped 85 = .ok (.aload 5, 2) := by decide +kernel
theorem dX11_slipped_87 : decode cX11_slipped 87 = .ok (.getfield 266, 3) := by decide +kernel
theorem dX11_slipped_90 : decode cX11_slipped 90 = .ok (.if_icmp .ge 49, 3) := by decide +kernel
theorem dX11_slipped_93 : decode cX11_slipped 93 = .ok (.aload 6, 2) := by decide +kernel
theorem dX11_slipped_95 : decode cX11_slipped 95 = .ok (.aload 5, 2) := by decide +kernel
theorem dX11_slipped_97 : decode cX11_slipped 97 = .ok (.iload 9, 2) := by decide +kernel
theorem dX11_slipped_99 : decode cX11_slipped 99 = .ok (.invokevirtual 236, 3) := by decide +kernel
theorem dX11_slipped_102 : decode cX11_slipped 102 = .ok (.aload 6, 2) := by decide +kernel
theorem dX11_slipped_104 : decode cX11_slipped 104 = .ok (.getfield 243, 3) := by decide +kernel
theorem dX11_slipped_107 : decode cX11_slipped 107 = .ok (.ifCond .eq 26, 3) := by decide +kernel
theorem dX11_slipped_110 : decode cX11_slipped 110 = .ok (.iload 7, 2) := by decide +kernel
theorem dX11_slipped_112 : decode cX11_slipped 112 = .ok (.ifCond .ne 14, 3) := by decide +kernel
theorem dX11_slipped_115 : decode cX11_slipped 115 = .ok (.aload 5, 2) := by decide +kernel
theorem dX11_slipped_117 : decode cX11_slipped 117 = .ok (.getfield 269, 3) := by decide +kernel
theorem dX11_slipped_120 : decode cX11_slipped 120 = .ok (.iload 9, 2) := by decide +kernel
theorem dX11_slipped_122 : decode cX11_slipped 122 = .ok (.iaload, 1) := by decide +kernel
theorem dX11_slipped_123 : decode cX11_slipped 123 = .ok (.goto 5, 3) := by decide +kernel
theorem dX11_slipped_126 : decode cX11_slipped 126 = .ok (.iload 8, 2) := by decide +kernel
theorem dX11_slipped_128 : decode cX11_slipped 128 = .ok (.istore 8, 2) := by decide +kernel
theorem dX11_slipped_130 : decode cX11_slipped 130 = .ok (.iinc 7 1, 3) := by decide +kernel
theorem dX11_slipped_133 : decode cX11_slipped 133 = .ok (.iinc 9 1, 3) := by decide +kernel
theorem dX11_slipped_136 : decode cX11_slipped 136 = .ok (.goto (-53), 3) := by decide +kernel
theorem dX11_slipped_139 : decode cX11_slipped 139 = .ok (.iload 4, 2) := by decide +kernel
theorem dX11_slipped_141 : decode cX11_slipped 141 = .ok (.iconst 1, 1) := by decide +kernel
theorem dX11_slipped_142 : decode cX11_slipped 142 = .ok (.if_icmp .ne 6, 3) := by decide +kernel
theorem dX11_slipped_145 : decode cX11_slipped 145 = .ok (.iload 8, 2) := by decide +kernel
theorem dX11_slipped_147 : decode cX11_slipped 147 = .ok (.ireturn, 1) := by decide +kernel
theorem dX11_slipped_148 : decode cX11_slipped 148 = .ok (.iload 4, 2) := by decide +kernel
theorem dX11_slipped_150 : decode cX11_slipped 150 = .ok (.ifCond .ne 8, 3) := by decide +kernel
theorem dX11_slipped_153 : decode cX11_slipped 153 = .ok (.iload 7, 2) := by decide +kernel
theorem dX11_slipped_155 : decode cX11_slipped 155 = .ok (.goto 14, 3) := by decide +kernel
theorem dX11_slipped_158 : decode cX11_slipped 158 = .ok (.iload 7, 2) := by decide +kernel
theorem dX11_slipped_160 : decode cX11_slipped 160 = .ok (.iconst 1, 1) := by decide +kernel
theorem dX11_slipped_161 : decode cX11_slipped 161 = .ok (.if_icmp .ne 7, 3) := by decide +kernel
theorem dX11_slipped_164 : decode cX11_slipped 164 = .ok (.iconst 1, 1) := by decide +kernel
theorem dX11_slipped_165 : decode cX11_slipped 165 = .ok (.goto 4, 3) := by decide +kernel
theorem dX11_slipped_168 : decode cX11_slipped 168 = .ok (.iconst 0, 1) := by decide +kernel
theorem dX11_slipped_169 : decode cX11_slipped 169 = .ok (.ireturn, 1) := by decide +kernel
set_option maxHeartbeats 4000000 in
set_option maxRecDepth 100000 in
theorem s_X11_slipped {P : PP} {a0 : Nat} {a1 : Int32} {a2 : Int32} {a3 : Int32} {a4 : Int32} (I : IV P) (ha0 : At P a0 11) : CtrI yX11_slipped cX11_slipped 10 (some Jvm.ClassFile.FieldType.int) ({ frames := 4, cells := 0, slots := 0, locals := 256 } : Room) 0 0 P [.ref a0, .int a1, .int a2, .int a3, .int a4] (fun r P2 => IV P2 ∧ EK [0, 5, 13] P P2 ∧ (True)) := by
  refine enI (lv := [(0, .ref a0), (1, .int a1), (2, .int a2), (3, .int a3), (4, .int a4)]) (by decide) (Nat.le_of_ble_eq_true rfl) rfl (fun E D cy C Ci0 ret => ?_)
  have J83 : ∀ (n83 : Nat) (P83 : PP) (b83_5 : Nat) (b83_6 : Nat) (v83_7 : Int32) (v83_8 : Int32) (v83_9 : Int32), (44 - v83_9.toInt).toNat < n83 → (IV P83) → (EK [0, 5, 13] P P83) → (0 ≤ a4.toInt ∧ a4.toInt ≤ 2) → (At P83 b83_5 5) → (At P83 b83_6 0) → (0 ≤ v83_9.toInt ∧ v83_9.toInt ≤ 44) → G E ({ frames := 4, cells := 0, slots := 0, locals := 256 } : Room) D cy 10 P83 0 0 83 [(4, .int a4), (5, .ref b83_5), (6, .ref b83_6), (7, .int v83_7), (8, .int v83_8), (9, .int v83_9)] [] := by
    intro n83
    induction n83 with
    | zero => intro P83 b83_5 b83_6 v83_7 v83_8 v83_9 hm83 I83 X83 hv83_4 hb83_5 hb83_6 hv83_9; omega
    | succ n83 ih83 =>
      intro P83 b83_5 b83_6 v83_7 v83_8 v83_9 hm83 I83 X83 hv83_4 hb83_5 hb83_6 hv83_9
      have h30433 := X83.at ha0
      have J133 : ∀ (P133 : PP) (b133_5 : Nat) (b133_6 : Nat) (v133_7 : Int32) (v133_8 : Int32), (IV P133) → (EK [0, 5, 13] P P133) → (0 ≤ a4.toInt ∧ a4.toInt ≤ 2) → (At P133 b133_5 5) → (At P133 b133_6 0) → (0 ≤ v83_9.toInt ∧ v83_9.toInt ≤ 43) → (1 ≤ (pI P133 b133_5 4).toInt ∧ (pI P133 b133_5 4).toInt ≤ 44) → (0 ≤ (pI P133 b133_6 3).toInt ∧ (pI P133 b133_6 3).toInt ≤ 1) → G E ({ frames := 4, cells := 0, slots := 0, locals := 256 } : Room) D cy 10 P133 0 0 133 [(4, .int a4), (5, .ref b133_5), (6, .ref b133_6), (7, .int v133_7), (8, .int v133_8), (9, .int v83_9)] [] := by
        intro P133 b133_5 b133_6 v133_7 v133_8 I133 X133 hv133_4 hb133_5 hb133_6 hv133_9 hq133_0 hq133_1
        have h30434 := X133.at ha0
        refine s_iinc (lv0 := [(4, .int a4), (5, .ref b133_5), (6, .ref b133_6), (7, .int v133_7), (8, .int v133_8)]) (m := 1) C dX11_slipped_133 5 rfl (by decide) rfl (by decide) (by omega) (fun z30435 h30436 => ?_)
        have h30436 : z30435.toInt = v83_9.toInt + 1 := h30436
        refine g_goto C 83 dX11_slipped_136 (by decide) ?_
        refine g_lv (lv' := [(4, .int a4), (5, .ref b133_5), (6, .ref b133_6), (7, .int v133_7), (8, .int v133_8), (9, .int z30435)]) [1, 2, 3, 4, 5, 0] rfl ?_
        exact ih83 P133 b133_5 b133_6 v133_7 v133_8 z30435 (by omega) I133 X133 (by omega) hb133_5 hb133_6 (by omega)
      have J128 : ∀ (P128 : PP) (b128_5 : Nat) (b128_6 : Nat) (v128_s0 : Int32), (IV P128) → (EK [0, 5, 13] P P128) → (0 ≤ a4.toInt ∧ a4.toInt ≤ 2) → (At P128 b128_5 5) → (At P128 b128_6 0) → (0 ≤ v83_9.toInt ∧ v83_9.toInt ≤ 43) → (1 ≤ (pI P128 b128_5 4).toInt ∧ (pI P128 b128_5 4).toInt ≤ 44) → (1 ≤ (pI P128 b128_6 3).toInt ∧ (pI P128 b128_6 3).toInt ≤ 1) → G E ({ frames := 4, cells := 0, slots := 0, locals := 256 } : Room) D cy 10 P128 0 0 128 [(4, .int a4), (5, .ref b128_5), (6, .ref b128_6), (7, .int v83_7), (9, .int v83_9)] [.int v128_s0] := by
        intro P128 b128_5 b128_6 v128_s0 I128 X128 hv128_4 hb128_5 hb128_6 hv128_9 hq128_0 hq128_1
        have h30437 := X128.at ha0
        refine g_istore (lv' := [(8, .int v128_s0), (4, .int a4), (5, .ref b128_5), (6, .ref b128_6), (7, .int v83_7), (9, .int v83_9)]) C dX11_slipped_128 (by decide) rfl ?_
        refine a_iinc (lv0 := [(8, .int v128_s0), (4, .int a4), (5, .ref b128_5), (6, .ref b128_6), (9, .int v83_9)]) C dX11_slipped_130 4 rfl (by decide) rfl (fun z30438 => ?_)
        refine g_lv (lv' := [(4, .int a4), (5, .ref b128_5), (6, .ref b128_6), (7, .int z30438), (8, .int v128_s0), (9, .int v83_9)]) [2, 3, 4, 0, 1, 5] rfl ?_
        exact J133 P128 b128_5 b128_6 z30438 v128_s0 I128 X128 (by omega) hb128_5 hb128_6 (by omega) (by omega) (by omega)
      refine g_iload C dX11_slipped_83 5 rfl ?_
      refine g_aload C dX11_slipped_85 1 rfl ?_
      refine g_getI C fi_X11_266 (by decide) (hb83_5).1 (hb83_5).2 dX11_slipped_87 ?_
      have h30440 := I83.rg (hb83_5) 4 rfl
      refine b_icmp_ge C 139 dX11_slipped_90 (by decide) (fun h30441 => ?_) (fun h30441 => ?_)
      · have h30441 : (pI P83 b83_5 4).toInt ≤ v83_9.toInt := h30441
        refine g_iload C dX11_slipped_139 0 rfl ?_
        refine g_iconst (v := 1) C dX11_slipped_141 (by decide) ?_
        refine b_icmp_ne C 148 dX11_slipped_142 (by decide) (fun h30442 => ?_) (fun h30442 => ?_)
        · have h30442 : a4.toInt ≠ 1 := ti_ne h30442
          refine g_iload C dX11_slipped_148 0 rfl ?_
          refine b_if_ne C 158 dX11_slipped_150 (by decide) (fun h30443 => ?_) (fun h30443 => ?_)
          · have h30443 : a4.toInt ≠ 0 := ti_ne h30443
            refine g_iload C dX11_slipped_158 3 rfl ?_
            refine g_iconst (v := 1) C dX11_slipped_160 (by decide) ?_
            have u30445 := ti_rng v83_7
            refine b_icmp_ne C 168 dX11_slipped_161 (by decide) (fun h30444 => ?_) (fun h30444 => ?_)
            · have h30444 : v83_7.toInt ≠ 1 := ti_ne h30444
              refine g_iconst (v := 0) C dX11_slipped_168 (by decide) ?_
              exact ret _ _ _ _ _ _ dX11_slipped_169 rfl (by decide) (by decide) ⟨I83, X83, trivial⟩
            · have h30444 : v83_7.toInt = 1 := congrArg Int32.toInt h30444
              refine g_iconst (v := 1) C dX11_slipped_164 (by decide) ?_
              refine g_goto C 169 dX11_slipped_165 (by decide) ?_
              exact ret _ _ _ _ _ _ dX11_slipped_169 rfl (by decide) (by decide) ⟨I83, X83, trivial⟩
          · have h30443 : a4.toInt = 0 := congrArg Int32.toInt h30443
            refine g_iload C dX11_slipped_153 3 rfl ?_
            refine g_goto C 169 dX11_slipped_155 (by decide) ?_
            exact ret _ _ _ _ _ _ dX11_slipped_169 rfl (by decide) (by decide) ⟨I83, X83, trivial⟩
        · have h30442 : a4.toInt = 1 := congrArg Int32.toInt h30442
          refine g_iload C dX11_slipped_145 4 rfl ?_
          exact ret _ _ _ _ _ _ dX11_slipped_147 rfl (by decide) (by decide) ⟨I83, X83, trivial⟩
      · have h30441 : v83_9.toInt < (pI P83 b83_5 4).toInt := h30441
        refine g_aload C dX11_slipped_93 2 rfl ?_
        refine g_aload C dX11_slipped_95 1 rfl ?_
        refine g_iload C dX11_slipped_97 5 rfl ?_
        refine g_callVV (rest := []) C mv_X11_236 [.ref b83_5, .int v83_9] (s_X0_take I83 hb83_6 hb83_5) (hb83_6).1 (hb83_6).2 rfl rfl (by decide) (Nat.le_of_ble_eq_true rfl) (by decide) dX11_slipped_99 (fun Y30447 h30448 => ?_)
        obtain ⟨Iy30449, Xy30450⟩ := h30448
        have q30451 := Xy30450.keep hb83_5 (by decide) 4
        have Xz30452 : EK [0, 5, 13] P Y30447 := X83.tr (Xy30450.mono (by decide))
        have h30453 := Xy30450.at h30433
        have h30454 := Xy30450.at hb83_5
        have h30455 := Xy30450.at hb83_6
        refine g_aload C dX11_slipped_102 2 rfl ?_
        refine g_getI C fi_X11_243 (by decide) (h30455).1 (h30455).2 dX11_slipped_104 ?_
        have h30456 := Iy30449.rg (h30455) 3 rfl
        refine b_if_eq C 133 dX11_slipped_107 (by decide) (fun h30457 => ?_) (fun h30457 => ?_)
        · have h30457 : (pI Y30447 b83_6 3).toInt = 0 := congrArg Int32.toInt h30457
          exact J133 Y30447 b83_5 b83_6 v83_7 v83_8 Iy30449 Xz30452 (by omega) h30454 h30455 (by omega) (by omega) (by omega)
        · have h30457 : (pI Y30447 b83_6 3).toInt ≠ 0 := ti_ne h30457
          refine g_iload C dX11_slipped_110 3 rfl ?_
          have u30459 := ti_rng v83_7
          refine b_if_ne C 126 dX11_slipped_112 (by decide) (fun h30458 => ?_) (fun h30458 => ?_)
          · have h30458 : v83_7.toInt ≠ 0 := ti_ne h30458
            refine g_iload C dX11_slipped_126 4 rfl ?_
            refine g_lv (lv' := [(4, .int a4), (5, .ref b83_5), (6, .ref b83_6), (7, .int v83_7), (9, .int v83_9)]) [0, 1, 2, 3, 5] rfl ?_
            exact J128 Y30447 b83_5 b83_6 v83_8 Iy30449 Xz30452 (by omega) h30454 h30455 (by omega) (by omega) (by omega)
          · have h30458 : v83_7.toInt = 0 := congrArg Int32.toInt h30458
            refine g_aload C dX11_slipped_115 1 rfl ?_
            obtain ⟨b30460, e30461, h30462⟩ := Iy30449.fld (h30454) 1 13 44 rfl
            refine g_getR C fi_X11_269 rfl e30461 (h30454).1 (h30454).2 dX11_slipped_117 ?_
            refine g_iload C dX11_slipped_120 5 rfl ?_
            refine g_iald (j := (v83_9.toInt.toNat)) C h30462.1 h30462.2.1 (ix_in h30462.2.2 (by omega)) dX11_slipped_122 ?_
            refine g_topi (fun z30463 _ => ?_)
            refine g_goto C 128 dX11_slipped_123 (by decide) ?_
            refine g_lv (lv' := [(4, .int a4), (5, .ref b83_5), (6, .ref b83_6), (7, .int v83_7), (9, .int v83_9)]) [0, 1, 2, 3, 5] rfl ?_
            exact J128 Y30447 b83_5 b83_6 z30463 Iy30449 Xz30452 (by omega) h30454 h30455 (by omega) (by omega) (by omega)
  have J33 : G E ({ frames := 4, cells := 0, slots := 0, locals := 256 } : Room) D cy 10 P 0 0 33 [] [] := by
    refine g_iconst (v := (-1)) C dX11_slipped_33 (by decide) ?_
    exact ret _ _ _ _ _ _ dX11_slipped_34 rfl (by decide) (by decide) ⟨I, EK.rf, trivial⟩
  refine g_iload_n C dX11_slipped_0 rfl 1 rfl ?_
  refine g_callSI (b := 0) (ci := 0) (rest := []) C ms_X11_158 [.int a1] (s_X11_isQuarter I) rfl rfl (by decide) (Nat.le_of_ble_eq_true rfl) (by decide) dX11_slipped_1 (fun r30464 Y30465 h30466 => ?_)
  obtain ⟨rfl, h30466⟩ := h30466
  obtain ⟨h30466, hi30467⟩ := h30466
  have hi30467 : r30464.toInt = 0 ∨ (((0 : Int) ≤ a1.toInt ∧ a1.toInt ≤ (3 : Int))) := hi30467
  have h30466 : 0 ≤ r30464.toInt ∧ r30464.toInt ≤ 1 := h30466
  refine b_if_eq C 33 dX11_slipped_4 (by decide) (fun h30468 => ?_) (fun h30468 => ?_)
  · have h30468 : r30464.toInt = 0 := congrArg Int32.toInt h30468
    clear hi30467
    refine g_lv (lv' := []) [] rfl ?_
    exact J33 
  · have h30468 : r30464.toInt ≠ 0 := ti_ne h30468
    replace hi30467 := hi30467.resolve_left (by omega)
    refine g_aload_n C dX11_slipped_7 rfl 0 rfl ?_
    refine g_iload_n C dX11_slipped_8 rfl 2 rfl ?_
    refine g_callVI (rest := []) C mv_X11_97 [.int a2] (s_X11_isTold I ha0) (ha0).1 (ha0).2 rfl rfl (by decide) (Nat.le_of_ble_eq_true rfl) (by decide) dX11_slipped_9 (fun r30469 Y30470 h30471 => ?_)
    obtain ⟨rfl, h30471⟩ := h30471
    obtain ⟨h30471, hi30472⟩ := h30471
    have hi30472 : r30469.toInt = 0 ∨ (((0 : Int) ≤ a2.toInt ∧ a2.toInt ≤ (1 : Int))) := hi30472
    have h30471 : 0 ≤ r30469.toInt ∧ r30469.toInt ≤ 1 := h30471
    refine b_if_eq C 33 dX11_slipped_12 (by decide) (fun h30473 => ?_) (fun h30473 => ?_)
    · have h30473 : r30469.toInt = 0 := congrArg Int32.toInt h30473
      clear hi30472
      refine g_lv (lv' := []) [] rfl ?_
      exact J33 
    · have h30473 : r30469.toInt ≠ 0 := ti_ne h30473
      replace hi30472 := hi30472.resolve_left (by omega)
      refine g_iload_n C dX11_slipped_15 rfl 3 rfl ?_
      refine g_callSI (b := 0) (ci := 0) (rest := []) C ms_X11_213 [.int a3] (s_X11_isOctet I) rfl rfl (by decide) (Nat.le_of_ble_eq_true rfl) (by decide) dX11_slipped_16 (fun r30474 Y30475 h30476 => ?_)
      obtain ⟨rfl, h30476⟩ := h30476
      obtain ⟨h30476, hi30477⟩ := h30476
      have hi30477 : r30474.toInt = 0 ∨ (((0 : Int) ≤ a3.toInt ∧ a3.toInt ≤ (1 : Int))) := hi30477
      have h30476 : 0 ≤ r30474.toInt ∧ r30474.toInt ≤ 1 := h30476
      refine b_if_eq C 33 dX11_slipped_19 (by decide) (fun h30478 => ?_) (fun h30478 => ?_)
      · have h30478 : r30474.toInt = 0 := congrArg Int32.toInt h30478
        clear hi30477
        refine g_lv (lv' := []) [] rfl ?_
        exact J33 
      · have h30478 : r30474.toInt ≠ 0 := ti_ne h30478
        replace hi30477 := hi30477.resolve_left (by omega)
        refine g_iload C dX11_slipped_22 4 rfl ?_
        have u30480 := ti_rng a4
        refine b_if_lt C 33 dX11_slipped_24 (by decide) (fun h30479 => ?_) (fun h30479 => ?_)
        · have h30479 : a4.toInt < 0 := h30479
          refine g_lv (lv' := []) [] rfl ?_
          exact J33 
        · have h30479 : 0 ≤ a4.toInt := h30479
          refine g_iload C dX11_slipped_27 4 rfl ?_
          refine g_iconst (v := 2) C dX11_slipped_29 (by decide) ?_
          have u30482 := ti_rng a4
          refine b_icmp_le C 35 dX11_slipped_30 (by decide) (fun h30481 => ?_) (fun h30481 => ?_)
          · have h30481 : a4.toInt ≤ 2 := h30481
            refine g_aload_n C dX11_slipped_35 rfl 0 rfl ?_
            refine g_iload_n C dX11_slipped_36 rfl 1 rfl ?_
            refine g_iload_n C dX11_slipped_37 rfl 2 rfl ?_
            refine g_iload_n C dX11_slipped_38 rfl 3 rfl ?_
            refine g_callVQ (rest := []) C mv_X11_216 [.int a1, .int a2, .int a3] (s_X11_gather I ha0 (by omega) (by omega) (by omega)) (ha0).1 (ha0).2 rfl rfl (by decide) (Nat.le_of_ble_eq_true rfl) (by decide) dX11_slipped_39 (fun r30483 Y30484 h30485 => ?_)
            obtain ⟨Iy30486, Xy30487, h30485⟩ := h30485
            have Xz30488 : EK [0, 5, 13] P Y30484 := Xy30487.mono (by decide)
            have h30489 := Xy30487.at ha0
            obtain ⟨b30491, rfl, h30485⟩ := h30485
            show G _ _ _ _ _ _ _ _ _ _ (.ref b30491 :: _)
            refine g_astore (lv' := [(5, .ref b30491), (0, .ref a0), (1, .int a1), (2, .int a2), (3, .int a3), (4, .int a4)]) C dX11_slipped_42 (by decide) rfl ?_
            refine g_aload_n C dX11_slipped_44 rfl 1 rfl ?_
            obtain ⟨b30492, e30493, h30494⟩ := Iy30486.fld (h30489) 9 16 2 rfl
            refine g_getR C fi_X11_53 rfl e30493 (h30489).1 (h30489).2 dX11_slipped_45 ?_
            refine g_iconst (v := 0) C dX11_slipped_48 (by decide) ?_
            obtain ⟨b30495, e30496, h30497⟩ := Iy30486.elm h30494 (by decide) 0 (by decide)
            refine g_aldR C h30494.1 h30494.2.1 (by decide) (IX.litn (j := 0) h30494.2.2 rfl (by decide) (by decide)) e30496 dX11_slipped_49 ?_
            refine g_astore (lv' := [(6, .ref b30495), (5, .ref b30491), (0, .ref a0), (1, .int a1), (2, .int a2), (3, .int a3), (4, .int a4)]) C dX11_slipped_50 (by decide) rfl ?_
            refine g_aload C dX11_slipped_52 0 rfl ?_
            refine g_aload C dX11_slipped_54 1 rfl ?_
            refine g_iconst (v := (-1)) C dX11_slipped_56 (by decide) ?_
            refine g_callVV (rest := []) C mv_X11_236 [.ref b30491, .int (-1)] (s_X0_take Iy30486 h30497 h30485) (h30497).1 (h30497).2 rfl rfl (by decide) (Nat.le_of_ble_eq_true rfl) (by decide) dX11_slipped_57 (fun Y30499 h30500 => ?_)
            obtain ⟨Iy30501, Xy30502⟩ := h30500
            have Xz30503 : EK [0, 5, 13] P Y30499 := Xz30488.tr (Xy30502.mono (by decide))
            have h30504 := Xy30502.at h30489
            have h30505 := Xy30502.at h30485
            have h30506 := Xy30502.at h30497
            refine g_aload C dX11_slipped_60 0 rfl ?_
            refine g_getI C fi_X11_243 (by decide) (h30506).1 (h30506).2 dX11_slipped_62 ?_
            have h30507 := Iy30501.rg (h30506) 3 rfl
            refine b_if_eq C 70 dX11_slipped_65 (by decide) (fun h30508 => ?_) (fun h30508 => ?_)
            · have h30508 : (pI Y30499 b30495 3).toInt = 0 := congrArg Int32.toInt h30508
              refine g_iconst (v := 0) C dX11_slipped_70 (by decide) ?_
              refine g_istore (lv' := [(7, .int 0), (6, .ref b30495), (5, .ref b30491), (0, .ref a0), (1, .int a1), (2, .int a2), (3, .int a3), (4, .int a4)]) C dX11_slipped_71 (by decide) rfl ?_
              refine g_iconst (v := (-1)) C dX11_slipped_73 (by decide) ?_
              refine g_istore (lv' := [(8, .int (-1)), (7, .int 0), (6, .ref b30495), (5, .ref b30491), (0, .ref a0), (1, .int a1), (2, .int a2), (3, .int a3), (4, .int a4)]) C dX11_slipped_74 (by decide) rfl ?_
              refine g_aload C dX11_slipped_76 3 rfl ?_
              refine g_getI C fi_X11_263 (by decide) (h30505).1 (h30505).2 dX11_slipped_78 ?_
              have h30509 := Iy30501.rg (h30505) 5 rfl
              refine g_topi (fun z30510 h30511 => ?_)
              have h30511 : z30510.toInt = (pI Y30499 b30491 5).toInt := congrArg Int32.toInt h30511
              refine g_istore (lv' := [(9, .int z30510), (8, .int (-1)), (7, .int 0), (6, .ref b30495), (5, .ref b30491), (0, .ref a0), (1, .int a1), (2, .int a2), (3, .int a3), (4, .int a4)]) C dX11_slipped_81 (by decide) rfl ?_
              refine g_lv (lv' := [(4, .int a4), (5, .ref b30491), (6, .ref b30495), (7, .int 0), (8, .int (-1)), (9, .int z30510)]) [9, 4, 3, 2, 1, 0] rfl ?_
              exact J83 _ Y30499 b30491 b30495 0 (-1) z30510 (Nat.lt_succ_self _) Iy30501 Xz30503 (by omega) h30505 h30506 (by omega)
            · have h30508 : (pI Y30499 b30495 3).toInt ≠ 0 := ti_ne h30508
              refine g_iconst (v := (-1)) C dX11_slipped_68 (by decide) ?_
              exact ret _ _ _ _ _ _ dX11_slipped_69 rfl (by decide) (by decide) ⟨Iy30501, Xz30503, trivial⟩
          · have h30481 : 2 < a4.toInt := h30481
            refine g_lv (lv' := []) [] rfl ?_
            exact J33 
theorem dX11_solves_0 : decode cX11_solves 0 = .ok (.iload_n 1, 1) := by decide +kernel
theorem dX11_solves_1 : decode cX11_solves 1 = .ok (.invokestatic 158, 3) := by decide +kernel
theorem dX11_solves_4 : decode cX11_solves 4 = .ok (.ifCond .eq 18, 3) := by decide +kernel
theorem dX11_solves_7 : decode cX11_solves 7 = .ok (.aload_n 0, 1) := by decide +kernel
theorem dX11_solves_8 : decode cX11_solves 8 = .ok (.iload_n 2, 1) := by decide +kernel
theorem dX11_solves_9 : decode cX11_solves 9 = .ok (.invokevirtual 97, 3) := by decide +kernel
theorem dX11_solves_12 : decode cX11_solves 12 = .ok (.ifCond .eq 10, 3) := by decide +kernel
theorem dX11_solves_15 : decode cX11_solves 15 = .ok (.iload_n 3, 1) := by decide +kernel
theorem dX11_solves_16 : decode cX11_solves 16 = .ok (.invokestatic 213, 3) := by decide +kernel
theorem dX11_solves_19 : decode cX11_solves 19 = .ok (.ifCond .ne 5, 3) := by decide +kernel
theorem dX11_solves_22 : decode cX11_solves 22 = .ok (.iconst (-1), 1) := by decide +kernel
theorem dX11_solves_23 : decode cX11_solves 23 = .ok (.ireturn, 1) := by decide +kernel
theorem dX11_solves_24 : decode cX11_solves 24 = .ok (.aload_n 0, 1) := by decide +kernel
theorem dX11_solves_25 : decode cX11_solves 25 = .ok (.getfield 11, 3) := by decide +kernel
theorem dX11_solves_28 : decode cX11_solves 28 = .ok (.iload_n 2, 1) := by decide +kernel
theorem dX11_solves_29 : decode cX11_solves 29 = .ok (.aaload, 1) := by decide +kernel
theorem dX11_solves_30 : decode cX11_solves 30 = .ok (.invokevirtual 233, 3) := by decide +kernel
theorem dX11_solves_33 : decode cX11_solves 33 = .ok (.istore 5, 2) := by decide +kernel
theorem dX11_solves_35 : decode cX11_solves 35 = .ok (.aload_n 0, 1) := by decide +kernel
theorem dX11_solves_36 : decode cX11_solves 36 = .ok (.getfield 53, 3) := by decide +kernel
theorem dX11_solves_39 : decode cX11_solves 39 = .ok (.iconst 0, 1) := by decide +kernel
theorem dX11_solves_40 : decode cX11_solves 40 = .ok (.aaload, 1) := by decide +kernel
theorem dX11_solves_41 : decode cX11_solves 41 = .ok (.astore 6, 2) := by decide +kernel
theorem dX11_solves_43 : decode cX11_solves 43 = .ok (.aload 6, 2) := by decide +kernel
theorem dX11_solves_45 : decode cX11_solves 45 = .ok (.aload_n 0, 1) := by decide +kernel
theorem dX11_solves_46 : decode cX11_solves 46 = .ok (.iload_n 1, 1) := by decide +kernel
theorem dX11_solves_47 : decode cX11_solves 47 = .ok (.iload_n 2, 1) := by decide +kernel
theorem dX11_solves_48 : decode cX11_solves 48 = .ok (.iload_n 3, 1) := by decide +kernel
theorem dX11_solves_49 : decode cX11_solves 49 = .ok (.invokevirtual 216, 3) := by decide +kernel
theorem dX11_solves_52 : decode cX11_solves 52 = .ok (.iconst (-1), 1) := by decide +kernel
theorem dX11_solves_53 : decode cX11_solves 53 = .ok (.invokevirtual 236, 3) := by decide +kernel
theorem dX11_solves_56 : decode cX11_solves 56 = .ok (.iload 4, 2) := by decide +kernel
theorem dX11_solves_58 : decode cX11_solves 58 = .ok (.tableswitch 67 0 3 #[30, 38, 52, 58], 30) := by decide +kernel
theorem dX11_solves_88 : decode cX11_solves 88 = .ok (.aload 6, 2) := by decide +kernel
theorem dX11_solves_90 : decode cX11_solves 90 = .ok (.iload 5, 2) := by decide +kernel
theorem dX11_solves_92 : decode cX11_solves 92 = .ok (.invokevirtual 240, 3) := by decide +kernel
theorem dX11_solves_95 : decode cX11_solves 95 = .ok (.ireturn, 1) := by decide +kernel
theorem dX11_solves_96 : decode cX11_solves 96 = .ok (.aload 6, 2) := by decide +kernel
theorem dX11_solves_98 : decode cX11_solves 98 = .ok (.getfield 243, 3) := by decide +kernel
theorem dX11_solves_101 : decode cX11_solves 101 = .ok (.ifCond .eq 7, 3) := by decide +kernel
theorem dX11_solves_104 : decode cX11_solves 104 = .ok (.iconst 1, 1) := by decide +kernel
theorem dX11_solves_105 : decode cX11_solves 105 = .ok (.goto 4, 3) := by decide +kernel
theorem dX11_solves_108 : decode cX11_solves 108 = .ok (.iconst 0, 1) := by decide +kernel
theorem dX11_solves_109 : decode cX11_solves 109 = .ok (.ireturn, 1) := by decide +kernel
theorem dX11_solves_110 : decode cX11_solves 110 = .ok (.aload 6, 2) := by decide +kernel
theorem dX11_solves_112 : decode cX11_solves 112 = .ok (.getfield 246, 3) := by decide +kernel
theorem dX11_solves_115 : decode cX11_solves 115 = .ok (.ireturn, 1) := by decide +kernel
theorem dX11_solves_116 : decode cX11_solves 116 = .ok (.iload 5, 2) := by decide +kernel
theorem dX11_solves_118 : decode cX11_solves 118 = .ok (.aload 6, 2) := by decide +kernel
theorem dX11_solves_120 : decode cX11_solves 120 = .ok (.getfield 246, 3) := by decide +kernel
theorem dX11_solves_123 : decode cX11_solves 123 = .ok (.isub, 1) := by decide +kernel
theorem dX11_solves_124 : decode cX11_solves 124 = .ok (.ireturn, 1) := by decide +kernel
theorem dX11_solves_125 : decode cX11_solves 125 = .ok (.iconst (-1), 1) := by decide +kernel
theorem dX11_solves_126 : decode cX11_solves 126 = .ok (.ireturn, 1) := by decide +kernel
set_option maxHeartbeats 4000000 in
set_option maxRecDepth 100000 in
theorem s_X11_solves {P : PP} {a0 : Nat} {a1 : Int32} {a2 : Int32} {a3 : Int32} {a4 : Int32} (I : IV P) (ha0 : At P a0 11) : CtrI yX11_solves cX11_solves 7 (some Jvm.ClassFile.FieldType.int) ({ frames := 4, cells := 0, slots := 0, locals := 256 } : Room) 0 0 P [.ref a0, .int a1, .int a2, .int a3, .int a4] (fun r P2 => IV P2 ∧ EK [0, 5, 13] P P2 ∧ (True)) := by
  refine enI (lv := [(0, .ref a0), (1, .int a1), (2, .int a2), (3, .int a3), (4, .int a4)]) (by decide) (Nat.le_of_ble_eq_true rfl) rfl (fun E D cy C Ci0 ret => ?_)
  have J22 : G E ({ frames := 4, cells := 0, slots := 0, locals := 256 } : Room) D cy 7 P 0 0 22 [] [] := by
    refine g_iconst (v := (-1)) C dX11_solves_22 (by decide) ?_
    exact ret _ _ _ _ _ _ dX11_solves_23 rfl (by decide) (by decide) ⟨I, EK.rf, trivial⟩
  refine g_iload_n C dX11_solves_0 rfl 1 rfl ?_
  refine g_callSI (b := 0) (ci := 0) (rest := []) C ms_X11_158 [.int a1] (s_X11_isQuarter I) rfl rfl (by decide) (Nat.le_of_ble_eq_true rfl) (by decide) dX11_solves_1 (fun r30571 Y30572 h30573 => ?_)
  obtain ⟨rfl, h30573⟩ := h30573
  obtain ⟨h30573, hi30574⟩ := h30573
  have hi30574 : r30571.toInt = 0 ∨ (((0 : Int) ≤ a1.toInt ∧ a1.toInt ≤ (3 : Int))) := hi30574
  have h30573 : 0 ≤ r30571.toInt ∧ r30571.toInt ≤ 1 := h30573
  refine b_if_eq C 22 dX11_solves_4 (by decide) (fun h30575 => ?_) (fun h30575 => ?_)
  · have h30575 : r30571.toInt = 0 := congrArg Int32.toInt h30575
    clear hi30574
    refine g_lv (lv' := []) [] rfl ?_
    exact J22 
  · have h30575 : r30571.toInt ≠ 0 := ti_ne h30575
    replace hi30574 := hi30574.resolve_left (by omega)
    refine g_aload_n C dX11_solves_7 rfl 0 rfl ?_
    refine g_iload_n C dX11_solves_8 rfl 2 rfl ?_
    refine g_callVI (rest := []) C mv_X11_97 [.int a2] (s_X11_isTold I ha0) (ha0).1 (ha0).2 rfl rfl (by decide) (Nat.le_of_ble_eq_true rfl) (by decide) dX11_solves_9 (fun r30576 Y30577 h30578 => ?_)
    obtain ⟨rfl, h30578⟩ := h30578
    obtain ⟨h30578, hi30579⟩ := h30578
    have hi30579 : r30576.toInt = 0 ∨ (((0 : Int) ≤ a2.toInt ∧ a2.toInt ≤ (1 : Int))) := hi30579
    have h30578 : 0 ≤ r30576.toInt ∧ r30576.toInt ≤ 1 := h30578
    refine b_if_eq C 22 dX11_solves_12 (by decide) (fun h30580 => ?_) (fun h30580 => ?_)
    · have h30580 : r30576.toInt = 0 := congrArg Int32.toInt h30580
      clear hi30579
      refine g_lv (lv' := []) [] rfl ?_
      exact J22 
    · have h30580 : r30576.toInt ≠ 0 := ti_ne h30580
      replace hi30579 := hi30579.resolve_left (by omega)
      refine g_iload_n C dX11_solves_15 rfl 3 rfl ?_
      refine g_callSI (b := 0) (ci := 0) (rest := []) C ms_X11_213 [.int a3] (s_X11_isOctet I) rfl rfl (by decide) (Nat.le_of_ble_eq_true rfl) (by decide) dX11_solves_16 (fun r30581 Y30582 h30583 => ?_)
      obtain ⟨rfl, h30583⟩ := h30583
      obtain ⟨h30583, hi30584⟩ := h30583
      have hi30584 : r30581.toInt = 0 ∨ (((0 : Int) ≤ a3.toInt ∧ a3.toInt ≤ (1 : Int))) := hi30584
      have h30583 : 0 ≤ r30581.toInt ∧ r30581.toInt ≤ 1 := h30583
      refine b_if_ne C 24 dX11_solves_19 (by decide) (fun h30585 => ?_) (fun h30585 => ?_)
      · have h30585 : r30581.toInt ≠ 0 := ti_ne h30585
        replace hi30584 := hi30584.resolve_left (by omega)
        refine g_aload_n C dX11_solves_24 rfl 0 rfl ?_
        obtain ⟨b30586, e30587, h30588⟩ := I.fld (ha0) 0 17 2 rfl
        refine g_getR C fi_X11_11 rfl e30587 (ha0).1 (ha0).2 dX11_solves_25 ?_
        refine g_iload_n C dX11_solves_28 rfl 2 rfl ?_
        obtain ⟨b30589, e30590, h30591⟩ := I.elm h30588 (by decide) (a2.toInt.toNat) (by omega)
        refine g_aldR C h30588.1 h30588.2.1 (by decide) (ix_in h30588.2.2 (by omega)) e30590 dX11_solves_29 ?_
        refine g_callVI (rest := []) C mv_X11_233 [] (s_X1_all I h30591) (h30591).1 (h30591).2 rfl rfl (by decide) (Nat.le_of_ble_eq_true rfl) (by decide) dX11_solves_30 (fun r30592 Y30593 h30594 => ?_)
        obtain ⟨rfl, h30594⟩ := h30594
        have h30594 : 0 ≤ r30592.toInt ∧ r30592.toInt ≤ 20 := h30594
        refine g_istore (lv' := [(5, .int r30592), (0, .ref a0), (1, .int a1), (2, .int a2), (3, .int a3), (4, .int a4)]) C dX11_solves_33 (by decide) rfl ?_
        refine g_aload_n C dX11_solves_35 rfl 1 rfl ?_
        obtain ⟨b30595, e30596, h30597⟩ := I.fld (ha0) 9 16 2 rfl
        refine g_getR C fi_X11_53 rfl e30596 (ha0).1 (ha0).2 dX11_solves_36 ?_
        refine g_iconst (v := 0) C dX11_solves_39 (by decide) ?_
        obtain ⟨b30598, e30599, h30600⟩ := I.elm h30597 (by decide) 0 (by decide)
        refine g_aldR C h30597.1 h30597.2.1 (by decide) (IX.litn (j := 0) h30597.2.2 rfl (by decide) (by decide)) e30599 dX11_solves_40 ?_
        refine g_astore (lv' := [(6, .ref b30598), (5, .int r30592), (0, .ref a0), (1, .int a1), (2, .int a2), (3, .int a3), (4, .int a4)]) C dX11_solves_41 (by decide) rfl ?_
        refine g_aload C dX11_solves_43 0 rfl ?_
        refine g_aload_n C dX11_solves_45 rfl 2 rfl ?_
        refine g_iload_n C dX11_solves_46 rfl 3 rfl ?_
        refine g_iload_n C dX11_solves_47 rfl 4 rfl ?_
        refine g_iload_n C dX11_solves_48 rfl 5 rfl ?_
        refine g_callVQ (rest := [.ref b30598]) C mv_X11_216 [.int a1, .int a2, .int a3] (s_X11_gather I ha0 (by omega) (by omega) (by omega)) (ha0).1 (ha0).2 rfl rfl (by decide) (Nat.le_of_ble_eq_true rfl) (by decide) dX11_solves_49 (fun r30601 Y30602 h30603 => ?_)
        obtain ⟨Iy30604, Xy30605, h30603⟩ := h30603
        have Xz30606 : EK [0, 5, 13] P Y30602 := Xy30605.mono (by decide)
        have h30607 := Xy30605.at ha0
        have h30608 := Xy30605.at h30600
        obtain ⟨b30610, rfl, h30603⟩ := h30603
        show G _ _ _ _ _ _ _ _ _ _ (.ref b30610 :: _)
        refine g_iconst (v := (-1)) C dX11_solves_52 (by decide) ?_
        refine g_callVV (rest := []) C mv_X11_236 [.ref b30610, .int (-1)] (s_X0_take Iy30604 h30608 h30603) (h30608).1 (h30608).2 rfl rfl (by decide) (Nat.le_of_ble_eq_true rfl) (by decide) dX11_solves_53 (fun Y30612 h30613 => ?_)
        obtain ⟨Iy30614, Xy30615⟩ := h30613
        have Xz30616 : EK [0, 5, 13] P Y30612 := Xz30606.tr (Xy30615.mono (by decide))
        have h30617 := Xy30615.at h30607
        have h30618 := Xy30615.at h30608
        refine g_iload C dX11_solves_56 6 rfl ?_
        by_cases h30619 : a4.toInt < 0 ∨ 3 < a4.toInt
        · refine g_tableOut C 125 dX11_solves_58 h30619 (by decide) ?_
          refine g_iconst (v := (-1)) C dX11_solves_125 (by decide) ?_
          exact ret _ _ _ _ _ _ dX11_solves_126 rfl (by decide) (by decide) ⟨Iy30614, Xz30616, trivial⟩
        · rcases (show a4.toInt = 0 ∨ a4.toInt = 1 ∨ a4.toInt = 2 ∨ a4.toInt = 3 by omega) with h30620 | h30620 | h30620 | h30620
          · refine g_tableIn C 88 dX11_solves_58 (by omega) (by omega) (by rw [h30620]; rfl) (by decide) ?_
            refine g_aload C dX11_solves_88 0 rfl ?_
            refine g_iload C dX11_solves_90 1 rfl ?_
            refine g_callVI (rest := []) C mv_X11_240 [.int r30592] (s_X0_fixedPages Iy30614 h30618) (h30618).1 (h30618).2 rfl rfl (by decide) (Nat.le_of_ble_eq_true rfl) (by decide) dX11_solves_92 (fun r30621 Y30622 h30623 => ?_)
            obtain ⟨rfl, h30623⟩ := h30623
            have h30623 : True := h30623
            exact ret _ _ _ _ _ _ dX11_solves_95 rfl (by decide) (by decide) ⟨Iy30614, Xz30616, trivial⟩
          · refine g_tableIn C 96 dX11_solves_58 (by omega) (by omega) (by rw [h30620]; rfl) (by decide) ?_
            refine g_aload C dX11_solves_96 0 rfl ?_
            refine g_getI C fi_X11_243 (by decide) (h30618).1 (h30618).2 dX11_solves_98 ?_
            have h30624 := Iy30614.rg (h30618) 3 rfl
            refine b_if_eq C 108 dX11_solves_101 (by decide) (fun h30625 => ?_) (fun h30625 => ?_)
            · have h30625 : (pI Y30612 b30598 3).toInt = 0 := congrArg Int32.toInt h30625
              refine g_iconst (v := 0) C dX11_solves_108 (by decide) ?_
              exact ret _ _ _ _ _ _ dX11_solves_109 rfl (by decide) (by decide) ⟨Iy30614, Xz30616, trivial⟩
            · have h30625 : (pI Y30612 b30598 3).toInt ≠ 0 := ti_ne h30625
              refine g_iconst (v := 1) C dX11_solves_104 (by decide) ?_
              refine g_goto C 109 dX11_solves_105 (by decide) ?_
              exact ret _ _ _ _ _ _ dX11_solves_109 rfl (by decide) (by decide) ⟨Iy30614, Xz30616, trivial⟩
          · refine g_tableIn C 110 dX11_solves_58 (by omega) (by omega) (by rw [h30620]; rfl) (by decide) ?_
            refine g_aload C dX11_solves_110 0 rfl ?_
            refine g_getI C fi_X11_246 (by decide) (h30618).1 (h30618).2 dX11_solves_112 ?_
            have h30626 := Iy30614.rg (h30618) 2 rfl
            exact ret _ _ _ _ _ _ dX11_solves_115 rfl (by decide) (by decide) ⟨Iy30614, Xz30616, trivial⟩
          · refine g_tableIn C 116 dX11_solves_58 (by omega) (by omega) (by rw [h30620]; rfl) (by decide) ?_
            refine g_iload C dX11_solves_116 1 rfl ?_
            refine g_aload C dX11_solves_118 0 rfl ?_
            refine g_getI C fi_X11_246 (by decide) (h30618).1 (h30618).2 dX11_solves_120 ?_
            have h30627 := Iy30614.rg (h30618) 2 rfl
            refine s_isub C dX11_solves_123 (by show -2147483648 ≤ r30592.toInt - (pI Y30612 b30598 2).toInt ∧ r30592.toInt - (pI Y30612 b30598 2).toInt ≤ 2147483647; omega) (fun z30628 h30629 => ?_)
            have h30629 : z30628.toInt = r30592.toInt - (pI Y30612 b30598 2).toInt := h30629
            exact ret _ _ _ _ _ _ dX11_solves_124 rfl (by decide) (by decide) ⟨Iy30614, Xz30616, trivial⟩
      · have h30585 : r30581.toInt = 0 := congrArg Int32.toInt h30585
        clear hi30584
        refine g_lv (lv' := []) [] rfl ?_
        exact J22 
theorem dX11_soon_0 : decode cX11_soon 0 = .ok (.iload_n 1, 1) := by decide +kernel
theorem dX11_soon_1 : decode cX11_soon 1 = .ok (.invokestatic 158, 3) := by decide +kernel
theorem dX11_soon_4 : decode cX11_soon 4 = .ok (.ifCond .eq 20, 3) := by decide +kernel
theorem dX11_soon_7 : decode cX11_soon 7 = .ok (.aload_n 0, 1) := by decide +kernel
theorem dX11_soon_8 : decode cX11_soon 8 = .ok (.iload_n 2, 1) := by decide +kernel
theorem dX11_soon_9 : decode cX11_soon 9 = .ok (.iload_n 3, 1) := by decide +kernel
theorem dX11_soon_10 : decode cX11_soon 10 = .ok (.invokevirtual 155, 3) := by decide +kernel
theorem dX11_soon_13 : decode cX11_soon 13 = .ok (.ifCond .eq 11, 3) := by decide +kernel
theorem dX11_soon_16 : decode cX11_soon 16 = .ok (.iload 4, 2) := by decide +kernel
theorem dX11_soon_18 : decode cX11_soon 18 = .ok (.invokestatic 249, 3) := by decide +kernel
theorem dX11_soon_21 : decode cX11_soon 21 = .ok (.ifCond .ne 5, 3) := by decide +kernel
theorem dX11_soon_26 : decode cX11_soon 26 = .ok (.iload 4, 2) := by decide +kernel
theorem dX11_soon_28 : decode cX11_soon 28 = .ok (.ifCond .ne 13, 3) := by decide +kernel
theorem dX11_soon_41 : decode cX11_soon 41 = .ok (.aload_n 0, 1) := by decide +kernel
theorem dX11_soon_42 : decode cX11_soon 42 = .ok (.iload_n 1, 1) := by decide +kernel
theorem dX11_soon_43 : decode cX11_soon 43 = .ok (.iload_n 2, 1) := by decide +kernel
theorem dX11_soon_44 : decode cX11_soon 44 = .ok (.iload_n 3, 1) := by decide +kernel
theorem dX11_soon_45 : decode cX11_soon 45 = .ok (.invokevirtual 260, 3) := by decide +kernel
theorem dX11_soonSolved_0 : decode cX11_soonSolved 0 = .ok (.aload_n 0, 1) := by decide +kernel
theorem dX11_soonSolved_1 : decode cX11_soonSolved 1 = .ok (.getfield 17, 3) := by decide +kernel
theorem dX11_soonSolved_4 : decode cX11_soonSolved 4 = .ok (.iload_n 1, 1) := by decide +kernel
theorem dX11_soonSolved_5 : decode cX11_soonSolved 5 = .ok (.aaload, 1) := by decide +kernel
theorem dX11_soonSolved_6 : decode cX11_soonSolved 6 = .ok (.astore 4, 2) := by decide +kernel
theorem dX11_soonSolved_8 : decode cX11_soonSolved 8 = .ok (.iconst 0, 1) := by decide +kernel
theorem dX11_soonSolved_9 : decode cX11_soonSolved 9 = .ok (.istore 5, 2) := by decide +kernel
theorem dX11_soonSolved_11 : decode cX11_soonSolved 11 = .ok (.iload 5, 2) := by decide +kernel
theorem dX11_soonSolved_13 : decode cX11_soonSolved 13 = .ok (.iconst 2, 1) := by decide +kernel
theorem dX11_soonSolved_14 : decode cX11_soonSolved 14 = .ok (.if_icmp .ge 43, 3) := by decide +kernel
theorem dX11_soonSolved_17 : decode cX11_soonSolved 17 = .ok (.aload_n 0, 1) := by decide +kernel
theorem dX11_soonSolved_18 : decode cX11_soonSolved 18 = .ok (.getfield 47, 3) := by decide +kernel
theorem dX11_soonSolved_21 : decode cX11_soonSolved 21 = .ok (.iload 5, 2) := by decide +kernel
theorem dX11_soonSolved_23 : decode cX11_soonSolved 23 = .ok (.aaload, 1) := by decide +kernel
theorem dX11_soonSolved_24 : decode cX11_soonSolved 24 = .ok (.aload_n 0, 1) := by decide +kernel
theorem dX11_soonSolved_25 : decode cX11_soonSolved 25 = .ok (.getfield 11, 3) := by decide +kernel
theorem dX11_soonSolved_28 : decode cX11_soonSolved 28 = .ok (.iload_n 2, 1) := by decide +kernel
theorem dX11_soonSolved_29 : decode cX11_soonSolved 29 = .ok (.aaload, 1) := by decide +kernel
theorem dX11_soonSolved_30 : decode cX11_soonSolved 30 = .ok (.invokevirtual 371, 3) := by decide +kernel
theorem dX11_soonSolved_33 : decode cX11_soonSolved 33 = .ok (.aload_n 0, 1) := by decide +kernel
theorem dX11_soonSolved_34 : decode cX11_soonSolved 34 = .ok (.getfield 53, 3) := by decide +kernel
theorem dX11_soonSolved_37 : decode cX11_soonSolved 37 = .ok (.iload 5, 2) := by decide +kernel
theorem dX11_soonSolved_39 : decode cX11_soonSolved 39 = .ok (.aaload, 1) := by decide +kernel
theorem dX11_soonSolved_40 : decode cX11_soonSolved 40 = .ok (.aload_n 0, 1) := by decide +kernel
theorem dX11_soonSolved_41 : decode cX11_soonSolved 41 = .ok (.getfield 47, 3) := by decide +kernel
theorem dX11_soonSolved_44 : decode cX11_soonSolved 44 = .ok (.iload 5, 2) := by decide +kernel
theorem dX11_soonSolved_46 : decode cX11_soonSolved 46 = .ok (.aaload, 1) := by decide +kernel
theorem dX11_soonSolved_47 : decode cX11_soonSolved 47 = .ok (.iconst (-1), 1) := by decide +kernel
theorem dX11_soonSolved_48 : decode cX11_soonSolved 48 = .ok (.invokevirtual 236, 3) := by decide +kernel
theorem dX11_soonSolved_51 : decode cX11_soonSolved 51 = .ok (.iinc 5 1, 3) := by decide +kernel
theorem dX11_soonSolved_54 : decode cX11_soonSolved 54 = .ok (.goto (-43), 3) := by decide +kernel
theorem dX11_soonSolved_57 : decode cX11_soonSolved 57 = .ok (.iconst 0, 1) := by decide +kernel
theorem dX11_soonSolved_58 : decode cX11_soonSolved 58 = .ok (.istore 5, 2) := by decide +kernel
theorem dX11_soonSolved_60 : decode cX11_soonSolved 60 = .ok (.iload 5, 2) := by decide +kernel
theorem dX11_soonSolved_62 : decode cX11_soonSolved 62 = .ok (.aload 4, 2) := by decide +kernel
theorem dX11_soonSolved_64 : decode cX11_soonSolved 64 = .ok (.getfield 336, 3) := by decide +kernel
theorem dX11_soonSolved_67 : decode cX11_soonSolved 67 = .ok (.if_icmp .ge 108, 3) := by decide +kernel
theorem dX11_soonSolved_70 : decode cX11_soonSolved 70 = .ok (.aload 4, 2) := by decide +kernel
theorem dX11_soonSolved_72 : decode cX11_soonSolved 72 = .ok (.iload 5, 2) := by decide +kernel
theorem dX11_soonSolved_74 : decode cX11_soonSolved 74 = .ok (.invokevirtual 337, 3) := by decide +kernel
theorem dX11_soonSolved_77 : decode cX11_soonSolved 77 = .ok (.astore 6, 2) := by decide +kernel
theorem dX11_soonSolved_79 : decode cX11_soonSolved 79 = .ok (.aload 6, 2) := by decide +kernel
theorem dX11_soonSolved_81 : decode cX11_soonSolved 81 = .ok (.ifnull 88, 3) := by decide +kernel
theorem dX11_soonSolved_84 : decode cX11_soonSolved 84 = .ok (.aload 6, 2) := by decide +kernel
theorem dX11_soonSolved_86 : decode cX11_soonSolved 86 = .ok (.getfield 191, 3) := by decide +kernel
theorem dX11_soonSolved_89 : decode cX11_soonSolved 89 = .ok (.iload_n 2, 1) := by decide +kernel
theorem dX11_soonSolved_90 : decode cX11_soonSolved 90 = .ok (.if_icmp .ne 79, 3) := by decide +kernel
theorem dX11_soonSolved_93 : decode cX11_soonSolved 93 = .ok (.iconst 0, 1) := by decide +kernel
theorem dX11_soonSolved_94 : decode cX11_soonSolved 94 = .ok (.istore 7, 2) := by decide +kernel
theorem dX11_soonSolved_96 : decode cX11_soonSolved 96 = .ok (.iload 7, 2) := by decide +kernel
theorem dX11_soonSolved_98 : decode cX11_soonSolved 98 = .ok (.iconst 2, 1) := by decide +kernel
theorem dX11_soonSolved_99 : decode cX11_soonSolved 99 = .ok (.if_icmp .ge 37, 3) := by decide +kernel
theorem dX11_soonSolved_102 : decode cX11_soonSolved 102 = .ok (.aload 6, 2) := by decide +kernel
theorem dX11_soonSolved_104 : decode cX11_soonSolved 104 = .ok (.iload 7, 2) := by decide +kernel
theorem dX11_soonSolved_106 : decode cX11_soonSolved 106 = .ok (.invokevirtual 365, 3) := by decide +kernel
theorem dX11_soonSolved_109 : decode cX11_soonSolved 109 = .ok (.ifCond .eq 21, 3) := by decide +kernel
theorem dX11_soonSolved_112 : decode cX11_soonSolved 112 = .ok (.aload_n 0, 1) := by decide +kernel
theorem dX11_soonSolved_113 : decode cX11_soonSolved 113 = .ok (.getfield 53, 3) := by decide +kernel
theorem dX11_soonSolved_116 : decode cX11_soonSolved 116 = .ok (.iload 7, 2) := by decide +kernel
theorem dX11_soonSolved_118 : decode cX11_soonSolved 118 = .ok (.aaload, 1) := by decide +kernel
theorem dX11_soonSolved_119 : decode cX11_soonSolved 119 = .ok (.aload 6, 2) := by decide +kernel
theorem dX11_soonSolved_121 : decode cX11_soonSolved 121 = .ok (.iload_n 2, 1) := by decide +kernel
theorem dX11_soonSolved_122 : decode cX11_soonSolved 122 = .ok (.iload 7, 2) := by decide +kernel
theorem dX11_soonSolved_124 : decode cX11_soonSolved 124 = .ok (.invokevirtual 375, 3) := by decide +kernel
theorem dX11_soonSolved_127 : decode cX11_soonSolved 127 = .ok (.invokevirtual 392, 3) := by decide +kernel
theorem dX11_soonSolved_130 : decode cX11_soonSolved 130 = .ok (.iinc 7 1, 3) := by decide +kernel
theorem dX11_soonSolved_133 : decode cX11_soonSolved 133 = .ok (.goto (-37), 3) := by decide +kernel
theorem dX11_soonSolved_136 : decode cX11_soonSolved 136 = .ok (.aload_n 0, 1) := by decide +kernel
theorem dX11_soonSolved_137 : decode cX11_soonSolved 137 = .ok (.getfield 53, 3) := by decide +kernel
theorem dX11_soonSolved_140 : decode cX11_soonSolved 140 = .ok (.iconst 0, 1) := by decide +kernel
theorem dX11_soonSolved_141 : decode cX11_soonSolved 141 = .ok (.aaload, 1) := by decide +kernel
theorem dX11_soonSolved_142 : decode cX11_soonSolved 142 = .ok (.iload_n 3, 1) := by decide +kernel
theorem dX11_soonSolved_143 : decode cX11_soonSolved 143 = .ok (.invokevirtual 272, 3) := by decide +kernel
theorem dX11_soonSolved_146 : decode cX11_soonSolved 146 = .ok (.iconst (-1), 1) := by decide +kernel
theorem dX11_soonSolved_147 : decode cX11_soonSolved 147 = .ok (.if_icmp .eq 22, 3) := by decide +kernel
theorem dX11_soonSolved_150 : decode cX11_soonSolved 150 = .ok (.aload_n 0, 1) := by decide +kernel
theorem dX11_soonSolved_151 : decode cX11_soonSolved 151 = .ok (.getfield 53, 3) := by decide +kernel
theorem dX11_soonSolved_154 : decode cX11_soonSolved 154 = .ok (.iconst 1, 1) := by decide +kernel
theorem dX11_soonSolved_155 : decode cX11_soonSolved 155 = .ok (.aaload, 1) := by decide +kernel
theorem dX11_soonSolved_156 : decode cX11_soonSolved 156 = .ok (.iload_n 3, 1) := by decide +kernel
theorem dX11_soonSolved_157 : decode cX11_soonSolved 157 = .ok (.invokevirtual 272, 3) := by decide +kernel
theorem dX11_soonSolved_160 : decode cX11_soonSolved 160 = .ok (.iconst (-1), 1) := by decide +kernel
theorem dX11_soonSolved_161 : decode cX11_soonSolved 161 = .ok (.if_icmp .eq 8, 3) := by decide +kernel
theorem dX11_soonSolved_164 : decode cX11_soonSolved 164 = .ok (.iload 5, 2) := by decide +kernel
theorem dX11_soonSolved_166 : decode cX11_soonSolved 166 = .ok (.iconst 1, 1) := by decide +kernel
theorem dX11_soonSolved_167 : decode cX11_soonSolved 167 = .ok (.iadd, 1) := by decide +kernel
theorem dX11_soonSolved_168 : decode cX11_soonSolved 168 = .ok (.ireturn, 1) := by decide +kernel
theorem dX11_soonSolved_169 : decode cX11_soonSolved 169 = .ok (.iinc 5 1, 3) := by decide +kernel
theorem dX11_soonSolved_172 : decode cX11_soonSolved 172 = .ok (.goto (-112), 3) := by decide +kernel
theorem dX11_soonSolved_175 : decode cX11_soonSolved 175 = .ok (.iconst (-1), 1) := by decide +kernel
theorem dX11_soonSolved_176 : decode cX11_soonSolved 176 = .ok (.ireturn, 1) := by decide +kernel
set_option maxHeartbeats 4000000 in
set_option maxRecDepth 100000 in
theorem s_X11_soonSolved {P : PP} {a0 : Nat} {a1 : Int32} {a2 : Int32} {a3 : Int32} (I : IV P) (ha0 : At P a0 11) (ha1 : 0 ≤ a1.toInt ∧ a1.toInt ≤ 3) (ha2 : 0 ≤ a2.toInt ∧ a2.toInt ≤ 1) : CtrI yX11_soonSolved cX11_soonSolved 8 (some Jvm.ClassFile.FieldType.int) ({ frames := 4, cells := 0, slots := 0, locals := 256 } : Room) 0 0 P [.ref a0, .int a1, .int a2, .int a3] (fun r P2 => IV P2 ∧ EK [0, 5, 13] P P2 ∧ (-1 ≤ r.toInt ∧ r.toInt ≤ 41)) := by
  refine enI (lv := [(0, .ref a0), (1, .int a1), (2, .int a2), (3, .int a3)]) (by decide) (Nat.le_of_ble_eq_true rfl) rfl (fun E D cy C Ci0 ret => ?_)
  have J60 : ∀ (n60 : Nat) (P60 : PP) (b60_4 : Nat) (v60_5 : Int32), (41 - v60_5.toInt).toNat < n60 → (IV P60) → (EK [0, 5, 13] P P60) → (At P60 b60_4 6) → (0 ≤ v60_5.toInt ∧ v60_5.toInt ≤ 41) → G E ({ frames := 4, cells := 0, slots := 0, locals := 256 } : Room) D cy 8 P60 0 0 60 [(0, .ref a0), (2, .int a2), (3, .int a3), (4, .ref b60_4), (5, .int v60_5)] [] := by
    intro n60
    induction n60 with
    | zero => intro P60 b60_4 v60_5 hm60 I60 X60 hb60_4 hv60_5; omega
    | succ n60 ih60 =>
      intro P60 b60_4 v60_5 hm60 I60 X60 hb60_4 hv60_5
      have h31699 := X60.at ha0
      have J169 : ∀ (P169 : PP) (b169_4 : Nat), (IV P169) → (EK [0, 5, 13] P P169) → (At P169 b169_4 6) → (0 ≤ v60_5.toInt ∧ v60_5.toInt ≤ 40) → (1 ≤ (pI P169 b169_4 1).toInt ∧ (pI P169 b169_4 1).toInt ≤ 40) → G E ({ frames := 4, cells := 0, slots := 0, locals := 256 } : Room) D cy 8 P169 0 0 169 [(0, .ref a0), (2, .int a2), (3, .int a3), (4, .ref b169_4), (5, .int v60_5)] [] := by
        intro P169 b169_4 I169 X169 hb169_4 hv169_5 hq169_0
        have h31700 := X169.at ha0
        refine s_iinc (lv0 := [(0, .ref a0), (2, .int a2), (3, .int a3), (4, .ref b169_4)]) (m := 1) C dX11_soonSolved_169 4 rfl (by decide) rfl (by decide) (by omega) (fun z31701 h31702 => ?_)
        have h31702 : z31701.toInt = v60_5.toInt + 1 := h31702
        refine g_goto C 60 dX11_soonSolved_172 (by decide) ?_
        refine g_lv (lv' := [(0, .ref a0), (2, .int a2), (3, .int a3), (4, .ref b169_4), (5, .int z31701)]) [1, 2, 3, 4, 0] rfl ?_
        exact ih60 P169 b169_4 z31701 (by omega) I169 X169 hb169_4 (by omega)
      have J96 : ∀ (n96 : Nat) (P96 : PP) (b96_4 : Nat) (b96_6 : Nat) (v96_7 : Int32), (2 - v96_7.toInt).toNat < n96 → (IV P96) → (EK [0, 5, 13] P P96) → (At P96 b96_4 6) → (0 ≤ v60_5.toInt ∧ v60_5.toInt ≤ 40) → (At P96 b96_6 7) → (0 ≤ v96_7.toInt ∧ v96_7.toInt ≤ 2) → (1 ≤ (pI P96 b96_4 1).toInt ∧ (pI P96 b96_4 1).toInt ≤ 40) → (0 ≤ (pI P96 b96_6 0).toInt ∧ (pI P96 b96_6 0).toInt ≤ 1) → G E ({ frames := 4, cells := 0, slots := 0, locals := 256 } : Room) D cy 8 P96 0 0 96 [(0, .ref a0), (2, .int a2), (3, .int a3), (4, .ref b96_4), (5, .int v60_5), (6, .ref b96_6), (7, .int v96_7)] [] := by
        intro n96
        induction n96 with
        | zero => intro P96 b96_4 b96_6 v96_7 hm96 I96 X96 hb96_4 hv96_5 hb96_6 hv96_7 hq96_0 hq96_1; omega
        | succ n96 ih96 =>
          intro P96 b96_4 b96_6 v96_7 hm96 I96 X96 hb96_4 hv96_5 hb96_6 hv96_7 hq96_0 hq96_1
          have h31703 := X96.at ha0
          have J130 : ∀ (P130 : PP) (b130_4 : Nat) (b130_6 : Nat), (IV P130) → (EK [0, 5, 13] P P130) → (At P130 b130_4 6) → (0 ≤ v60_5.toInt ∧ v60_5.toInt ≤ 40) → (At P130 b130_6 7) → (0 ≤ v96_7.toInt ∧ v96_7.toInt ≤ 1) → (1 ≤ (pI P130 b130_4 1).toInt ∧ (pI P130 b130_4 1).toInt ≤ 40) → (0 ≤ (pI P130 b130_6 0).toInt ∧ (pI P130 b130_6 0).toInt ≤ 1) → G E ({ frames := 4, cells := 0, slots := 0, locals := 256 } : Room) D cy 8 P130 0 0 130 [(0, .ref a0), (2, .int a2), (3, .int a3), (4, .ref b130_4), (5, .int v60_5), (6, .ref b130_6), (7, .int v96_7)] [] := by
            intro P130 b130_4 b130_6 I130 X130 hb130_4 hv130_5 hb130_6 hv130_7 hq130_0 hq130_1
            have h31704 := X130.at ha0
            refine s_iinc (lv0 := [(0, .ref a0), (2, .int a2), (3, .int a3), (4, .ref b130_4), (5, .int v60_5), (6, .ref b130_6)]) (m := 1) C dX11_soonSolved_130 6 rfl (by decide) rfl (by decide) (by omega) (fun z31705 h31706 => ?_)
            have h31706 : z31705.toInt = v96_7.toInt + 1 := h31706
            refine g_goto C 96 dX11_soonSolved_133 (by decide) ?_
            refine g_lv (lv' := [(0, .ref a0), (2, .int a2), (3, .int a3), (4, .ref b130_4), (5, .int v60_5), (6, .ref b130_6), (7, .int z31705)]) [1, 2, 3, 4, 5, 6, 0] rfl ?_
            exact ih96 P130 b130_4 b130_6 z31705 (by omega) I130 X130 hb130_4 (by omega) hb130_6 (by omega) (by omega) (by omega)
          refine g_iload C dX11_soonSolved_96 6 rfl ?_
          refine g_iconst (v := 2) C dX11_soonSolved_98 (by decide) ?_
          refine b_icmp_ge C 136 dX11_soonSolved_99 (by decide) (fun h31707 => ?_) (fun h31707 => ?_)
          · have h31707 : 2 ≤ v96_7.toInt := h31707
            refine g_aload_n C dX11_soonSolved_136 rfl 0 rfl ?_
            obtain ⟨b31708, e31709, h31710⟩ := I96.fld (h31703) 9 16 2 rfl
            refine g_getR C fi_X11_53 rfl e31709 (h31703).1 (h31703).2 dX11_soonSolved_137 ?_
            refine g_iconst (v := 0) C dX11_soonSolved_140 (by decide) ?_
            obtain ⟨b31711, e31712, h31713⟩ := I96.elm h31710 (by decide) 0 (by decide)
            refine g_aldR C h31710.1 h31710.2.1 (by decide) (IX.litn (j := 0) h31710.2.2 rfl (by decide) (by decide)) e31712 dX11_soonSolved_141 ?_
            refine g_iload_n C dX11_soonSolved_142 rfl 2 rfl ?_
            refine g_callVI (rest := []) C mv_X11_272 [.int a3] (s_X0_octetOf I96 h31713) (h31713).1 (h31713).2 rfl rfl (by decide) (Nat.le_of_ble_eq_true rfl) (by decide) dX11_soonSolved_143 (fun r31714 Y31715 h31716 => ?_)
            obtain ⟨rfl, h31716⟩ := h31716
            have h31716 : True := h31716
            refine g_iconst (v := (-1)) C dX11_soonSolved_146 (by decide) ?_
            have u31718 := ti_rng r31714
            refine b_icmp_eq C 169 dX11_soonSolved_147 (by decide) (fun h31717 => ?_) (fun h31717 => ?_)
            · have h31717 : r31714.toInt = (-1) := congrArg Int32.toInt h31717
              refine g_lv (lv' := [(0, .ref a0), (2, .int a2), (3, .int a3), (4, .ref b96_4), (5, .int v60_5)]) [0, 1, 2, 3, 4] rfl ?_
              exact J169 P96 b96_4 I96 X96 hb96_4 (by omega) (by omega)
            · have h31717 : r31714.toInt ≠ (-1) := ti_ne h31717
              refine g_aload_n C dX11_soonSolved_150 rfl 0 rfl ?_
              refine g_getR C fi_X11_53 rfl e31709 (h31703).1 (h31703).2 dX11_soonSolved_151 ?_
              refine g_iconst (v := 1) C dX11_soonSolved_154 (by decide) ?_
              obtain ⟨b31719, e31720, h31721⟩ := I96.elm h31710 (by decide) 1 (by decide)
              refine g_aldR C h31710.1 h31710.2.1 (by decide) (IX.litn (j := 1) h31710.2.2 rfl (by decide) (by decide)) e31720 dX11_soonSolved_155 ?_
              refine g_iload_n C dX11_soonSolved_156 rfl 2 rfl ?_
              refine g_callVI (rest := []) C mv_X11_272 [.int a3] (s_X0_octetOf I96 h31721) (h31721).1 (h31721).2 rfl rfl (by decide) (Nat.le_of_ble_eq_true rfl) (by decide) dX11_soonSolved_157 (fun r31722 Y31723 h31724 => ?_)
              obtain ⟨rfl, h31724⟩ := h31724
              have h31724 : True := h31724
              refine g_iconst (v := (-1)) C dX11_soonSolved_160 (by decide) ?_
              have u31726 := ti_rng r31722
              refine b_icmp_eq C 169 dX11_soonSolved_161 (by decide) (fun h31725 => ?_) (fun h31725 => ?_)
              · have h31725 : r31722.toInt = (-1) := congrArg Int32.toInt h31725
                refine g_lv (lv' := [(0, .ref a0), (2, .int a2), (3, .int a3), (4, .ref b96_4), (5, .int v60_5)]) [0, 1, 2, 3, 4] rfl ?_
                exact J169 P96 b96_4 I96 X96 hb96_4 (by omega) (by omega)
              · have h31725 : r31722.toInt ≠ (-1) := ti_ne h31725
                refine g_iload C dX11_soonSolved_164 4 rfl ?_
                refine g_iconst (v := 1) C dX11_soonSolved_166 (by decide) ?_
                refine s_iadd C dX11_soonSolved_167 (by show -2147483648 ≤ v60_5.toInt + 1 ∧ v60_5.toInt + 1 ≤ 2147483647; omega) (fun z31727 h31728 => ?_)
                have h31728 : z31727.toInt = v60_5.toInt + 1 := h31728
                exact ret _ _ _ _ _ _ dX11_soonSolved_168 rfl (by decide) (by decide) ⟨I96, X96, (by omega)⟩
          · have h31707 : v96_7.toInt < 2 := h31707
            refine g_aload C dX11_soonSolved_102 5 rfl ?_
            refine g_iload C dX11_soonSolved_104 6 rfl ?_
            refine g_callVI (rest := []) C mv_X11_365 [.int v96_7] (s_X7_hasOctet I96 hb96_6) (hb96_6).1 (hb96_6).2 rfl rfl (by decide) (Nat.le_of_ble_eq_true rfl) (by decide) dX11_soonSolved_106 (fun r31729 Y31730 h31731 => ?_)
            obtain ⟨rfl, h31731⟩ := h31731
            have h31731 : 0 ≤ r31729.toInt ∧ r31729.toInt ≤ 1 := h31731
            refine b_if_eq C 130 dX11_soonSolved_109 (by decide) (fun h31732 => ?_) (fun h31732 => ?_)
            · have h31732 : r31729.toInt = 0 := congrArg Int32.toInt h31732
              exact J130 P96 b96_4 b96_6 I96 X96 hb96_4 (by omega) hb96_6 (by omega) (by omega) (by omega)
            · have h31732 : r31729.toInt ≠ 0 := ti_ne h31732
              refine g_aload_n C dX11_soonSolved_112 rfl 0 rfl ?_
              obtain ⟨b31733, e31734, h31735⟩ := I96.fld (h31703) 9 16 2 rfl
              refine g_getR C fi_X11_53 rfl e31734 (h31703).1 (h31703).2 dX11_soonSolved_113 ?_
              refine g_iload C dX11_soonSolved_116 6 rfl ?_
              obtain ⟨b31736, e31737, h31738⟩ := I96.elm h31735 (by decide) (v96_7.toInt.toNat) (by omega)
              refine g_aldR C h31735.1 h31735.2.1 (by decide) (ix_in h31735.2.2 (by omega)) e31737 dX11_soonSolved_118 ?_
              refine g_aload C dX11_soonSolved_119 5 rfl ?_
              refine g_iload_n C dX11_soonSolved_121 rfl 1 rfl ?_
              refine g_iload C dX11_soonSolved_122 6 rfl ?_
              refine g_callVI (rest := [.ref b31736]) C mv_X11_375 [.int a2, .int v96_7] (s_X7_equation I96 hb96_6) (hb96_6).1 (hb96_6).2 rfl rfl (by decide) (Nat.le_of_ble_eq_true rfl) (by decide) dX11_soonSolved_124 (fun r31739 Y31740 h31741 => ?_)
              obtain ⟨rfl, h31741⟩ := h31741
              have h31741 : True := h31741
              refine g_callVV (rest := []) C mv_X11_392 [.int r31739] (s_X0_add I96 h31738) (h31738).1 (h31738).2 rfl rfl (by decide) (Nat.le_of_ble_eq_true rfl) (by decide) dX11_soonSolved_127 (fun Y31743 h31744 => ?_)
              obtain ⟨Iy31745, Xy31746⟩ := h31744
              have q31747 := Xy31746.keep hb96_4 (by decide) 1
              have q31748 := Xy31746.keep hb96_6 (by decide) 0
              have Xz31749 : EK [0, 5, 13] P Y31743 := X96.tr (Xy31746.mono (by decide))
              have h31750 := Xy31746.at h31703
              have h31751 := Xy31746.at hb96_4
              have h31752 := Xy31746.at hb96_6
              exact J130 Y31743 b96_4 b96_6 Iy31745 Xz31749 h31751 (by omega) h31752 (by omega) (by omega) (by omega)
      refine g_iload C dX11_soonSolved_60 4 rfl ?_
      refine g_aload C dX11_soonSolved_62 3 rfl ?_
      refine g_getI C fi_X11_336 (by decide) (hb60_4).1 (hb60_4).2 dX11_soonSolved_64 ?_
      have h31753 := I60.rg (hb60_4) 1 rfl
      refine b_icmp_ge C 175 dX11_soonSolved_67 (by decide) (fun h31754 => ?_) (fun h31754 => ?_)
      · have h31754 : (pI P60 b60_4 1).toInt ≤ v60_5.toInt := h31754
        refine g_iconst (v := (-1)) C dX11_soonSolved_175 (by decide) ?_
        exact ret _ _ _ _ _ _ dX11_soonSolved_176 rfl (by decide) (by decide) ⟨I60, X60, (by decide)⟩
      · have h31754 : v60_5.toInt < (pI P60 b60_4 1).toInt := h31754
        refine g_aload C dX11_soonSolved_70 3 rfl ?_
        refine g_iload C dX11_soonSolved_72 4 rfl ?_
        refine g_callVQ (rest := []) C mv_X11_337 [.int v60_5] (s_X6_at I60 hb60_4) (hb60_4).1 (hb60_4).2 rfl rfl (by decide) (Nat.le_of_ble_eq_true rfl) (by decide) dX11_soonSolved_74 (fun r31755 Y31756 h31757 => ?_)
        obtain ⟨rfl, h31757⟩ := h31757
        rcases h31757 with rfl | ⟨b31759, rfl, h31757, hj31758⟩
        · show G _ _ _ _ _ _ _ _ _ _ (.null :: _)
          refine g_astoreN (lv' := [(6, .null), (0, .ref a0), (2, .int a2), (3, .int a3), (4, .ref b60_4), (5, .int v60_5)]) C dX11_soonSolved_77 (by decide) rfl ?_
          refine g_aloadN C dX11_soonSolved_79 0 rfl ?_
          refine g_ifnullN C 169 dX11_soonSolved_81 (by decide) ?_
          refine g_lv (lv' := [(0, .ref a0), (2, .int a2), (3, .int a3), (4, .ref b60_4), (5, .int v60_5)]) [1, 2, 3, 4, 5] rfl ?_
          exact J169 P60 b60_4 I60 X60 hb60_4 (by omega) (by omega)
        · have hj31758 : ((0 : Int) ≤ v60_5.toInt ∧ v60_5.toInt ≤ (39 : Int)) := hj31758
          show G _ _ _ _ _ _ _ _ _ _ (.ref b31759 :: _)
          refine g_astore (lv' := [(6, .ref b31759), (0, .ref a0), (2, .int a2), (3, .int a3), (4, .ref b60_4), (5, .int v60_5)]) C dX11_soonSolved_77 (by decide) rfl ?_
          refine g_aload C dX11_soonSolved_79 0 rfl ?_
          refine g_ifnull C dX11_soonSolved_81 ?_
          refine g_aload C dX11_soonSolved_84 0 rfl ?_
          refine g_getI C fi_X11_191 (by decide) (h31757).1 (h31757).2 dX11_soonSolved_86 ?_
          have h31760 := I60.rg (h31757) 0 rfl
          refine g_iload_n C dX11_soonSolved_89 rfl 2 rfl ?_
          refine b_icmp_ne C 169 dX11_soonSolved_90 (by decide) (fun h31761 => ?_) (fun h31761 => ?_)
          · have h31761 : (pI P60 b31759 0).toInt ≠ a2.toInt := ti_ne h31761
            refine g_lv (lv' := [(0, .ref a0), (2, .int a2), (3, .int a3), (4, .ref b60_4), (5, .int v60_5)]) [1, 2, 3, 4, 5] rfl ?_
            exact J169 P60 b60_4 I60 X60 hb60_4 (by omega) (by omega)
          · have h31761 : (pI P60 b31759 0).toInt = a2.toInt := congrArg Int32.toInt h31761
            refine g_iconst (v := 0) C dX11_soonSolved_93 (by decide) ?_
            refine g_istore (lv' := [(7, .int 0), (6, .ref b31759), (0, .ref a0), (2, .int a2), (3, .int a3), (4, .ref b60_4), (5, .int v60_5)]) C dX11_soonSolved_94 (by decide) rfl ?_
            refine g_lv (lv' := [(0, .ref a0), (2, .int a2), (3, .int a3), (4, .ref b60_4), (5, .int v60_5), (6, .ref b31759), (7, .int 0)]) [2, 3, 4, 5, 6, 1, 0] rfl ?_
            exact J96 _ P60 b60_4 b31759 0 (Nat.lt_succ_self _) I60 X60 hb60_4 (by omega) h31757 (by decide) (by omega) (by omega)
  have J11 : ∀ (n11 : Nat) (P11 : PP) (b11_4 : Nat) (v11_5 : Int32), (2 - v11_5.toInt).toNat < n11 → (IV P11) → (EK [0, 5, 13] P P11) → (At P11 b11_4 6) → (0 ≤ v11_5.toInt ∧ v11_5.toInt ≤ 2) → G E ({ frames := 4, cells := 0, slots := 0, locals := 256 } : Room) D cy 8 P11 0 0 11 [(0, .ref a0), (2, .int a2), (3, .int a3), (4, .ref b11_4), (5, .int v11_5)] [] := by
    intro n11
    induction n11 with
    | zero => intro P11 b11_4 v11_5 hm11 I11 X11 hb11_4 hv11_5; omega
    | succ n11 ih11 =>
      intro P11 b11_4 v11_5 hm11 I11 X11 hb11_4 hv11_5
      have h31762 := X11.at ha0
      refine g_iload C dX11_soonSolved_11 4 rfl ?_
      refine g_iconst (v := 2) C dX11_soonSolved_13 (by decide) ?_
      refine b_icmp_ge C 57 dX11_soonSolved_14 (by decide) (fun h31763 => ?_) (fun h31763 => ?_)
      · have h31763 : 2 ≤ v11_5.toInt := h31763
        refine g_iconst (v := 0) C dX11_soonSolved_57 (by decide) ?_
        refine g_istore (lv' := [(5, .int 0), (0, .ref a0), (2, .int a2), (3, .int a3), (4, .ref b11_4)]) C dX11_soonSolved_58 (by decide) rfl ?_
        refine g_lv (lv' := [(0, .ref a0), (2, .int a2), (3, .int a3), (4, .ref b11_4), (5, .int 0)]) [1, 2, 3, 4, 0] rfl ?_
        exact J60 _ P11 b11_4 0 (Nat.lt_succ_self _) I11 X11 hb11_4 (by decide)
      · have h31763 : v11_5.toInt < 2 := h31763
        refine g_aload_n C dX11_soonSolved_17 rfl 0 rfl ?_
        obtain ⟨b31764, e31765, h31766⟩ := I11.fld (h31762) 8 18 2 rfl
        refine g_getR C fi_X11_47 rfl e31765 (h31762).1 (h31762).2 dX11_soonSolved_18 ?_
        refine g_iload C dX11_soonSolved_21 4 rfl ?_
        obtain ⟨b31767, e31768, h31769⟩ := I11.elm h31766 (by decide) (v11_5.toInt.toNat) (by omega)
        refine g_aldR C h31766.1 h31766.2.1 (by decide) (ix_in h31766.2.2 (by omega)) e31768 dX11_soonSolved_23 ?_
        refine g_aload_n C dX11_soonSolved_24 rfl 0 rfl ?_
        obtain ⟨b31770, e31771, h31772⟩ := I11.fld (h31762) 0 17 2 rfl
        refine g_getR C fi_X11_11 rfl e31771 (h31762).1 (h31762).2 dX11_soonSolved_25 ?_
        refine g_iload_n C dX11_soonSolved_28 rfl 1 rfl ?_
        obtain ⟨b31773, e31774, h31775⟩ := I11.elm h31772 (by decide) (a2.toInt.toNat) (by omega)
        refine g_aldR C h31772.1 h31772.2.1 (by decide) (ix_in h31772.2.2 (by omega)) e31774 dX11_soonSolved_29 ?_
        refine g_callVV (rest := []) C mv_X11_371 [.ref b31773] (s_X5_startWith I11 h31769 h31775) (h31769).1 (h31769).2 rfl rfl (by decide) (Nat.le_of_ble_eq_true rfl) (by decide) dX11_soonSolved_30 (fun Y31777 h31778 => ?_)
        obtain ⟨Iy31779, Xy31780⟩ := h31778
        have Xz31781 : EK [0, 5, 13] P Y31777 := X11.tr (Xy31780.mono (by decide))
        have h31782 := Xy31780.at h31762
        have h31783 := Xy31780.at hb11_4
        refine g_aload_n C dX11_soonSolved_33 rfl 0 rfl ?_
        obtain ⟨b31784, e31785, h31786⟩ := Iy31779.fld (h31782) 9 16 2 rfl
        refine g_getR C fi_X11_53 rfl e31785 (h31782).1 (h31782).2 dX11_soonSolved_34 ?_
        refine g_iload C dX11_soonSolved_37 4 rfl ?_
        obtain ⟨b31787, e31788, h31789⟩ := Iy31779.elm h31786 (by decide) (v11_5.toInt.toNat) (by omega)
        refine g_aldR C h31786.1 h31786.2.1 (by decide) (ix_in h31786.2.2 (by omega)) e31788 dX11_soonSolved_39 ?_
        refine g_aload_n C dX11_soonSolved_40 rfl 0 rfl ?_
        obtain ⟨b31790, e31791, h31792⟩ := Iy31779.fld (h31782) 8 18 2 rfl
        refine g_getR C fi_X11_47 rfl e31791 (h31782).1 (h31782).2 dX11_soonSolved_41 ?_
        refine g_iload C dX11_soonSolved_44 4 rfl ?_
        obtain ⟨b31793, e31794, h31795⟩ := Iy31779.elm h31792 (by decide) (v11_5.toInt.toNat) (by omega)
        refine g_aldR C h31792.1 h31792.2.1 (by decide) (ix_in h31792.2.2 (by omega)) e31794 dX11_soonSolved_46 ?_
        refine g_iconst (v := (-1)) C dX11_soonSolved_47 (by decide) ?_
        refine g_callVV (rest := []) C mv_X11_236 [.ref b31793, .int (-1)] (s_X0_take Iy31779 h31789 h31795) (h31789).1 (h31789).2 rfl rfl (by decide) (Nat.le_of_ble_eq_true rfl) (by decide) dX11_soonSolved_48 (fun Y31797 h31798 => ?_)
        obtain ⟨Iy31799, Xy31800⟩ := h31798
        have Xz31801 : EK [0, 5, 13] P Y31797 := Xz31781.tr (Xy31800.mono (by decide))
        have h31802 := Xy31800.at h31782
        have h31803 := Xy31800.at h31783
        refine s_iinc (lv0 := [(0, .ref a0), (2, .int a2), (3, .int a3), (4, .ref b11_4)]) (m := 1) C dX11_soonSolved_51 4 rfl (by decide) rfl (by decide) (by omega) (fun z31804 h31805 => ?_)
        have h31805 : z31804.toInt = v11_5.toInt + 1 := h31805
        refine g_goto C 11 dX11_soonSolved_54 (by decide) ?_
        refine g_lv (lv' := [(0, .ref a0), (2, .int a2), (3, .int a3), (4, .ref b11_4), (5, .int z31804)]) [1, 2, 3, 4, 0] rfl ?_
        exact ih11 Y31797 b11_4 z31804 (by omega) Iy31799 Xz31801 h31803 (by omega)
  refine g_aload_n C dX11_soonSolved_0 rfl 0 rfl ?_
  obtain ⟨b31806, e31807, h31808⟩ := I.fld (ha0) 1 19 4 rfl
  refine g_getR C fi_X11_17 rfl e31807 (ha0).1 (ha0).2 dX11_soonSolved_1 ?_
  refine g_iload_n C dX11_soonSolved_4 rfl 1 rfl ?_
  obtain ⟨b31809, e31810, h31811⟩ := I.elm h31808 (by decide) (a1.toInt.toNat) (by omega)
  refine g_aldR C h31808.1 h31808.2.1 (by decide) (ix_in h31808.2.2 (by omega)) e31810 dX11_soonSolved_5 ?_
  refine g_astore (lv' := [(4, .ref b31809), (0, .ref a0), (1, .int a1), (2, .int a2), (3, .int a3)]) C dX11_soonSolved_6 (by decide) rfl ?_
  refine g_iconst (v := 0) C dX11_soonSolved_8 (by decide) ?_
  refine g_istore (lv' := [(5, .int 0), (4, .ref b31809), (0, .ref a0), (1, .int a1), (2, .int a2), (3, .int a3)]) C dX11_soonSolved_9 (by decide) rfl ?_
  refine g_lv (lv' := [(0, .ref a0), (2, .int a2), (3, .int a3), (4, .ref b31809), (5, .int 0)]) [2, 4, 5, 1, 0] rfl ?_
  exact J11 _ P b31809 0 (Nat.lt_succ_self _) I EK.rf h31811 (by decide)
theorem dX11_soon_31 : decode cX11_soon 31 = .ok (.aload_n 0, 1) := by decide +kernel
theorem dX11_soon_32 : decode cX11_soon 32 = .ok (.iload_n 1, 1) := by decide +kernel
theorem dX11_soon_33 : decode cX11_soon 33 = .ok (.iload_n 2, 1) := by decide +kernel
theorem dX11_soon_34 : decode cX11_soon 34 = .ok (.iload_n 3, 1) := by decide +kernel
theorem dX11_soon_35 : decode cX11_soon 35 = .ok (.invokevirtual 256, 3) := by decide +kernel
theorem dX11_soon_48 : decode cX11_soon 48 = .ok (.ireturn, 1) := by decide +kernel
theorem dX11_soonPeeled_0 : decode cX11_soonPeeled 0 = .ok (.aload_n 0, 1) := by decide +kernel
theorem dX11_soonPeeled_1 : decode cX11_soonPeeled 1 = .ok (.getfield 17, 3) := by decide +kernel
theorem dX11_soonPeeled_4 : decode cX11_soonPeeled 4 = .ok (.iload_n 1, 1) := by decide +kernel
theorem dX11_soonPeeled_5 : decode cX11_soonPeeled 5 = .ok (.aaload, 1) := by decide +kernel
theorem dX11_soonPeeled_6 : decode cX11_soonPeeled 6 = .ok (.astore 4, 2) := by decide +kernel
theorem dX11_soonPeeled_8 : decode cX11_soonPeeled 8 = .ok (.iconst 0, 1) := by decide +kernel
theorem dX11_soonPeeled_9 : decode cX11_soonPeeled 9 = .ok (.istore 5, 2) := by decide +kernel
theorem dX11_soonPeeled_11 : decode cX11_soonPeeled 11 = .ok (.iconst 0, 1) := by decide +kernel
theorem dX11_soonPeeled_12 : decode cX11_soonPeeled 12 = .ok (.istore 6, 2) := by decide +kernel
theorem dX11_soonPeeled_14 : decode cX11_soonPeeled 14 = .ok (.aload_n 0, 1) := by decide +kernel
theorem dX11_soonPeeled_15 : decode cX11_soonPeeled 15 = .ok (.getfield 47, 3) := by decide +kernel
theorem dX11_soonPeeled_18 : decode cX11_soonPeeled 18 = .ok (.iconst 0, 1) := by decide +kernel
theorem dX11_soonPeeled_19 : decode cX11_soonPeeled 19 = .ok (.aaload, 1) := by decide +kernel
theorem dX11_soonPeeled_20 : decode cX11_soonPeeled 20 = .ok (.aload_n 0, 1) := by decide +kernel
theorem dX11_soonPeeled_21 : decode cX11_soonPeeled 21 = .ok (.getfield 11, 3) := by decide +kernel
theorem dX11_soonPeeled_24 : decode cX11_soonPeeled 24 = .ok (.iload_n 2, 1) := by decide +kernel
theorem dX11_soonPeeled_25 : decode cX11_soonPeeled 25 = .ok (.aaload, 1) := by decide +kernel
theorem dX11_soonPeeled_26 : decode cX11_soonPeeled 26 = .ok (.invokevirtual 371, 3) := by decide +kernel
theorem dX11_soonPeeled_29 : decode cX11_soonPeeled 29 = .ok (.aload_n 0, 1) := by decide +kernel
theorem dX11_soonPeeled_30 : decode cX11_soonPeeled 30 = .ok (.getfield 47, 3) := by decide +kernel
theorem dX11_soonPeeled_33 : decode cX11_soonPeeled 33 = .ok (.iconst 1, 1) := by decide +kernel
theorem dX11_soonPeeled_34 : decode cX11_soonPeeled 34 = .ok (.aaload, 1) := by decide +kernel
theorem dX11_soonPeeled_35 : decode cX11_soonPeeled 35 = .ok (.aload_n 0, 1) := by decide +kernel
theorem dX11_soonPeeled_36 : decode cX11_soonPeeled 36 = .ok (.getfield 11, 3) := by decide +kernel
theorem dX11_soonPeeled_39 : decode cX11_soonPeeled 39 = .ok (.iload_n 2, 1) := by decide +kernel
theorem dX11_soonPeeled_40 : decode cX11_soonPeeled 40 = .ok (.aaload, 1) := by decide +kernel
theorem dX11_soonPeeled_41 : decode cX11_soonPeeled 41 = .ok (.invokevirtual 371, 3) := by decide +kernel
theorem dX11_soonPeeled_44 : decode cX11_soonPeeled 44 = .ok (.iconst 0, 1) := by decide +kernel
theorem dX11_soonPeeled_45 : decode cX11_soonPeeled 45 = .ok (.istore 7, 2) := by decide +kernel
theorem dX11_soonPeeled_47 : decode cX11_soonPeeled 47 = .ok (.iload 7, 2) := by decide +kernel
theorem dX11_soonPeeled_49 : decode cX11_soonPeeled 49 = .ok (.aload 4, 2) := by decide +kernel
theorem dX11_soonPeeled_51 : decode cX11_soonPeeled 51 = .ok (.getfield 336, 3) := by decide +kernel
theorem dX11_soonPeeled_54 : decode cX11_soonPeeled 54 = .ok (.if_icmp .ge 75, 3) := by decide +kernel
theorem dX11_soonPeeled_57 : decode cX11_soonPeeled 57 = .ok (.aload 4, 2) := by decide +kernel
theorem dX11_soonPeeled_59 : decode cX11_soonPeeled 59 = .ok (.iload 7, 2) := by decide +kernel
theorem dX11_soonPeeled_61 : decode cX11_soonPeeled 61 = .ok (.invokevirtual 337, 3) := by decide +kernel
theorem dX11_soonPeeled_64 : decode cX11_soonPeeled 64 = .ok (.astore 8, 2) := by decide +kernel
theorem dX11_soonPeeled_66 : decode cX11_soonPeeled 66 = .ok (.aload 8, 2) := by decide +kernel
theorem dX11_soonPeeled_68 : decode cX11_soonPeeled 68 = .ok (.ifnull 55, 3) := by decide +kernel
theorem dX11_soonPeeled_71 : decode cX11_soonPeeled 71 = .ok (.aload 8, 2) := by decide +kernel
theorem dX11_soonPeeled_73 : decode cX11_soonPeeled 73 = .ok (.getfield 191, 3) := by decide +kernel
theorem dX11_soonPeeled_76 : decode cX11_soonPeeled 76 = .ok (.iload_n 2, 1) := by decide +kernel
theorem dX11_soonPeeled_77 : decode cX11_soonPeeled 77 = .ok (.if_icmp .ne 46, 3) := by decide +kernel
theorem dX11_soonPeeled_80 : decode cX11_soonPeeled 80 = .ok (.aload_n 0, 1) := by decide +kernel
theorem dX11_soonPeeled_81 : decode cX11_soonPeeled 81 = .ok (.aload 8, 2) := by decide +kernel
theorem dX11_soonPeeled_83 : decode cX11_soonPeeled 83 = .ok (.iconst 0, 1) := by decide +kernel
theorem dX11_soonPeeled_84 : decode cX11_soonPeeled 84 = .ok (.iload 7, 2) := by decide +kernel
theorem dX11_soonPeeled_86 : decode cX11_soonPeeled 86 = .ok (.iload 5, 2) := by decide +kernel
theorem dX11_soonPeeled_88 : decode cX11_soonPeeled 88 = .ok (.invokevirtual 385, 3) := by decide +kernel
theorem dX11_soonPeeled_129 : decode cX11_soonPeeled 129 = .ok (.iconst (-1), 1) := by decide +kernel
theorem dX11_soonPeeled_130 : decode cX11_soonPeeled 130 = .ok (.ireturn, 1) := by decide +kernel
theorem dX11_spreadWith_0 : decode cX11_spreadWith 0 = .ok (.aload_n 1, 1) := by decide +kernel
theorem dX11_spreadWith_1 : decode cX11_spreadWith 1 = .ok (.iload_n 2, 1) := by decide +kernel
theorem dX11_spreadWith_2 : decode cX11_spreadWith 2 = .ok (.invokevirtual 365, 3) := by decide +kernel
theorem dX11_spreadWith_5 : decode cX11_spreadWith 5 = .ok (.ifCond .ne 6, 3) := by decide +kernel
theorem dX11_spreadWith_8 : decode cX11_spreadWith 8 = .ok (.iload 4, 2) := by decide +kernel
theorem dX11_spreadWith_10 : decode cX11_spreadWith 10 = .ok (.ireturn, 1) := by decide +kernel
theorem dX11_spreadWith_11 : decode cX11_spreadWith 11 = .ok (.aload_n 0, 1) := by decide +kernel
theorem dX11_spreadWith_12 : decode cX11_spreadWith 12 = .ok (.getfield 47, 3) := by decide +kernel
theorem dX11_spreadWith_15 : decode cX11_spreadWith 15 = .ok (.iload_n 2, 1) := by decide +kernel
theorem dX11_spreadWith_16 : decode cX11_spreadWith 16 = .ok (.aaload, 1) := by decide +kernel
theorem dX11_spreadWith_17 : decode cX11_spreadWith 17 = .ok (.aload_n 1, 1) := by decide +kernel
theorem dX11_spreadWith_18 : decode cX11_spreadWith 18 = .ok (.aload_n 1, 1) := by decide +kernel
theorem dX11_spreadWith_19 : decode cX11_spreadWith 19 = .ok (.getfield 191, 3) := by decide +kernel
theorem dX11_spreadWith_22 : decode cX11_spreadWith 22 = .ok (.iload_n 2, 1) := by decide +kernel
theorem dX11_spreadWith_23 : decode cX11_spreadWith 23 = .ok (.invokevirtual 375, 3) := by decide +kernel
theorem dX11_spreadWith_26 : decode cX11_spreadWith 26 = .ok (.iload_n 3, 1) := by decide +kernel
theorem dX11_spreadWith_27 : decode cX11_spreadWith 27 = .ok (.invokevirtual 378, 3) := by decide +kernel
theorem dX11_spreadWith_30 : decode cX11_spreadWith 30 = .ok (.aload_n 0, 1) := by decide +kernel
theorem dX11_spreadWith_31 : decode cX11_spreadWith 31 = .ok (.getfield 47, 3) := by decide +kernel
theorem dX11_spreadWith_34 : decode cX11_spreadWith 34 = .ok (.iload_n 2, 1) := by decide +kernel
theorem dX11_spreadWith_35 : decode cX11_spreadWith 35 = .ok (.aaload, 1) := by decide +kernel
theorem dX11_spreadWith_36 : decode cX11_spreadWith 36 = .ok (.iload 4, 2) := by decide +kernel
theorem dX11_spreadWith_38 : decode cX11_spreadWith 38 = .ok (.invokevirtual 389, 3) := by decide +kernel
theorem dX11_spreadWith_41 : decode cX11_spreadWith 41 = .ok (.ireturn, 1) := by decide +kernel
set_option maxHeartbeats 4000000 in
set_option maxRecDepth 100000 in
theorem s_X11_spreadWith {P : PP} {a0 : Nat} {a1 : Nat} {a2 : Int32} {a3 : Int32} {a4 : Int32} (I : IV P) (ha0 : At P a0 11) (ha1 : At P a1 7) (ha2 : 0 ≤ a2.toInt ∧ a2.toInt ≤ 1) : CtrI yX11_spreadWith cX11_spreadWith 5 (some Jvm.ClassFile.FieldType.int) ({ frames := 3, cells := 0, slots := 0, locals := 192 } : Room) 0 0 P [.ref a0, .ref a1, .int a2, .int a3, .int a4] (fun r P2 => IV P2 ∧ EK [5, 13] P P2 ∧ (True)) := by
  refine enI (lv := [(0, .ref a0), (1, .ref a1), (2, .int a2), (3, .int a3), (4, .int a4)]) (by decide) (Nat.le_of_ble_eq_true rfl) rfl (fun E D cy C Ci0 ret => ?_)
  refine g_aload_n C dX11_spreadWith_0 rfl 1 rfl ?_
  refine g_iload_n C dX11_spreadWith_1 rfl 2 rfl ?_
  refine g_callVI (rest := []) C mv_X11_365 [.int a2] (s_X7_hasOctet I ha1) (ha1).1 (ha1).2 rfl rfl (by decide) (Nat.le_of_ble_eq_true rfl) (by decide) dX11_spreadWith_2 (fun r31923 Y31924 h31925 => ?_)
  obtain ⟨rfl, h31925⟩ := h31925
  have h31925 : 0 ≤ r31923.toInt ∧ r31923.toInt ≤ 1 := h31925
  refine b_if_ne C 11 dX11_spreadWith_5 (by decide) (fun h31926 => ?_) (fun h31926 => ?_)
  · have h31926 : r31923.toInt ≠ 0 := ti_ne h31926
    refine g_aload_n C dX11_spreadWith_11 rfl 0 rfl ?_
    obtain ⟨b31927, e31928, h31929⟩ := I.fld (ha0) 8 18 2 rfl
    refine g_getR C fi_X11_47 rfl e31928 (ha0).1 (ha0).2 dX11_spreadWith_12 ?_
    refine g_iload_n C dX11_spreadWith_15 rfl 2 rfl ?_
    obtain ⟨b31930, e31931, h31932⟩ := I.elm h31929 (by decide) (a2.toInt.toNat) (by omega)
    refine g_aldR C h31929.1 h31929.2.1 (by decide) (ix_in h31929.2.2 (by omega)) e31931 dX11_spreadWith_16 ?_
    refine g_aload_n C dX11_spreadWith_17 rfl 1 rfl ?_
    refine g_aload_n C dX11_spreadWith_18 rfl 1 rfl ?_
    refine g_getI C fi_X11_191 (by decide) (ha1).1 (ha1).2 dX11_spreadWith_19 ?_
    have h31933 := I.rg (ha1) 0 rfl
    refine g_iload_n C dX11_spreadWith_22 rfl 2 rfl ?_
    refine g_callVI (rest := [.ref b31930]) C mv_X11_375 [.int (pI P a1 0), .int a2] (s_X7_equation I ha1) (ha1).1 (ha1).2 rfl rfl (by decide) (Nat.le_of_ble_eq_true rfl) (by decide) dX11_spreadWith_23 (fun r31934 Y31935 h31936 => ?_)
    obtain ⟨rfl, h31936⟩ := h31936
    have h31936 : True := h31936
    refine g_iload_n C dX11_spreadWith_26 rfl 3 rfl ?_
    refine g_callVV (rest := []) C mv_X11_378 [.int r31934, .int a3] (s_X5_add I h31932) (h31932).1 (h31932).2 rfl rfl (by decide) (Nat.le_of_ble_eq_true rfl) (by decide) dX11_spreadWith_27 (fun Y31938 h31939 => ?_)
    obtain ⟨Iy31940, Xy31941⟩ := h31939
    have q31942 := Xy31941.keep ha1 (by decide) 0
    have Xz31943 : EK [5, 13] P Y31938 := Xy31941.mono (by decide)
    have h31944 := Xy31941.at ha0
    have h31945 := Xy31941.at ha1
    refine g_aload_n C dX11_spreadWith_30 rfl 0 rfl ?_
    obtain ⟨b31946, e31947, h31948⟩ := Iy31940.fld (h31944) 8 18 2 rfl
    refine g_getR C fi_X11_47 rfl e31947 (h31944).1 (h31944).2 dX11_spreadWith_31 ?_
    refine g_iload_n C dX11_spreadWith_34 rfl 2 rfl ?_
    obtain ⟨b31949, e31950, h31951⟩ := Iy31940.elm h31948 (by decide) (a2.toInt.toNat) (by omega)
    refine g_aldR C h31948.1 h31948.2.1 (by decide) (ix_in h31948.2.2 (by omega)) e31950 dX11_spreadWith_35 ?_
    refine g_iload C dX11_spreadWith_36 4 rfl ?_
    refine g_callVI (rest := []) C mv_X11_389 [.int a4] (s_X5_spread Iy31940 h31951) (h31951).1 (h31951).2 rfl rfl (by decide) (Nat.le_of_ble_eq_true rfl) (by decide) dX11_spreadWith_38 (fun r31952 Y31953 h31954 => ?_)
    obtain ⟨rfl, h31954⟩ := h31954
    have h31954 : True := h31954
    exact ret _ _ _ _ _ _ dX11_spreadWith_41 rfl (by decide) (by decide) ⟨Iy31940, Xz31943, trivial⟩
  · have h31926 : r31923.toInt = 0 := congrArg Int32.toInt h31926
    refine g_iload C dX11_spreadWith_8 4 rfl ?_
    exact ret _ _ _ _ _ _ dX11_spreadWith_10 rfl (by decide) (by decide) ⟨I, EK.rf, trivial⟩
theorem dX11_soonPeeled_91 : decode cX11_soonPeeled 91 = .ok (.istore 5, 2) := by decide +kernel
theorem dX11_soonPeeled_93 : decode cX11_soonPeeled 93 = .ok (.aload_n 0, 1) := by decide +kernel
theorem dX11_soonPeeled_94 : decode cX11_soonPeeled 94 = .ok (.aload 8, 2) := by decide +kernel
theorem dX11_soonPeeled_96 : decode cX11_soonPeeled 96 = .ok (.iconst 1, 1) := by decide +kernel
theorem dX11_soonPeeled_97 : decode cX11_soonPeeled 97 = .ok (.iload 7, 2) := by decide +kernel
theorem dX11_soonPeeled_99 : decode cX11_soonPeeled 99 = .ok (.iload 6, 2) := by decide +kernel
theorem dX11_soonPeeled_101 : decode cX11_soonPeeled 101 = .ok (.invokevirtual 385, 3) := by decide +kernel
theorem dX11_soonPeeled_104 : decode cX11_soonPeeled 104 = .ok (.istore 6, 2) := by decide +kernel
theorem dX11_soonPeeled_106 : decode cX11_soonPeeled 106 = .ok (.iload 5, 2) := by decide +kernel
theorem dX11_soonPeeled_108 : decode cX11_soonPeeled 108 = .ok (.iload 6, 2) := by decide +kernel
theorem dX11_soonPeeled_110 : decode cX11_soonPeeled 110 = .ok (.iand, 1) := by decide +kernel
theorem dX11_soonPeeled_111 : decode cX11_soonPeeled 111 = .ok (.iconst 1, 1) := by decide +kernel
theorem dX11_soonPeeled_112 : decode cX11_soonPeeled 112 = .ok (.iload_n 3, 1) := by decide +kernel
theorem dX11_soonPeeled_113 : decode cX11_soonPeeled 113 = .ok (.ishl, 1) := by decide +kernel
theorem dX11_soonPeeled_114 : decode cX11_soonPeeled 114 = .ok (.iand, 1) := by decide +kernel
theorem dX11_soonPeeled_115 : decode cX11_soonPeeled 115 = .ok (.ifCond .eq 8, 3) := by decide +kernel
theorem dX11_soonPeeled_118 : decode cX11_soonPeeled 118 = .ok (.iload 7, 2) := by decide +kernel
theorem dX11_soonPeeled_120 : decode cX11_soonPeeled 120 = .ok (.iconst 1, 1) := by decide +kernel
theorem dX11_soonPeeled_121 : decode cX11_soonPeeled 121 = .ok (.iadd, 1) := by decide +kernel
theorem dX11_soonPeeled_122 : decode cX11_soonPeeled 122 = .ok (.ireturn, 1) := by decide +kernel
theorem dX11_soonPeeled_123 : decode cX11_soonPeeled 123 = .ok (.iinc 7 1, 3) := by decide +kernel
theorem dX11_soonPeeled_126 : decode cX11_soonPeeled 126 = .ok (.goto (-79), 3) := by decide +kernel
set_option maxHeartbeats 4000000 in
set_option maxRecDepth 100000 in
theorem s_X11_soonPeeled {P : PP} {a0 : Nat} {a1 : Int32} {a2 : Int32} {a3 : Int32} (I : IV P) (ha0 : At P a0 11) (ha1 : 0 ≤ a1.toInt ∧ a1.toInt ≤ 3) (ha2 : 0 ≤ a2.toInt ∧ a2.toInt ≤ 1) : CtrI yX11_soonPeeled cX11_soonPeeled 9 (some Jvm.ClassFile.FieldType.int) ({ frames := 4, cells := 0, slots := 0, locals := 256 } : Room) 0 0 P [.ref a0, .int a1, .int a2, .int a3] (fun r P2 => IV P2 ∧ EK [5, 13] P P2 ∧ (-1 ≤ r.toInt ∧ r.toInt ≤ 40)) := by
  refine enI (lv := [(0, .ref a0), (1, .int a1), (2, .int a2), (3, .int a3)]) (by decide) (Nat.le_of_ble_eq_true rfl) rfl (fun E D cy C Ci0 ret => ?_)
  have J47 : ∀ (n47 : Nat) (P47 : PP) (b47_4 : Nat) (v47_5 : Int32) (v47_6 : Int32) (v47_7 : Int32), (40 - v47_7.toInt).toNat < n47 → (IV P47) → (EK [5, 13] P P47) → (At P47 b47_4 6) → (0 ≤ v47_7.toInt ∧ v47_7.toInt ≤ 40) → G E ({ frames := 4, cells := 0, slots := 0, locals := 256 } : Room) D cy 9 P47 0 0 47 [(0, .ref a0), (2, .int a2), (3, .int a3), (4, .ref b47_4), (5, .int v47_5), (6, .int v47_6), (7, .int v47_7)] [] := by
    intro n47
    induction n47 with
    | zero => intro P47 b47_4 v47_5 v47_6 v47_7 hm47 I47 X47 hb47_4 hv47_7; omega
    | succ n47 ih47 =>
      intro P47 b47_4 v47_5 v47_6 v47_7 hm47 I47 X47 hb47_4 hv47_7
      have h32676 := X47.at ha0
      have J123 : ∀ (P123 : PP) (b123_4 : Nat) (v123_5 : Int32) (v123_6 : Int32), (IV P123) → (EK [5, 13] P P123) → (At P123 b123_4 6) → (0 ≤ v47_7.toInt ∧ v47_7.toInt ≤ 39) → (1 ≤ (pI P123 b123_4 1).toInt ∧ (pI P123 b123_4 1).toInt ≤ 40) → G E ({ frames := 4, cells := 0, slots := 0, locals := 256 } : Room) D cy 9 P123 0 0 123 [(0, .ref a0), (2, .int a2), (3, .int a3), (4, .ref b123_4), (5, .int v123_5), (6, .int v123_6), (7, .int v47_7)] [] := by
        intro P123 b123_4 v123_5 v123_6 I123 X123 hb123_4 hv123_7 hq123_0
        have h32677 := X123.at ha0
        refine s_iinc (lv0 := [(0, .ref a0), (2, .int a2), (3, .int a3), (4, .ref b123_4), (5, .int v123_5), (6, .int v123_6)]) (m := 1) C dX11_soonPeeled_123 6 rfl (by decide) rfl (by decide) (by omega) (fun z32678 h32679 => ?_)
        have h32679 : z32678.toInt = v47_7.toInt + 1 := h32679
        refine g_goto C 47 dX11_soonPeeled_126 (by decide) ?_
        refine g_lv (lv' := [(0, .ref a0), (2, .int a2), (3, .int a3), (4, .ref b123_4), (5, .int v123_5), (6, .int v123_6), (7, .int z32678)]) [1, 2, 3, 4, 5, 6, 0] rfl ?_
        exact ih47 P123 b123_4 v123_5 v123_6 z32678 (by omega) I123 X123 hb123_4 (by omega)
      refine g_iload C dX11_soonPeeled_47 6 rfl ?_
      refine g_aload C dX11_soonPeeled_49 3 rfl ?_
      refine g_getI C fi_X11_336 (by decide) (hb47_4).1 (hb47_4).2 dX11_soonPeeled_51 ?_
      have h32680 := I47.rg (hb47_4) 1 rfl
      refine b_icmp_ge C 129 dX11_soonPeeled_54 (by decide) (fun h32681 => ?_) (fun h32681 => ?_)
      · have h32681 : (pI P47 b47_4 1).toInt ≤ v47_7.toInt := h32681
        refine g_iconst (v := (-1)) C dX11_soonPeeled_129 (by decide) ?_
        exact ret _ _ _ _ _ _ dX11_soonPeeled_130 rfl (by decide) (by decide) ⟨I47, X47, (by decide)⟩
      · have h32681 : v47_7.toInt < (pI P47 b47_4 1).toInt := h32681
        refine g_aload C dX11_soonPeeled_57 3 rfl ?_
        refine g_iload C dX11_soonPeeled_59 6 rfl ?_
        refine g_callVQ (rest := []) C mv_X11_337 [.int v47_7] (s_X6_at I47 hb47_4) (hb47_4).1 (hb47_4).2 rfl rfl (by decide) (Nat.le_of_ble_eq_true rfl) (by decide) dX11_soonPeeled_61 (fun r32682 Y32683 h32684 => ?_)
        obtain ⟨rfl, h32684⟩ := h32684
        rcases h32684 with rfl | ⟨b32686, rfl, h32684, hj32685⟩
        · show G _ _ _ _ _ _ _ _ _ _ (.null :: _)
          refine g_astoreN (lv' := [(8, .null), (0, .ref a0), (2, .int a2), (3, .int a3), (4, .ref b47_4), (5, .int v47_5), (6, .int v47_6), (7, .int v47_7)]) C dX11_soonPeeled_64 (by decide) rfl ?_
          refine g_aloadN C dX11_soonPeeled_66 0 rfl ?_
          refine g_ifnullN C 123 dX11_soonPeeled_68 (by decide) ?_
          refine g_lv (lv' := [(0, .ref a0), (2, .int a2), (3, .int a3), (4, .ref b47_4), (5, .int v47_5), (6, .int v47_6), (7, .int v47_7)]) [1, 2, 3, 4, 5, 6, 7] rfl ?_
          exact J123 P47 b47_4 v47_5 v47_6 I47 X47 hb47_4 (by omega) (by omega)
        · have hj32685 : ((0 : Int) ≤ v47_7.toInt ∧ v47_7.toInt ≤ (39 : Int)) := hj32685
          show G _ _ _ _ _ _ _ _ _ _ (.ref b32686 :: _)
          refine g_astore (lv' := [(8, .ref b32686), (0, .ref a0), (2, .int a2), (3, .int a3), (4, .ref b47_4), (5, .int v47_5), (6, .int v47_6), (7, .int v47_7)]) C dX11_soonPeeled_64 (by decide) rfl ?_
          refine g_aload C dX11_soonPeeled_66 0 rfl ?_
          refine g_ifnull C dX11_soonPeeled_68 ?_
          refine g_aload C dX11_soonPeeled_71 0 rfl ?_
          refine g_getI C fi_X11_191 (by decide) (h32684).1 (h32684).2 dX11_soonPeeled_73 ?_
          have h32687 := I47.rg (h32684) 0 rfl
          refine g_iload_n C dX11_soonPeeled_76 rfl 2 rfl ?_
          refine b_icmp_ne C 123 dX11_soonPeeled_77 (by decide) (fun h32688 => ?_) (fun h32688 => ?_)
          · have h32688 : (pI P47 b32686 0).toInt ≠ a2.toInt := ti_ne h32688
            refine g_lv (lv' := [(0, .ref a0), (2, .int a2), (3, .int a3), (4, .ref b47_4), (5, .int v47_5), (6, .int v47_6), (7, .int v47_7)]) [1, 2, 3, 4, 5, 6, 7] rfl ?_
            exact J123 P47 b47_4 v47_5 v47_6 I47 X47 hb47_4 (by omega) (by omega)
          · have h32688 : (pI P47 b32686 0).toInt = a2.toInt := congrArg Int32.toInt h32688
            refine g_aload_n C dX11_soonPeeled_80 rfl 1 rfl ?_
            refine g_aload C dX11_soonPeeled_81 0 rfl ?_
            refine g_iconst (v := 0) C dX11_soonPeeled_83 (by decide) ?_
            refine g_iload C dX11_soonPeeled_84 7 rfl ?_
            refine g_iload C dX11_soonPeeled_86 5 rfl ?_
            refine g_callVI (rest := []) C mv_X11_385 [.ref b32686, .int 0, .int v47_7, .int v47_5] (s_X11_spreadWith I47 h32676 h32684 (by decide)) (h32676).1 (h32676).2 rfl rfl (by decide) (Nat.le_of_ble_eq_true rfl) (by decide) dX11_soonPeeled_88 (fun r32689 Y32690 h32691 => ?_)
            obtain ⟨Iy32692, Xy32693, h32691⟩ := h32691
            have q32694 := Xy32693.keep hb47_4 (by decide) 1
            have q32695 := Xy32693.keep h32684 (by decide) 0
            have Xz32696 : EK [5, 13] P Y32690 := X47.tr (Xy32693.mono (by decide))
            have h32697 := Xy32693.at h32676
            have h32698 := Xy32693.at h32684
            have h32699 := Xy32693.at hb47_4
            have h32691 : True := h32691
            refine g_istore (lv' := [(5, .int r32689), (8, .ref b32686), (0, .ref a0), (2, .int a2), (3, .int a3), (4, .ref b47_4), (6, .int v47_6), (7, .int v47_7)]) C dX11_soonPeeled_91 (by decide) rfl ?_
            refine g_aload_n C dX11_soonPeeled_93 rfl 2 rfl ?_
            refine g_aload C dX11_soonPeeled_94 1 rfl ?_
            refine g_iconst (v := 1) C dX11_soonPeeled_96 (by decide) ?_
            refine g_iload C dX11_soonPeeled_97 7 rfl ?_
            refine g_iload C dX11_soonPeeled_99 6 rfl ?_
            refine g_callVI (rest := []) C mv_X11_385 [.ref b32686, .int 1, .int v47_7, .int v47_6] (s_X11_spreadWith Iy32692 h32697 h32698 (by decide)) (h32697).1 (h32697).2 rfl rfl (by decide) (Nat.le_of_ble_eq_true rfl) (by decide) dX11_soonPeeled_101 (fun r32700 Y32701 h32702 => ?_)
            obtain ⟨Iy32703, Xy32704, h32702⟩ := h32702
            have q32705 := Xy32704.keep h32699 (by decide) 1
            have q32706 := Xy32704.keep h32698 (by decide) 0
            have Xz32707 : EK [5, 13] P Y32701 := Xz32696.tr (Xy32704.mono (by decide))
            have h32708 := Xy32704.at h32697
            have h32709 := Xy32704.at h32698
            have h32710 := Xy32704.at h32699
            have h32702 : True := h32702
            refine g_istore (lv' := [(6, .int r32700), (5, .int r32689), (8, .ref b32686), (0, .ref a0), (2, .int a2), (3, .int a3), (4, .ref b47_4), (7, .int v47_7)]) C dX11_soonPeeled_104 (by decide) rfl ?_
            refine g_iload C dX11_soonPeeled_106 1 rfl ?_
            refine g_iload C dX11_soonPeeled_108 0 rfl ?_
            refine a_iand C dX11_soonPeeled_110 (fun z32711 => ?_)
            refine g_iconst (v := 1) C dX11_soonPeeled_111 (by decide) ?_
            refine g_iload_n C dX11_soonPeeled_112 rfl 5 rfl ?_
            refine a_ishl C dX11_soonPeeled_113 (fun z32713 => ?_)
            refine a_iand C dX11_soonPeeled_114 (fun z32715 => ?_)
            have u32718 := ti_rng z32715
            refine b_if_eq C 123 dX11_soonPeeled_115 (by decide) (fun h32717 => ?_) (fun h32717 => ?_)
            · have h32717 : z32715.toInt = 0 := congrArg Int32.toInt h32717
              refine g_lv (lv' := [(0, .ref a0), (2, .int a2), (3, .int a3), (4, .ref b47_4), (5, .int r32689), (6, .int r32700), (7, .int v47_7)]) [3, 4, 5, 6, 1, 0, 7] rfl ?_
              exact J123 Y32701 b47_4 r32689 r32700 Iy32703 Xz32707 h32710 (by omega) (by omega)
            · have h32717 : z32715.toInt ≠ 0 := ti_ne h32717
              refine g_iload C dX11_soonPeeled_118 7 rfl ?_
              refine g_iconst (v := 1) C dX11_soonPeeled_120 (by decide) ?_
              refine s_iadd C dX11_soonPeeled_121 (by show -2147483648 ≤ v47_7.toInt + 1 ∧ v47_7.toInt + 1 ≤ 2147483647; omega) (fun z32719 h32720 => ?_)
              have h32720 : z32719.toInt = v47_7.toInt + 1 := h32720
              exact ret _ _ _ _ _ _ dX11_soonPeeled_122 rfl (by decide) (by decide) ⟨Iy32703, Xz32707, (by omega)⟩
  refine g_aload_n C dX11_soonPeeled_0 rfl 0 rfl ?_
  obtain ⟨b32721, e32722, h32723⟩ := I.fld (ha0) 1 19 4 rfl
  refine g_getR C fi_X11_17 rfl e32722 (ha0).1 (ha0).2 dX11_soonPeeled_1 ?_
  refine g_iload_n C dX11_soonPeeled_4 rfl 1 rfl ?_
  obtain ⟨b32724, e32725, h32726⟩ := I.elm h32723 (by decide) (a1.toInt.toNat) (by omega)
  refine g_aldR C h32723.1 h32723.2.1 (by decide) (ix_in h32723.2.2 (by omega)) e32725 dX11_soonPeeled_5 ?_
  refine g_astore (lv' := [(4, .ref b32724), (0, .ref a0), (1, .int a1), (2, .int a2), (3, .int a3)]) C dX11_soonPeeled_6 (by decide) rfl ?_
  refine g_iconst (v := 0) C dX11_soonPeeled_8 (by decide) ?_
  refine g_istore (lv' := [(5, .int 0), (4, .ref b32724), (0, .ref a0), (1, .int a1), (2, .int a2), (3, .int a3)]) C dX11_soonPeeled_9 (by decide) rfl ?_
  refine g_iconst (v := 0) C dX11_soonPeeled_11 (by decide) ?_
  refine g_istore (lv' := [(6, .int 0), (5, .int 0), (4, .ref b32724), (0, .ref a0), (1, .int a1), (2, .int a2), (3, .int a3)]) C dX11_soonPeeled_12 (by decide) rfl ?_
  refine g_aload_n C dX11_soonPeeled_14 rfl 3 rfl ?_
  obtain ⟨b32727, e32728, h32729⟩ := I.fld (ha0) 8 18 2 rfl
  refine g_getR C fi_X11_47 rfl e32728 (ha0).1 (ha0).2 dX11_soonPeeled_15 ?_
  refine g_iconst (v := 0) C dX11_soonPeeled_18 (by decide) ?_
  obtain ⟨b32730, e32731, h32732⟩ := I.elm h32729 (by decide) 0 (by decide)
  refine g_aldR C h32729.1 h32729.2.1 (by decide) (IX.litn (j := 0) h32729.2.2 rfl (by decide) (by decide)) e32731 dX11_soonPeeled_19 ?_
  refine g_aload_n C dX11_soonPeeled_20 rfl 3 rfl ?_
  obtain ⟨b32733, e32734, h32735⟩ := I.fld (ha0) 0 17 2 rfl
  refine g_getR C fi_X11_11 rfl e32734 (ha0).1 (ha0).2 dX11_soonPeeled_21 ?_
  refine g_iload_n C dX11_soonPeeled_24 rfl 5 rfl ?_
  obtain ⟨b32736, e32737, h32738⟩ := I.elm h32735 (by decide) (a2.toInt.toNat) (by omega)
  refine g_aldR C h32735.1 h32735.2.1 (by decide) (ix_in h32735.2.2 (by omega)) e32737 dX11_soonPeeled_25 ?_
  refine g_callVV (rest := []) C mv_X11_371 [.ref b32736] (s_X5_startWith I h32732 h32738) (h32732).1 (h32732).2 rfl rfl (by decide) (Nat.le_of_ble_eq_true rfl) (by decide) dX11_soonPeeled_26 (fun Y32740 h32741 => ?_)
  obtain ⟨Iy32742, Xy32743⟩ := h32741
  have Xz32744 : EK [5, 13] P Y32740 := Xy32743.mono (by decide)
  have h32745 := Xy32743.at ha0
  have h32746 := Xy32743.at h32726
  refine g_aload_n C dX11_soonPeeled_29 rfl 3 rfl ?_
  obtain ⟨b32747, e32748, h32749⟩ := Iy32742.fld (h32745) 8 18 2 rfl
  refine g_getR C fi_X11_47 rfl e32748 (h32745).1 (h32745).2 dX11_soonPeeled_30 ?_
  refine g_iconst (v := 1) C dX11_soonPeeled_33 (by decide) ?_
  obtain ⟨b32750, e32751, h32752⟩ := Iy32742.elm h32749 (by decide) 1 (by decide)
  refine g_aldR C h32749.1 h32749.2.1 (by decide) (IX.litn (j := 1) h32749.2.2 rfl (by decide) (by decide)) e32751 dX11_soonPeeled_34 ?_
  refine g_aload_n C dX11_soonPeeled_35 rfl 3 rfl ?_
  obtain ⟨b32753, e32754, h32755⟩ := Iy32742.fld (h32745) 0 17 2 rfl
  refine g_getR C fi_X11_11 rfl e32754 (h32745).1 (h32745).2 dX11_soonPeeled_36 ?_
  refine g_iload_n C dX11_soonPeeled_39 rfl 5 rfl ?_
  obtain ⟨b32756, e32757, h32758⟩ := Iy32742.elm h32755 (by decide) (a2.toInt.toNat) (by omega)
  refine g_aldR C h32755.1 h32755.2.1 (by decide) (ix_in h32755.2.2 (by omega)) e32757 dX11_soonPeeled_40 ?_
  refine g_callVV (rest := []) C mv_X11_371 [.ref b32756] (s_X5_startWith Iy32742 h32752 h32758) (h32752).1 (h32752).2 rfl rfl (by decide) (Nat.le_of_ble_eq_true rfl) (by decide) dX11_soonPeeled_41 (fun Y32760 h32761 => ?_)
  obtain ⟨Iy32762, Xy32763⟩ := h32761
  have Xz32764 : EK [5, 13] P Y32760 := Xz32744.tr (Xy32763.mono (by decide))
  have h32765 := Xy32763.at h32745
  have h32766 := Xy32763.at h32746
  refine g_iconst (v := 0) C dX11_soonPeeled_44 (by decide) ?_
  refine g_istore (lv' := [(7, .int 0), (6, .int 0), (5, .int 0), (4, .ref b32724), (0, .ref a0), (1, .int a1), (2, .int a2), (3, .int a3)]) C dX11_soonPeeled_45 (by decide) rfl ?_
  refine g_lv (lv' := [(0, .ref a0), (2, .int a2), (3, .int a3), (4, .ref b32724), (5, .int 0), (6, .int 0), (7, .int 0)]) [4, 6, 7, 3, 2, 1, 0] rfl ?_
  exact J47 _ Y32760 b32724 0 0 0 (Nat.lt_succ_self _) Iy32762 Xz32764 h32766 (by decide)
theorem dX11_soon_24 : decode cX11_soon 24 = .ok (.iconst (-1), 1) := by decide +kernel
theorem dX11_soon_25 : decode cX11_soon 25 = .ok (.ireturn, 1) := by decide +kernel
theorem dX11_soon_38 : decode cX11_soon 38 = .ok (.goto 10, 3) := by decide +kernel
set_option maxHeartbeats 4000000 in
set_option maxRecDepth 100000 in
theorem s_X11_soon {P : PP} {a0 : Nat} {a1 : Int32} {a2 : Int32} {a3 : Int32} {a4 : Int32} (I : IV P) (ha0 : At P a0 11) : CtrI yX11_soon cX11_soon 5 (some Jvm.ClassFile.FieldType.int) ({ frames := 5, cells := 0, slots := 0, locals := 320 } : Room) 0 0 P [.ref a0, .int a1, .int a2, .int a3, .int a4] (fun r P2 => IV P2 ∧ EK [0, 5, 13] P P2 ∧ (-1 ≤ r.toInt ∧ r.toInt ≤ 41)) := by
  refine enI (lv := [(0, .ref a0), (1, .int a1), (2, .int a2), (3, .int a3), (4, .int a4)]) (by decide) (Nat.le_of_ble_eq_true rfl) rfl (fun E D cy C Ci0 ret => ?_)
  have J24 : G E ({ frames := 5, cells := 0, slots := 0, locals := 320 } : Room) D cy 5 P 0 0 24 [] [] := by
    refine g_iconst (v := (-1)) C dX11_soon_24 (by decide) ?_
    exact ret _ _ _ _ _ _ dX11_soon_25 rfl (by decide) (by decide) ⟨I, EK.rf, (by decide)⟩
  refine g_iload_n C dX11_soon_0 rfl 1 rfl ?_
  refine g_callSI (b := 0) (ci := 0) (rest := []) C ms_X11_158 [.int a1] (s_X11_isQuarter I) rfl rfl (by decide) (Nat.le_of_ble_eq_true rfl) (by decide) dX11_soon_1 (fun r32797 Y32798 h32799 => ?_)
  obtain ⟨rfl, h32799⟩ := h32799
  obtain ⟨h32799, hi32800⟩ := h32799
  have hi32800 : r32797.toInt = 0 ∨ (((0 : Int) ≤ a1.toInt ∧ a1.toInt ≤ (3 : Int))) := hi32800
  have h32799 : 0 ≤ r32797.toInt ∧ r32797.toInt ≤ 1 := h32799
  refine b_if_eq C 24 dX11_soon_4 (by decide) (fun h32801 => ?_) (fun h32801 => ?_)
  · have h32801 : r32797.toInt = 0 := congrArg Int32.toInt h32801
    clear hi32800
    refine g_lv (lv' := []) [] rfl ?_
    exact J24 
  · have h32801 : r32797.toInt ≠ 0 := ti_ne h32801
    replace hi32800 := hi32800.resolve_left (by omega)
    refine g_aload_n C dX11_soon_7 rfl 0 rfl ?_
    refine g_iload_n C dX11_soon_8 rfl 2 rfl ?_
    refine g_iload_n C dX11_soon_9 rfl 3 rfl ?_
    refine g_callVI (rest := []) C mv_X11_155 [.int a2, .int a3] (s_X11_isPageOf I ha0) (ha0).1 (ha0).2 rfl rfl (by decide) (Nat.le_of_ble_eq_true rfl) (by decide) dX11_soon_10 (fun r32802 Y32803 h32804 => ?_)
    obtain ⟨rfl, h32804⟩ := h32804
    obtain ⟨h32804, hi32805⟩ := h32804
    have hi32805 : r32802.toInt = 0 ∨ (((0 : Int) ≤ a2.toInt ∧ a2.toInt ≤ (1 : Int)) ∧ ((0 : Int) ≤ a3.toInt ∧ a3.toInt ≤ (19 : Int))) := hi32805
    have h32804 : 0 ≤ r32802.toInt ∧ r32802.toInt ≤ 1 := h32804
    refine b_if_eq C 24 dX11_soon_13 (by decide) (fun h32806 => ?_) (fun h32806 => ?_)
    · have h32806 : r32802.toInt = 0 := congrArg Int32.toInt h32806
      clear hi32805
      refine g_lv (lv' := []) [] rfl ?_
      exact J24 
    · have h32806 : r32802.toInt ≠ 0 := ti_ne h32806
      replace hi32805 := hi32805.resolve_left (by omega)
      refine g_iload C dX11_soon_16 4 rfl ?_
      refine g_callSI (b := 0) (ci := 0) (rest := []) C ms_X11_249 [.int a4] (s_X11_isHow I) rfl rfl (by decide) (Nat.le_of_ble_eq_true rfl) (by decide) dX11_soon_18 (fun r32807 Y32808 h32809 => ?_)
      obtain ⟨rfl, h32809⟩ := h32809
      have h32809 : 0 ≤ r32807.toInt ∧ r32807.toInt ≤ 1 := h32809
      refine b_if_ne C 26 dX11_soon_21 (by decide) (fun h32810 => ?_) (fun h32810 => ?_)
      · have h32810 : r32807.toInt ≠ 0 := ti_ne h32810
        refine g_iload C dX11_soon_26 4 rfl ?_
        have u32812 := ti_rng a4
        refine b_if_ne C 41 dX11_soon_28 (by decide) (fun h32811 => ?_) (fun h32811 => ?_)
        · have h32811 : a4.toInt ≠ 0 := ti_ne h32811
          refine g_aload_n C dX11_soon_41 rfl 0 rfl ?_
          refine g_iload_n C dX11_soon_42 rfl 1 rfl ?_
          refine g_iload_n C dX11_soon_43 rfl 2 rfl ?_
          refine g_iload_n C dX11_soon_44 rfl 3 rfl ?_
          refine g_callVI (rest := []) C mv_X11_260 [.int a1, .int a2, .int a3] (s_X11_soonSolved I ha0 (by omega) (by omega)) (ha0).1 (ha0).2 rfl rfl (by decide) (Nat.le_of_ble_eq_true rfl) (by decide) dX11_soon_45 (fun r32813 Y32814 h32815 => ?_)
          obtain ⟨Iy32816, Xy32817, h32815⟩ := h32815
          have Xz32818 : EK [0, 5, 13] P Y32814 := Xy32817.mono (by decide)
          have h32819 := Xy32817.at ha0
          have h32815 : -1 ≤ r32813.toInt ∧ r32813.toInt ≤ 41 := h32815
          exact ret _ _ _ _ _ _ dX11_soon_48 rfl (by decide) (by decide) ⟨Iy32816, Xz32818, (by omega)⟩
        · have h32811 : a4.toInt = 0 := congrArg Int32.toInt h32811
          refine g_aload_n C dX11_soon_31 rfl 0 rfl ?_
          refine g_iload_n C dX11_soon_32 rfl 1 rfl ?_
          refine g_iload_n C dX11_soon_33 rfl 2 rfl ?_
          refine g_iload_n C dX11_soon_34 rfl 3 rfl ?_
          refine g_callVI (rest := []) C mv_X11_256 [.int a1, .int a2, .int a3] (s_X11_soonPeeled I ha0 (by omega) (by omega)) (ha0).1 (ha0).2 rfl rfl (by decide) (Nat.le_of_ble_eq_true rfl) (by decide) dX11_soon_35 (fun r32820 Y32821 h32822 => ?_)
          obtain ⟨Iy32823, Xy32824, h32822⟩ := h32822
          have Xz32825 : EK [0, 5, 13] P Y32821 := Xy32824.mono (by decide)
          have h32826 := Xy32824.at ha0
          have h32822 : -1 ≤ r32820.toInt ∧ r32820.toInt ≤ 40 := h32822
          refine g_goto C 48 dX11_soon_38 (by decide) ?_
          exact ret _ _ _ _ _ _ dX11_soon_48 rfl (by decide) (by decide) ⟨Iy32823, Xz32825, (by omega)⟩
      · have h32810 : r32807.toInt = 0 := congrArg Int32.toInt h32810
        refine g_lv (lv' := []) [] rfl ?_
        exact J24 
theorem dX11_swap_0 : decode cX11_swap 0 = .ok (.iload_n 1, 1) := by decide +kernel
theorem dX11_swap_1 : decode cX11_swap 1 = .ok (.invokestatic 158, 3) := by decide +kernel
theorem dX11_swap_4 : decode cX11_swap 4 = .ok (.ifCond .eq 25, 3) := by decide +kernel
theorem dX11_swap_7 : decode cX11_swap 7 = .ok (.iload_n 2, 1) := by decide +kernel
theorem dX11_swap_8 : decode cX11_swap 8 = .ok (.invokestatic 158, 3) := by decide +kernel
theorem dX11_swap_11 : decode cX11_swap 11 = .ok (.ifCond .eq 18, 3) := by decide +kernel
theorem dX11_swap_14 : decode cX11_swap 14 = .ok (.iload_n 1, 1) := by decide +kernel
theorem dX11_swap_15 : decode cX11_swap 15 = .ok (.iload_n 2, 1) := by decide +kernel
theorem dX11_swap_16 : decode cX11_swap 16 = .ok (.if_icmp .eq 13, 3) := by decide +kernel
theorem dX11_swap_19 : decode cX11_swap 19 = .ok (.iload_n 3, 1) := by decide +kernel
theorem dX11_swap_20 : decode cX11_swap 20 = .ok (.ifCond .lt 9, 3) := by decide +kernel
theorem dX11_swap_23 : decode cX11_swap 23 = .ok (.iload_n 3, 1) := by decide +kernel
theorem dX11_swap_24 : decode cX11_swap 24 = .ok (.bipush 40, 2) := by decide +kernel
theorem dX11_swap_26 : decode cX11_swap 26 = .ok (.if_icmp .le 5, 3) := by decide +kernel
theorem dX11_swap_29 : decode cX11_swap 29 = .ok (.iconst (-1), 1) := by decide +kernel
theorem dX11_swap_30 : decode cX11_swap 30 = .ok (.ireturn, 1) := by decide +kernel
theorem dX11_swap_31 : decode cX11_swap 31 = .ok (.aload_n 0, 1) := by decide +kernel
theorem dX11_swap_32 : decode cX11_swap 32 = .ok (.getfield 17, 3) := by decide +kernel
theorem dX11_swap_35 : decode cX11_swap 35 = .ok (.iload_n 1, 1) := by decide +kernel
theorem dX11_swap_36 : decode cX11_swap 36 = .ok (.aaload, 1) := by decide +kernel
theorem dX11_swap_37 : decode cX11_swap 37 = .ok (.astore 4, 2) := by decide +kernel
theorem dX11_swap_39 : decode cX11_swap 39 = .ok (.aload_n 0, 1) := by decide +kernel
theorem dX11_swap_40 : decode cX11_swap 40 = .ok (.getfield 17, 3) := by decide +kernel
theorem dX11_swap_43 : decode cX11_swap 43 = .ok (.iload_n 2, 1) := by decide +kernel
theorem dX11_swap_44 : decode cX11_swap 44 = .ok (.aaload, 1) := by decide +kernel
theorem dX11_swap_45 : decode cX11_swap 45 = .ok (.astore 5, 2) := by decide +kernel
theorem dX11_swap_47 : decode cX11_swap 47 = .ok (.iconst 0, 1) := by decide +kernel
theorem dX11_swap_48 : decode cX11_swap 48 = .ok (.istore 6, 2) := by decide +kernel
theorem dX11_swap_50 : decode cX11_swap 50 = .ok (.iconst 0, 1) := by decide +kernel
theorem dX11_swap_51 : decode cX11_swap 51 = .ok (.istore 7, 2) := by decide +kernel
theorem dX11_swap_53 : decode cX11_swap 53 = .ok (.iload 7, 2) := by decide +kernel
theorem dX11_swap_55 : decode cX11_swap 55 = .ok (.aload 4, 2) := by decide +kernel
theorem dX11_swap_57 : decode cX11_swap 57 = .ok (.getfield 336, 3) := by decide +kernel
theorem dX11_swap_60 : decode cX11_swap 60 = .ok (.if_icmp .ge 53, 3) := by decide +kernel
theorem dX11_swap_63 : decode cX11_swap 63 = .ok (.iload 6, 2) := by decide +kernel
theorem dX11_swap_65 : decode cX11_swap 65 = .ok (.iload_n 3, 1) := by decide +kernel
theorem dX11_swap_66 : decode cX11_swap 66 = .ok (.if_icmp .ge 47, 3) := by decide +kernel
theorem dX11_swap_69 : decode cX11_swap 69 = .ok (.aload 4, 2) := by decide +kernel
theorem dX11_swap_71 : decode cX11_swap 71 = .ok (.iload 7, 2) := by decide +kernel
theorem dX11_swap_73 : decode cX11_swap 73 = .ok (.invokevirtual 337, 3) := by decide +kernel
theorem dX11_swap_76 : decode cX11_swap 76 = .ok (.astore 8, 2) := by decide +kernel
theorem dX11_swap_78 : decode cX11_swap 78 = .ok (.aload 8, 2) := by decide +kernel
theorem dX11_swap_80 : decode cX11_swap 80 = .ok (.ifnull 27, 3) := by decide +kernel
theorem dX11_swap_83 : decode cX11_swap 83 = .ok (.aload 5, 2) := by decide +kernel
theorem dX11_swap_85 : decode cX11_swap 85 = .ok (.aload 8, 2) := by decide +kernel
theorem dX11_swap_87 : decode cX11_swap 87 = .ok (.invokevirtual 341, 3) := by decide +kernel
theorem dX11_swap_90 : decode cX11_swap 90 = .ok (.ifCond .ne 17, 3) := by decide +kernel
theorem dX11_swap_93 : decode cX11_swap 93 = .ok (.aload 5, 2) := by decide +kernel
theorem dX11_swap_95 : decode cX11_swap 95 = .ok (.aload 8, 2) := by decide +kernel
theorem dX11_swap_97 : decode cX11_swap 97 = .ok (.invokevirtual 165, 3) := by decide +kernel
theorem dX11_swap_100 : decode cX11_swap 100 = .ok (.iconst (-1), 1) := by decide +kernel
theorem dX11_swap_101 : decode cX11_swap 101 = .ok (.if_icmp .eq 6, 3) := by decide +kernel
theorem dX11_swap_104 : decode cX11_swap 104 = .ok (.iinc 6 1, 3) := by decide +kernel
theorem dX11_swap_107 : decode cX11_swap 107 = .ok (.iinc 7 1, 3) := by decide +kernel
theorem dX11_swap_110 : decode cX11_swap 110 = .ok (.goto (-57), 3) := by decide +kernel
theorem dX11_swap_113 : decode cX11_swap 113 = .ok (.iload 6, 2) := by decide +kernel
theorem dX11_swap_115 : decode cX11_swap 115 = .ok (.ireturn, 1) := by decide +kernel
set_option maxHeartbeats 4000000 in
set_option maxRecDepth 100000 in
theorem s_X11_swap {P : PP} {a0 : Nat} {a1 : Int32} {a2 : Int32} {a3 : Int32} (I : IV P) (ha0 : At P a0 11) : CtrI yX11_swap cX11_swap 9 (some Jvm.ClassFile.FieldType.int) ({ frames := 3, cells := 0, slots := 0, locals := 192 } : Room) 0 0 P [.ref a0, .int a1, .int a2, .int a3] (fun r P2 => IV P2 ∧ EK [6] P P2 ∧ (-1 ≤ r.toInt ∧ r.toInt ≤ 40)) := by
  refine enI (lv := [(0, .ref a0), (1, .int a1), (2, .int a2), (3, .int a3)]) (by decide) (Nat.le_of_ble_eq_true rfl) rfl (fun E D cy C Ci0 ret => ?_)
  have J113 : ∀ (P113 : PP) (v113_6 : Int32), (IV P113) → (EK [6] P P113) → (0 ≤ v113_6.toInt ∧ v113_6.toInt ≤ 40) → G E ({ frames := 3, cells := 0, slots := 0, locals := 192 } : Room) D cy 9 P113 0 0 113 [(6, .int v113_6)] [] := by
    intro P113 v113_6 I113 X113 hv113_6
    have h33299 := X113.at ha0
    refine g_iload C dX11_swap_113 0 rfl ?_
    exact ret _ _ _ _ _ _ dX11_swap_115 rfl (by decide) (by decide) ⟨I113, X113, (by omega)⟩
  have J53 : ∀ (n53 : Nat) (P53 : PP) (b53_4 : Nat) (b53_5 : Nat) (v53_6 : Int32) (v53_7 : Int32), (40 - v53_7.toInt).toNat < n53 → (IV P53) → (EK [6] P P53) → (0 ≤ a3.toInt ∧ a3.toInt ≤ 40) → (At P53 b53_4 6) → (At P53 b53_5 6) → (0 ≤ v53_6.toInt ∧ v53_6.toInt ≤ 40) → (0 ≤ v53_7.toInt ∧ v53_7.toInt ≤ 40) → G E ({ frames := 3, cells := 0, slots := 0, locals := 192 } : Room) D cy 9 P53 0 0 53 [(3, .int a3), (4, .ref b53_4), (5, .ref b53_5), (6, .int v53_6), (7, .int v53_7)] [] := by
    intro n53
    induction n53 with
    | zero => intro P53 b53_4 b53_5 v53_6 v53_7 hm53 I53 X53 hv53_3 hb53_4 hb53_5 hv53_6 hv53_7; omega
    | succ n53 ih53 =>
      intro P53 b53_4 b53_5 v53_6 v53_7 hm53 I53 X53 hv53_3 hb53_4 hb53_5 hv53_6 hv53_7
      have h33300 := X53.at ha0
      have J107 : ∀ (P107 : PP) (b107_4 : Nat) (b107_5 : Nat) (v107_6 : Int32), (IV P107) → (EK [6] P P107) → (1 ≤ a3.toInt ∧ a3.toInt ≤ 40) → (At P107 b107_4 6) → (At P107 b107_5 6) → (0 ≤ v107_6.toInt ∧ v107_6.toInt ≤ 40) → (0 ≤ v53_7.toInt ∧ v53_7.toInt ≤ 39) → G E ({ frames := 3, cells := 0, slots := 0, locals := 192 } : Room) D cy 9 P107 0 0 107 [(3, .int a3), (4, .ref b107_4), (5, .ref b107_5), (6, .int v107_6), (7, .int v53_7)] [] := by
        intro P107 b107_4 b107_5 v107_6 I107 X107 hv107_3 hb107_4 hb107_5 hv107_6 hv107_7
        have h33301 := X107.at ha0
        refine s_iinc (lv0 := [(3, .int a3), (4, .ref b107_4), (5, .ref b107_5), (6, .int v107_6)]) (m := 1) C dX11_swap_107 4 rfl (by decide) rfl (by decide) (by omega) (fun z33302 h33303 => ?_)
        have h33303 : z33302.toInt = v53_7.toInt + 1 := h33303
        refine g_goto C 53 dX11_swap_110 (by decide) ?_
        refine g_lv (lv' := [(3, .int a3), (4, .ref b107_4), (5, .ref b107_5), (6, .int v107_6), (7, .int z33302)]) [1, 2, 3, 4, 0] rfl ?_
        exact ih53 P107 b107_4 b107_5 v107_6 z33302 (by omega) I107 X107 (by omega) hb107_4 hb107_5 (by omega) (by omega)
      refine g_iload C dX11_swap_53 4 rfl ?_
      refine g_aload C dX11_swap_55 1 rfl ?_
      refine g_getI C fi_X11_336 (by decide) (hb53_4).1 (hb53_4).2 dX11_swap_57 ?_
      have h33304 := I53.rg (hb53_4) 1 rfl
      refine b_icmp_ge C 113 dX11_swap_60 (by decide) (fun h33305 => ?_) (fun h33305 => ?_)
      · have h33305 : (pI P53 b53_4 1).toInt ≤ v53_7.toInt := h33305
        refine g_lv (lv' := [(6, .int v53_6)]) [3] rfl ?_
        exact J113 P53 v53_6 I53 X53 (by omega)
      · have h33305 : v53_7.toInt < (pI P53 b53_4 1).toInt := h33305
        refine g_iload C dX11_swap_63 3 rfl ?_
        refine g_iload_n C dX11_swap_65 rfl 0 rfl ?_
        refine b_icmp_ge C 113 dX11_swap_66 (by decide) (fun h33306 => ?_) (fun h33306 => ?_)
        · have h33306 : a3.toInt ≤ v53_6.toInt := h33306
          refine g_lv (lv' := [(6, .int v53_6)]) [3] rfl ?_
          exact J113 P53 v53_6 I53 X53 (by omega)
        · have h33306 : v53_6.toInt < a3.toInt := h33306
          refine g_aload C dX11_swap_69 1 rfl ?_
          refine g_iload C dX11_swap_71 4 rfl ?_
          refine g_callVQ (rest := []) C mv_X11_337 [.int v53_7] (s_X6_at I53 hb53_4) (hb53_4).1 (hb53_4).2 rfl rfl (by decide) (Nat.le_of_ble_eq_true rfl) (by decide) dX11_swap_73 (fun r33307 Y33308 h33309 => ?_)
          obtain ⟨rfl, h33309⟩ := h33309
          rcases h33309 with rfl | ⟨b33311, rfl, h33309, hj33310⟩
          · show G _ _ _ _ _ _ _ _ _ _ (.null :: _)
            refine g_astoreN (lv' := [(8, .null), (3, .int a3), (4, .ref b53_4), (5, .ref b53_5), (6, .int v53_6), (7, .int v53_7)]) C dX11_swap_76 (by decide) rfl ?_
            refine g_aloadN C dX11_swap_78 0 rfl ?_
            refine g_ifnullN C 107 dX11_swap_80 (by decide) ?_
            refine g_lv (lv' := [(3, .int a3), (4, .ref b53_4), (5, .ref b53_5), (6, .int v53_6), (7, .int v53_7)]) [1, 2, 3, 4, 5] rfl ?_
            exact J107 P53 b53_4 b53_5 v53_6 I53 X53 (by omega) hb53_4 hb53_5 (by omega) (by omega)
          · have hj33310 : ((0 : Int) ≤ v53_7.toInt ∧ v53_7.toInt ≤ (39 : Int)) := hj33310
            show G _ _ _ _ _ _ _ _ _ _ (.ref b33311 :: _)
            refine g_astore (lv' := [(8, .ref b33311), (3, .int a3), (4, .ref b53_4), (5, .ref b53_5), (6, .int v53_6), (7, .int v53_7)]) C dX11_swap_76 (by decide) rfl ?_
            refine g_aload C dX11_swap_78 0 rfl ?_
            refine g_ifnull C dX11_swap_80 ?_
            refine g_aload C dX11_swap_83 3 rfl ?_
            refine g_aload C dX11_swap_85 0 rfl ?_
            refine g_callVI (rest := []) C mv_X11_341 [.ref b33311] (s_X6_hasAlike I53 hb53_5 h33309) (hb53_5).1 (hb53_5).2 rfl rfl (by decide) (Nat.le_of_ble_eq_true rfl) (by decide) dX11_swap_87 (fun r33312 Y33313 h33314 => ?_)
            obtain ⟨rfl, h33314⟩ := h33314
            have h33314 : 0 ≤ r33312.toInt ∧ r33312.toInt ≤ 1 := h33314
            refine b_if_ne C 107 dX11_swap_90 (by decide) (fun h33315 => ?_) (fun h33315 => ?_)
            · have h33315 : r33312.toInt ≠ 0 := ti_ne h33315
              refine g_lv (lv' := [(3, .int a3), (4, .ref b53_4), (5, .ref b53_5), (6, .int v53_6), (7, .int v53_7)]) [1, 2, 3, 4, 5] rfl ?_
              exact J107 P53 b53_4 b53_5 v53_6 I53 X53 (by omega) hb53_4 hb53_5 (by omega) (by omega)
            · have h33315 : r33312.toInt = 0 := congrArg Int32.toInt h33315
              refine g_aload C dX11_swap_93 3 rfl ?_
              refine g_aload C dX11_swap_95 0 rfl ?_
              refine g_callVI (rest := []) C mv_X11_165 [.ref b33311] (s_X6_put I53 hb53_5 h33309) (hb53_5).1 (hb53_5).2 rfl rfl (by decide) (Nat.le_of_ble_eq_true rfl) (by decide) dX11_swap_97 (fun r33316 Y33317 h33318 => ?_)
              obtain ⟨Iy33319, Xy33320, h33318⟩ := h33318
              have Xz33321 : EK [6] P Y33317 := X53.tr (Xy33320.mono (by decide))
              have h33322 := Xy33320.at h33300
              have h33323 := Xy33320.at h33309
              have h33324 := Xy33320.at hb53_4
              have h33325 := Xy33320.at hb53_5
              have h33318 : -1 ≤ r33316.toInt ∧ r33316.toInt ≤ 39 := h33318
              refine g_iconst (v := (-1)) C dX11_swap_100 (by decide) ?_
              refine b_icmp_eq C 107 dX11_swap_101 (by decide) (fun h33326 => ?_) (fun h33326 => ?_)
              · have h33326 : r33316.toInt = (-1) := congrArg Int32.toInt h33326
                refine g_lv (lv' := [(3, .int a3), (4, .ref b53_4), (5, .ref b53_5), (6, .int v53_6), (7, .int v53_7)]) [1, 2, 3, 4, 5] rfl ?_
                exact J107 Y33317 b53_4 b53_5 v53_6 Iy33319 Xz33321 (by omega) h33324 h33325 (by omega) (by omega)
              · have h33326 : r33316.toInt ≠ (-1) := ti_ne h33326
                refine s_iinc (lv0 := [(8, .ref b33311), (3, .int a3), (4, .ref b53_4), (5, .ref b53_5), (7, .int v53_7)]) (m := 1) C dX11_swap_104 4 rfl (by decide) rfl (by decide) (by omega) (fun z33327 h33328 => ?_)
                have h33328 : z33327.toInt = v53_6.toInt + 1 := h33328
                refine g_lv (lv' := [(3, .int a3), (4, .ref b53_4), (5, .ref b53_5), (6, .int z33327), (7, .int v53_7)]) [2, 3, 4, 0, 5] rfl ?_
                exact J107 Y33317 b53_4 b53_5 z33327 Iy33319 Xz33321 (by omega) h33324 h33325 (by omega) (by omega)
  have J29 : G E ({ frames := 3, cells := 0, slots := 0, locals := 192 } : Room) D cy 9 P 0 0 29 [] [] := by
    refine g_iconst (v := (-1)) C dX11_swap_29 (by decide) ?_
    exact ret _ _ _ _ _ _ dX11_swap_30 rfl (by decide) (by decide) ⟨I, EK.rf, (by decide)⟩
  refine g_iload_n C dX11_swap_0 rfl 1 rfl ?_
  refine g_callSI (b := 0) (ci := 0) (rest := []) C ms_X11_158 [.int a1] (s_X11_isQuarter I) rfl rfl (by decide) (Nat.le_of_ble_eq_true rfl) (by decide) dX11_swap_1 (fun r33329 Y33330 h33331 => ?_)
  obtain ⟨rfl, h33331⟩ := h33331
  obtain ⟨h33331, hi33332⟩ := h33331
  have hi33332 : r33329.toInt = 0 ∨ (((0 : Int) ≤ a1.toInt ∧ a1.toInt ≤ (3 : Int))) := hi33332
  have h33331 : 0 ≤ r33329.toInt ∧ r33329.toInt ≤ 1 := h33331
  refine b_if_eq C 29 dX11_swap_4 (by decide) (fun h33333 => ?_) (fun h33333 => ?_)
  · have h33333 : r33329.toInt = 0 := congrArg Int32.toInt h33333
    clear hi33332
    refine g_lv (lv' := []) [] rfl ?_
    exact J29 
  · have h33333 : r33329.toInt ≠ 0 := ti_ne h33333
    replace hi33332 := hi33332.resolve_left (by omega)
    refine g_iload_n C dX11_swap_7 rfl 2 rfl ?_
    refine g_callSI (b := 0) (ci := 0) (rest := []) C ms_X11_158 [.int a2] (s_X11_isQuarter I) rfl rfl (by decide) (Nat.le_of_ble_eq_true rfl) (by decide) dX11_swap_8 (fun r33334 Y33335 h33336 => ?_)
    obtain ⟨rfl, h33336⟩ := h33336
    obtain ⟨h33336, hi33337⟩ := h33336
    have hi33337 : r33334.toInt = 0 ∨ (((0 : Int) ≤ a2.toInt ∧ a2.toInt ≤ (3 : Int))) := hi33337
    have h33336 : 0 ≤ r33334.toInt ∧ r33334.toInt ≤ 1 := h33336
    refine b_if_eq C 29 dX11_swap_11 (by decide) (fun h33338 => ?_) (fun h33338 => ?_)
    · have h33338 : r33334.toInt = 0 := congrArg Int32.toInt h33338
      clear hi33337
      refine g_lv (lv' := []) [] rfl ?_
      exact J29 
    · have h33338 : r33334.toInt ≠ 0 := ti_ne h33338
      replace hi33337 := hi33337.resolve_left (by omega)
      refine g_iload_n C dX11_swap_14 rfl 1 rfl ?_
      refine g_iload_n C dX11_swap_15 rfl 2 rfl ?_
      refine b_icmp_eq C 29 dX11_swap_16 (by decide) (fun h33339 => ?_) (fun h33339 => ?_)
      · have h33339 : a1.toInt = a2.toInt := congrArg Int32.toInt h33339
        refine g_lv (lv' := []) [] rfl ?_
        exact J29 
      · have h33339 : a1.toInt ≠ a2.toInt := ti_ne h33339
        refine g_iload_n C dX11_swap_19 rfl 3 rfl ?_
        have u33341 := ti_rng a3
        refine b_if_lt C 29 dX11_swap_20 (by decide) (fun h33340 => ?_) (fun h33340 => ?_)
        · have h33340 : a3.toInt < 0 := h33340
          refine g_lv (lv' := []) [] rfl ?_
          exact J29 
        · have h33340 : 0 ≤ a3.toInt := h33340
          refine g_iload_n C dX11_swap_23 rfl 3 rfl ?_
          refine g_bipush (v := 40) C dX11_swap_24 (by decide) ?_
          have u33343 := ti_rng a3
          refine b_icmp_le C 31 dX11_swap_26 (by decide) (fun h33342 => ?_) (fun h33342 => ?_)
          · have h33342 : a3.toInt ≤ 40 := h33342
            refine g_aload_n C dX11_swap_31 rfl 0 rfl ?_
            obtain ⟨b33344, e33345, h33346⟩ := I.fld (ha0) 1 19 4 rfl
            refine g_getR C fi_X11_17 rfl e33345 (ha0).1 (ha0).2 dX11_swap_32 ?_
            refine g_iload_n C dX11_swap_35 rfl 1 rfl ?_
            obtain ⟨b33347, e33348, h33349⟩ := I.elm h33346 (by decide) (a1.toInt.toNat) (by omega)
            refine g_aldR C h33346.1 h33346.2.1 (by decide) (ix_in h33346.2.2 (by omega)) e33348 dX11_swap_36 ?_
            refine g_astore (lv' := [(4, .ref b33347), (0, .ref a0), (1, .int a1), (2, .int a2), (3, .int a3)]) C dX11_swap_37 (by decide) rfl ?_
            refine g_aload_n C dX11_swap_39 rfl 1 rfl ?_
            refine g_getR C fi_X11_17 rfl e33345 (ha0).1 (ha0).2 dX11_swap_40 ?_
            refine g_iload_n C dX11_swap_43 rfl 3 rfl ?_
            obtain ⟨b33350, e33351, h33352⟩ := I.elm h33346 (by decide) (a2.toInt.toNat) (by omega)
            refine g_aldR C h33346.1 h33346.2.1 (by decide) (ix_in h33346.2.2 (by omega)) e33351 dX11_swap_44 ?_
            refine g_astore (lv' := [(5, .ref b33350), (4, .ref b33347), (0, .ref a0), (1, .int a1), (2, .int a2), (3, .int a3)]) C dX11_swap_45 (by decide) rfl ?_
            refine g_iconst (v := 0) C dX11_swap_47 (by decide) ?_
            refine g_istore (lv' := [(6, .int 0), (5, .ref b33350), (4, .ref b33347), (0, .ref a0), (1, .int a1), (2, .int a2), (3, .int a3)]) C dX11_swap_48 (by decide) rfl ?_
            refine g_iconst (v := 0) C dX11_swap_50 (by decide) ?_
            refine g_istore (lv' := [(7, .int 0), (6, .int 0), (5, .ref b33350), (4, .ref b33347), (0, .ref a0), (1, .int a1), (2, .int a2), (3, .int a3)]) C dX11_swap_51 (by decide) rfl ?_
            refine g_lv (lv' := [(3, .int a3), (4, .ref b33347), (5, .ref b33350), (6, .int 0), (7, .int 0)]) [7, 3, 2, 1, 0] rfl ?_
            exact J53 _ P b33347 b33350 0 0 (Nat.lt_succ_self _) I EK.rf (by omega) h33349 h33352 (by decide) (by decide)
          · have h33342 : 40 < a3.toInt := h33342
            refine g_lv (lv' := []) [] rfl ?_
            exact J29 
