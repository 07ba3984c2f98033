theorem dX11_scatter_64 : decode cX11_scatter 64 = .ok (.iadd, 1) := by decide +kernel
theorem dX11_scatter_65 : decode cX11_scatter 65 = .ok (.istore 4, 2) := by decide +kernel
theorem dX11_scatter_67 : decode cX11_scatter 67 = .ok (.iinc 5 1, 3) := by decide +kernel
theorem dX11_scatter_70 : decode cX11_scatter 70 = .ok (.goto (-33), 3) := by decide +kernel
set_option maxHeartbeats 4000000 in
set_option maxRecDepth 100000 in
theorem s_X11_scatter {P : PP} {a0 : Nat} {a1 : Int32} {a2 : Int32} {a3 : Int32} (I : IV P) (ha0 : At P a0 11) : CtrI yX11_scatter cX11_scatter 6 (some Jvm.ClassFile.FieldType.int) ({ frames := 7, cells := 100, slots := 700, locals := 448 } : Room) 100 700 P [.ref a0, .int a1, .int a2, .int a3] (fun r P2 => IV P2 ∧ EK [1, 6, 7, 13] P P2 ∧ (True)) := by
  refine enI (lv := [(0, .ref a0), (1, .int a1), (2, .int a2), (3, .int a3)]) (by decide) (Nat.le_of_ble_eq_true rfl) rfl (fun E D cy C Ci0 ret => ?_)
  have J37 : ∀ (n37 : Nat) (P37 : PP) (v37_4 : Int32) (v37_5 : Int32) (c37 : Nat) (d37 : Nat), (a3.toInt - v37_5.toInt + 1).toNat < n37 → (IV P37) → (EK [1, 6, 7, 13] P P37) → (0 ≤ a1.toInt ∧ a1.toInt ≤ 1) → (0 ≤ a3.toInt ∧ a3.toInt ≤ 9999) → (0 ≤ v37_5.toInt ∧ v37_5.toInt ≤ 10000) → (c37 + 1 * (a3.toInt - v37_5.toInt + 1).toNat ≤ 100) → (d37 + 7 * (a3.toInt - v37_5.toInt + 1).toNat ≤ 700) → G E ({ frames := 7, cells := 100, slots := 700, locals := 448 } : Room) D cy 6 P37 c37 d37 37 [(0, .ref a0), (1, .int a1), (3, .int a3), (4, .int v37_4), (5, .int v37_5)] [] := by
    intro n37
    induction n37 with
    | zero => intro P37 v37_4 v37_5 c37 d37 hm37 I37 X37 hv37_1 hv37_3 hv37_5 rel37_0 rel37_1; omega
    | succ n37 ih37 =>
      intro P37 v37_4 v37_5 c37 d37 hm37 I37 X37 hv37_1 hv37_3 hv37_5 rel37_0 rel37_1
      have h29110 := X37.at ha0
      have J67 : ∀ (P67 : PP) (v67_4 : Int32), (IV P67) → (EK [1, 6, 7, 13] P P67) → (0 ≤ a1.toInt ∧ a1.toInt ≤ 1) → (0 ≤ a3.toInt ∧ a3.toInt ≤ 9999) → (0 ≤ v37_5.toInt ∧ v37_5.toInt ≤ 9999) → (v37_5.toInt ≤ a3.toInt) → G E ({ frames := 7, cells := 100, slots := 700, locals := 448 } : Room) D cy 6 P67 (c37 + 1) (d37 + 7) 67 [(0, .ref a0), (1, .int a1), (3, .int a3), (4, .int v67_4), (5, .int v37_5)] [] := by
        intro P67 v67_4 I67 X67 hv67_1 hv67_3 hv67_5 rel67_0
        have h29111 := X67.at ha0
        refine s_iinc (lv0 := [(0, .ref a0), (1, .int a1), (3, .int a3), (4, .int v67_4)]) (m := 1) C dX11_scatter_67 4 rfl (by decide) rfl (by decide) (by omega) (fun z29112 h29113 => ?_)
        have h29113 : z29112.toInt = v37_5.toInt + 1 := h29113
        refine g_goto C 37 dX11_scatter_70 (by decide) ?_
        refine g_lv (lv' := [(0, .ref a0), (1, .int a1), (3, .int a3), (4, .int v67_4), (5, .int z29112)]) [1, 2, 3, 4, 0] rfl ?_
        exact ih37 P67 v67_4 z29112 (c37 + 1) (d37 + 7) (by omega) I67 X67 (by omega) (by omega) (by omega) (by show (c37 + 1) + 1 * (a3.toInt - z29112.toInt + 1).toNat ≤ 100; omega) (by show (d37 + 7) + 7 * (a3.toInt - z29112.toInt + 1).toNat ≤ 700; omega)
      refine g_iload C dX11_scatter_37 4 rfl ?_
      refine g_iload_n C dX11_scatter_39 rfl 2 rfl ?_
      refine b_icmp_gt C 73 dX11_scatter_40 (by decide) (fun h29114 => ?_) (fun h29114 => ?_)
      · have h29114 : a3.toInt < v37_5.toInt := h29114
        refine g_iload C dX11_scatter_73 3 rfl ?_
        exact ret _ _ _ _ _ _ dX11_scatter_75 rfl (by omega) (by omega) ⟨I37, X37, trivial⟩
      · have h29114 : v37_5.toInt ≤ a3.toInt := h29114
        refine g_aload_n C dX11_scatter_43 rfl 0 rfl ?_
        refine g_callVI (rest := []) C mv_X11_319 [] (s_X11_isRoomAnywhere I37 h29110) (h29110).1 (h29110).2 rfl rfl (by decide) (Nat.le_of_ble_eq_true rfl) (by show _ + _ ≤ 100 ∧ _ + _ ≤ 700; omega) dX11_scatter_44 (fun r29115 Y29116 h29117 => ?_)
        obtain ⟨rfl, h29117⟩ := h29117
        have h29117 : 0 ≤ r29115.toInt ∧ r29115.toInt ≤ 1 := h29117
        refine b_if_eq C 67 dX11_scatter_47 (by decide) (fun h29118 => ?_) (fun h29118 => ?_)
        · have h29118 : r29115.toInt = 0 := congrArg Int32.toInt h29118
          refine g_widen (cs2 := (c37 + 1)) (sl2 := (d37 + 7)) (by omega) (by omega) ?_
          exact J67 P37 v37_4 I37 X37 (by omega) (by omega) (by omega) (by show v37_5.toInt ≤ a3.toInt; omega)
        · have h29118 : r29115.toInt ≠ 0 := ti_ne h29118
          refine g_iload C dX11_scatter_50 3 rfl ?_
          refine g_aload_n C dX11_scatter_52 rfl 0 rfl ?_
          refine g_aload_n C dX11_scatter_53 rfl 0 rfl ?_
          obtain ⟨b29119, e29120, h29121⟩ := I37.fld (h29110) 0 17 2 rfl
          refine g_getR C fi_X11_11 rfl e29120 (h29110).1 (h29110).2 dX11_scatter_54 ?_
          refine g_iload_n C dX11_scatter_57 rfl 1 rfl ?_
          obtain ⟨b29122, e29123, h29124⟩ := I37.elm h29121 (by decide) (a1.toInt.toNat) (by omega)
          refine g_aldR C h29121.1 h29121.2.1 (by decide) (ix_in h29121.2.2 (by omega)) e29123 dX11_scatter_58 ?_
          refine g_iload C dX11_scatter_59 4 rfl ?_
          refine g_callVI (rest := [.int v37_4]) C mv_X11_323 [.ref b29122, .int v37_5] (s_X11_throwOne I37 h29110 h29124) (h29110).1 (h29110).2 rfl rfl (by decide) (Nat.le_of_ble_eq_true rfl) (by show _ + _ ≤ 100 ∧ _ + _ ≤ 700; omega) dX11_scatter_61 (fun r29125 Y29126 h29127 => ?_)
          obtain ⟨Iy29128, Xy29129, h29127⟩ := h29127
          have Xz29130 : EK [1, 6, 7, 13] P Y29126 := X37.tr (Xy29129.mono (by decide))
          have h29131 := Xy29129.at h29110
          have h29127 : True := h29127
          refine a_iadd C dX11_scatter_64 (fun z29132 => ?_)
          refine g_istore (lv' := [(4, .int z29132), (0, .ref a0), (1, .int a1), (3, .int a3), (5, .int v37_5)]) C dX11_scatter_65 (by decide) rfl ?_
          refine g_lv (lv' := [(0, .ref a0), (1, .int a1), (3, .int a3), (4, .int z29132), (5, .int v37_5)]) [1, 2, 3, 0, 4] rfl ?_
          exact J67 Y29126 z29132 Iy29128 Xz29130 (by omega) (by omega) (by omega) (by show v37_5.toInt ≤ a3.toInt; omega)
  have J29 : G E ({ frames := 7, cells := 100, slots := 700, locals := 448 } : Room) D cy 6 P 0 0 29 [] [] := by
    refine g_iconst (v := (-1)) C dX11_scatter_29 (by decide) ?_
    exact ret _ _ _ _ _ _ dX11_scatter_30 rfl (by decide) (by decide) ⟨I, EK.rf, trivial⟩
  refine g_aload_n C dX11_scatter_0 rfl 0 rfl ?_
  refine g_iload_n C dX11_scatter_1 rfl 1 rfl ?_
  refine g_iload_n C dX11_scatter_2 rfl 2 rfl ?_
  refine g_callVI (rest := []) C mv_X11_136 [.int a1, .int a2] (s_X11_isLeaflet I ha0) (ha0).1 (ha0).2 rfl rfl (by decide) (Nat.le_of_ble_eq_true rfl) (by decide) dX11_scatter_3 (fun r29134 Y29135 h29136 => ?_)
  obtain ⟨rfl, h29136⟩ := h29136
  obtain ⟨h29136, hi29137⟩ := h29136
  have hi29137 : r29134.toInt = 0 ∨ (((0 : Int) ≤ a1.toInt ∧ a1.toInt ≤ (1 : Int)) ∧ ((0 : Int) ≤ a2.toInt ∧ a2.toInt ≤ (9999 : Int))) := hi29137
  have h29136 : 0 ≤ r29134.toInt ∧ r29134.toInt ≤ 1 := h29136
  refine b_if_eq C 29 dX11_scatter_6 (by decide) (fun h29138 => ?_) (fun h29138 => ?_)
  · have h29138 : r29134.toInt = 0 := congrArg Int32.toInt h29138
    clear hi29137
    refine g_lv (lv' := []) [] rfl ?_
    exact J29 
  · have h29138 : r29134.toInt ≠ 0 := ti_ne h29138
    replace hi29137 := hi29137.resolve_left (by omega)
    refine g_iload_n C dX11_scatter_9 rfl 3 rfl ?_
    refine g_callSI (b := 0) (ci := 0) (rest := []) C ms_X11_173 [.int a3] (s_X11_isNumber I) rfl rfl (by decide) (Nat.le_of_ble_eq_true rfl) (by decide) dX11_scatter_10 (fun r29139 Y29140 h29141 => ?_)
    obtain ⟨rfl, h29141⟩ := h29141
    obtain ⟨h29141, hi29142⟩ := h29141
    have hi29142 : r29139.toInt = 0 ∨ (((0 : Int) ≤ a3.toInt ∧ a3.toInt ≤ (9999 : Int))) := hi29142
    have h29141 : 0 ≤ r29139.toInt ∧ r29139.toInt ≤ 1 := h29141
    refine b_if_eq C 29 dX11_scatter_13 (by decide) (fun h29143 => ?_) (fun h29143 => ?_)
    · have h29143 : r29139.toInt = 0 := congrArg Int32.toInt h29143
      clear hi29142
      refine g_lv (lv' := []) [] rfl ?_
      exact J29 
    · have h29143 : r29139.toInt ≠ 0 := ti_ne h29143
      replace hi29142 := hi29142.resolve_left (by omega)
      refine g_iload_n C dX11_scatter_16 rfl 3 rfl ?_
      refine g_iload_n C dX11_scatter_17 rfl 2 rfl ?_
      refine b_icmp_lt C 29 dX11_scatter_18 (by decide) (fun h29144 => ?_) (fun h29144 => ?_)
      · have h29144 : a3.toInt < a2.toInt := h29144
        refine g_lv (lv' := []) [] rfl ?_
        exact J29 
      · have h29144 : a2.toInt ≤ a3.toInt := h29144
        refine g_iload_n C dX11_scatter_21 rfl 3 rfl ?_
        refine g_iload_n C dX11_scatter_22 rfl 2 rfl ?_
        refine s_isub C dX11_scatter_23 (by show -2147483648 ≤ a3.toInt - a2.toInt ∧ a3.toInt - a2.toInt ≤ 2147483647; omega) (fun z29145 h29146 => ?_)
        have h29146 : z29145.toInt = a3.toInt - a2.toInt := h29146
        refine g_bipush (v := 100) C dX11_scatter_24 (by decide) ?_
        refine b_icmp_lt C 31 dX11_scatter_26 (by decide) (fun h29147 => ?_) (fun h29147 => ?_)
        · have h29147 : z29145.toInt < 100 := h29147
          refine g_iconst (v := 0) C dX11_scatter_31 (by decide) ?_
          refine g_istore (lv' := [(4, .int 0), (0, .ref a0), (1, .int a1), (2, .int a2), (3, .int a3)]) C dX11_scatter_32 (by decide) rfl ?_
          refine g_iload_n C dX11_scatter_34 rfl 3 rfl ?_
          refine g_istore (lv' := [(5, .int a2), (4, .int 0), (0, .ref a0), (1, .int a1), (2, .int a2), (3, .int a3)]) C dX11_scatter_35 (by decide) rfl ?_
          refine g_lv (lv' := [(0, .ref a0), (1, .int a1), (3, .int a3), (4, .int 0), (5, .int a2)]) [2, 3, 5, 1, 0] rfl ?_
          exact J37 _ P 0 a2 0 0 (Nat.lt_succ_self _) I EK.rf (by omega) (by omega) (by omega) (by show 0 + 1 * (a3.toInt - a2.toInt + 1).toNat ≤ 100; omega) (by show 0 + 7 * (a3.toInt - a2.toInt + 1).toNat ≤ 700; omega)
        · have h29147 : 100 ≤ z29145.toInt := h29147
          refine g_lv (lv' := []) [] rfl ?_
          exact J29 
theorem dX11_slip_0 : decode cX11_slip 0 = .ok (.iload_n 1, 1) := by decide +kernel
theorem dX11_slip_1 : decode cX11_slip 1 = .ok (.invokestatic 158, 3) := by decide +kernel
theorem dX11_slip_4 : decode cX11_slip 4 = .ok (.ifCond .eq 25, 3) := by decide +kernel
theorem dX11_slip_7 : decode cX11_slip 7 = .ok (.aload_n 0, 1) := by decide +kernel
theorem dX11_slip_8 : decode cX11_slip 8 = .ok (.iload_n 2, 1) := by decide +kernel
theorem dX11_slip_9 : decode cX11_slip 9 = .ok (.iload_n 3, 1) := by decide +kernel
theorem dX11_slip_10 : decode cX11_slip 10 = .ok (.invokevirtual 136, 3) := by decide +kernel
theorem dX11_slip_13 : decode cX11_slip 13 = .ok (.ifCond .eq 16, 3) := by decide +kernel
theorem dX11_slip_16 : decode cX11_slip 16 = .ok (.iload 4, 2) := by decide +kernel
theorem dX11_slip_18 : decode cX11_slip 18 = .ok (.iconst 1, 1) := by decide +kernel
theorem dX11_slip_19 : decode cX11_slip 19 = .ok (.if_icmp .lt 10, 3) := by decide +kernel
theorem dX11_slip_22 : decode cX11_slip 22 = .ok (.iload 4, 2) := by decide +kernel
theorem dX11_slip_24 : decode cX11_slip 24 = .ok (.ldc 104, 2) := by decide +kernel
theorem dX11_slip_26 : decode cX11_slip 26 = .ok (.if_icmp .le 5, 3) := by decide +kernel
theorem dX11_slip_29 : decode cX11_slip 29 = .ok (.iconst (-1), 1) := by decide +kernel
theorem dX11_slip_30 : decode cX11_slip 30 = .ok (.ireturn, 1) := by decide +kernel
theorem dX11_slip_31 : decode cX11_slip 31 = .ok (.aload_n 0, 1) := by decide +kernel
theorem dX11_slip_32 : decode cX11_slip 32 = .ok (.getfield 11, 3) := by decide +kernel
theorem dX11_slip_35 : decode cX11_slip 35 = .ok (.iload_n 2, 1) := by decide +kernel
theorem dX11_slip_36 : decode cX11_slip 36 = .ok (.aaload, 1) := by decide +kernel
theorem dX11_slip_37 : decode cX11_slip 37 = .ok (.astore 5, 2) := by decide +kernel
theorem dX11_slip_39 : decode cX11_slip 39 = .ok (.aload 5, 2) := by decide +kernel
theorem dX11_slip_41 : decode cX11_slip 41 = .ok (.aload 5, 2) := by decide +kernel
theorem dX11_slip_43 : decode cX11_slip 43 = .ok (.iload_n 3, 1) := by decide +kernel
theorem dX11_slip_44 : decode cX11_slip 44 = .ok (.invokevirtual 140, 3) := by decide +kernel
theorem dX11_slip_47 : decode cX11_slip 47 = .ok (.invokevirtual 143, 3) := by decide +kernel
theorem dX11_slip_50 : decode cX11_slip 50 = .ok (.istore 6, 2) := by decide +kernel
theorem dX11_slip_52 : decode cX11_slip 52 = .ok (.aload_n 0, 1) := by decide +kernel
theorem dX11_slip_53 : decode cX11_slip 53 = .ok (.iload_n 1, 1) := by decide +kernel
theorem dX11_slip_54 : decode cX11_slip 54 = .ok (.aload 5, 2) := by decide +kernel
theorem dX11_slip_56 : decode cX11_slip 56 = .ok (.iload_n 3, 1) := by decide +kernel
theorem dX11_slip_57 : decode cX11_slip 57 = .ok (.iload 6, 2) := by decide +kernel
theorem dX11_slip_59 : decode cX11_slip 59 = .ok (.iload 4, 2) := by decide +kernel
theorem dX11_slip_61 : decode cX11_slip 61 = .ok (.ixor, 1) := by decide +kernel
theorem dX11_slip_62 : decode cX11_slip 62 = .ok (.aload 5, 2) := by decide +kernel
theorem dX11_slip_64 : decode cX11_slip 64 = .ok (.iload_n 3, 1) := by decide +kernel
theorem dX11_slip_65 : decode cX11_slip 65 = .ok (.iload 6, 2) := by decide +kernel
theorem dX11_slip_67 : decode cX11_slip 67 = .ok (.invokevirtual 146, 3) := by decide +kernel
theorem dX11_slip_70 : decode cX11_slip 70 = .ok (.invokevirtual 169, 3) := by decide +kernel
theorem dX11_slip_73 : decode cX11_slip 73 = .ok (.ireturn, 1) := by decide +kernel
set_option maxHeartbeats 4000000 in
set_option maxRecDepth 100000 in
theorem s_X11_slip {P : PP} {a0 : Nat} {a1 : Int32} {a2 : Int32} {a3 : Int32} {a4 : Int32} (I : IV P) (ha0 : At P a0 11) : CtrI yX11_slip cX11_slip 7 (some Jvm.ClassFile.FieldType.int) ({ frames := 6, cells := 1, slots := 7, locals := 384 } : Room) 1 7 P [.ref a0, .int a1, .int a2, .int a3, .int a4] (fun r P2 => IV P2 ∧ EK [1, 6, 7, 11, 13] P P2 ∧ (-1 ≤ r.toInt ∧ r.toInt ≤ 39)) := by
  refine enI (lv := [(0, .ref a0), (1, .int a1), (2, .int a2), (3, .int a3), (4, .int a4)]) (by decide) (Nat.le_of_ble_eq_true rfl) rfl (fun E D cy C Ci0 ret => ?_)
  have J29 : G E ({ frames := 6, cells := 1, slots := 7, locals := 384 } : Room) D cy 7 P 0 0 29 [] [] := by
    refine g_iconst (v := (-1)) C dX11_slip_29 (by decide) ?_
    exact ret _ _ _ _ _ _ dX11_slip_30 rfl (by decide) (by decide) ⟨I, EK.rf, (by decide)⟩
  refine g_iload_n C dX11_slip_0 rfl 1 rfl ?_
  refine g_callSI (b := 0) (ci := 0) (rest := []) C ms_X11_158 [.int a1] (s_X11_isQuarter I) rfl rfl (by decide) (Nat.le_of_ble_eq_true rfl) (by decide) dX11_slip_1 (fun r29192 Y29193 h29194 => ?_)
  obtain ⟨rfl, h29194⟩ := h29194
  obtain ⟨h29194, hi29195⟩ := h29194
  have hi29195 : r29192.toInt = 0 ∨ (((0 : Int) ≤ a1.toInt ∧ a1.toInt ≤ (3 : Int))) := hi29195
  have h29194 : 0 ≤ r29192.toInt ∧ r29192.toInt ≤ 1 := h29194
  refine b_if_eq C 29 dX11_slip_4 (by decide) (fun h29196 => ?_) (fun h29196 => ?_)
  · have h29196 : r29192.toInt = 0 := congrArg Int32.toInt h29196
    clear hi29195
    refine g_lv (lv' := []) [] rfl ?_
    exact J29 
  · have h29196 : r29192.toInt ≠ 0 := ti_ne h29196
    replace hi29195 := hi29195.resolve_left (by omega)
    refine g_aload_n C dX11_slip_7 rfl 0 rfl ?_
    refine g_iload_n C dX11_slip_8 rfl 2 rfl ?_
    refine g_iload_n C dX11_slip_9 rfl 3 rfl ?_
    refine g_callVI (rest := []) C mv_X11_136 [.int a2, .int a3] (s_X11_isLeaflet I ha0) (ha0).1 (ha0).2 rfl rfl (by decide) (Nat.le_of_ble_eq_true rfl) (by decide) dX11_slip_10 (fun r29197 Y29198 h29199 => ?_)
    obtain ⟨rfl, h29199⟩ := h29199
    obtain ⟨h29199, hi29200⟩ := h29199
    have hi29200 : r29197.toInt = 0 ∨ (((0 : Int) ≤ a2.toInt ∧ a2.toInt ≤ (1 : Int)) ∧ ((0 : Int) ≤ a3.toInt ∧ a3.toInt ≤ (9999 : Int))) := hi29200
    have h29199 : 0 ≤ r29197.toInt ∧ r29197.toInt ≤ 1 := h29199
    refine b_if_eq C 29 dX11_slip_13 (by decide) (fun h29201 => ?_) (fun h29201 => ?_)
    · have h29201 : r29197.toInt = 0 := congrArg Int32.toInt h29201
      clear hi29200
      refine g_lv (lv' := []) [] rfl ?_
      exact J29 
    · have h29201 : r29197.toInt ≠ 0 := ti_ne h29201
      replace hi29200 := hi29200.resolve_left (by omega)
      refine g_iload C dX11_slip_16 4 rfl ?_
      refine g_iconst (v := 1) C dX11_slip_18 (by decide) ?_
      have u29203 := ti_rng a4
      refine b_icmp_lt C 29 dX11_slip_19 (by decide) (fun h29202 => ?_) (fun h29202 => ?_)
      · have h29202 : a4.toInt < 1 := h29202
        refine g_lv (lv' := []) [] rfl ?_
        exact J29 
      · have h29202 : 1 ≤ a4.toInt := h29202
        refine g_iload C dX11_slip_22 4 rfl ?_
        refine g_ldc (v := 65535) C kc_X11_104 dX11_slip_24 ?_
        have u29205 := ti_rng a4
        refine b_icmp_le C 31 dX11_slip_26 (by decide) (fun h29204 => ?_) (fun h29204 => ?_)
        · have h29204 : a4.toInt ≤ 65535 := h29204
          refine g_aload_n C dX11_slip_31 rfl 0 rfl ?_
          obtain ⟨b29206, e29207, h29208⟩ := I.fld (ha0) 0 17 2 rfl
          refine g_getR C fi_X11_11 rfl e29207 (ha0).1 (ha0).2 dX11_slip_32 ?_
          refine g_iload_n C dX11_slip_35 rfl 2 rfl ?_
          obtain ⟨b29209, e29210, h29211⟩ := I.elm h29208 (by decide) (a2.toInt.toNat) (by omega)
          refine g_aldR C h29208.1 h29208.2.1 (by decide) (ix_in h29208.2.2 (by omega)) e29210 dX11_slip_36 ?_
          refine g_astore (lv' := [(5, .ref b29209), (0, .ref a0), (1, .int a1), (2, .int a2), (3, .int a3), (4, .int a4)]) C dX11_slip_37 (by decide) rfl ?_
          refine g_aload C dX11_slip_39 0 rfl ?_
          refine g_aload C dX11_slip_41 0 rfl ?_
          refine g_iload_n C dX11_slip_43 rfl 4 rfl ?_
          refine g_callVI (rest := [.ref b29209]) C mv_X11_140 [.int a3] (s_X1_pagesOf I h29211) (h29211).1 (h29211).2 rfl rfl (by decide) (Nat.le_of_ble_eq_true rfl) (by decide) dX11_slip_44 (fun r29212 Y29213 h29214 => ?_)
          obtain ⟨Iy29215, Xy29216, h29214⟩ := h29214
          have Xz29217 : EK [1, 6, 7, 11, 13] P Y29213 := Xy29216.mono (by decide)
          have h29218 := Xy29216.at ha0
          have h29219 := Xy29216.at h29211
          have h29214 : True := h29214
          refine g_callVI (rest := []) C mv_X11_143 [.int r29212] (s_X1_sumOf Iy29215 h29219) (h29219).1 (h29219).2 rfl rfl (by decide) (Nat.le_of_ble_eq_true rfl) (by decide) dX11_slip_47 (fun r29220 Y29221 h29222 => ?_)
          obtain ⟨rfl, h29222⟩ := h29222
          have h29222 : True := h29222
          refine g_istore (lv' := [(6, .int r29220), (5, .ref b29209), (0, .ref a0), (1, .int a1), (2, .int a2), (3, .int a3), (4, .int a4)]) C dX11_slip_50 (by decide) rfl ?_
          refine g_aload_n C dX11_slip_52 rfl 2 rfl ?_
          refine g_iload_n C dX11_slip_53 rfl 3 rfl ?_
          refine g_aload C dX11_slip_54 1 rfl ?_
          refine g_iload_n C dX11_slip_56 rfl 5 rfl ?_
          refine g_iload C dX11_slip_57 0 rfl ?_
          refine g_iload C dX11_slip_59 6 rfl ?_
          refine a_ixor C dX11_slip_61 (fun z29223 => ?_)
          refine g_aload C dX11_slip_62 1 rfl ?_
          refine g_iload_n C dX11_slip_64 rfl 5 rfl ?_
          refine g_iload C dX11_slip_65 0 rfl ?_
          refine g_callVI (rest := [.int z29223, .int a3, .ref b29209, .int a1, .ref a0]) C mv_X11_146 [.int a3, .int r29220] (s_X1_sealOf Iy29215 h29219) (h29219).1 (h29219).2 rfl rfl (by decide) (Nat.le_of_ble_eq_true rfl) (by decide) dX11_slip_67 (fun r29225 Y29226 h29227 => ?_)
          obtain ⟨rfl, h29227⟩ := h29227
          have h29227 : True := h29227
          refine g_callVI (rest := []) C mv_X11_169 [.int a1, .ref b29209, .int a3, .int z29223, .int r29225] (s_X11_send Iy29215 h29218 (by omega) h29219) (h29218).1 (h29218).2 rfl rfl (by decide) (Nat.le_of_ble_eq_true rfl) (by decide) dX11_slip_70 (fun r29228 Y29229 h29230 => ?_)
          obtain ⟨Iy29231, Xy29232, h29230⟩ := h29230
          have Xz29233 : EK [1, 6, 7, 11, 13] P Y29229 := Xz29217.tr (Xy29232.mono (by decide))
          have h29234 := Xy29232.at h29218
          have h29235 := Xy29232.at h29219
          have h29230 : -1 ≤ r29228.toInt ∧ r29228.toInt ≤ 39 := h29230
          exact ret _ _ _ _ _ _ dX11_slip_73 rfl (by decide) (by decide) ⟨Iy29231, Xz29233, (by omega)⟩
        · have h29204 : 65535 < a4.toInt := h29204
          refine g_lv (lv' := []) [] rfl ?_
          exact J29 
theorem dX11_slipped_0 : decode cX11_slipped 0 = .ok (.iload_n 1, 1) := by decide +kernel
theorem dX11_slipped_1 : decode cX11_slipped 1 = .ok (.invokestatic 158, 3) := by decide +kernel
theorem dX11_slipped_4 : decode cX11_slipped 4 = .ok (.ifCond .eq 29, 3) := by decide +kernel
theorem dX11_slipped_7 : decode cX11_slipped 7 = .ok (.aload_n 0, 1) := by decide +kernel
theorem dX11_slipped_8 : decode cX11_slipped 8 = .ok (.iload_n 2, 1) := by decide +kernel
theorem dX11_slipped_9 : decode cX11_slipped 9 = .ok (.invokevirtual 97, 3) := by decide +kernel
theorem dX11_slipped_12 : decode cX11_slipped 12 = .ok (.ifCond .eq 21, 3) := by decide +kernel
theorem dX11_slipped_15 : decode cX11_slipped 15 = .ok (.iload_n 3, 1) := by decide +kernel
theorem dX11_slipped_16 : decode cX11_slipped 16 = .ok (.invokestatic 213, 3) := by decide +kernel
theorem dX11_slipped_19 : decode cX11_slipped 19 = .ok (.ifCond .eq 14, 3) := by decide +kernel
theorem dX11_slipped_22 : decode cX11_slipped 22 = .ok (.iload 4, 2) := by decide +kernel
theorem dX11_slipped_24 : decode cX11_slipped 24 = .ok (.ifCond .lt 9, 3) := by decide +kernel
theorem dX11_slipped_27 : decode cX11_slipped 27 = .ok (.iload 4, 2) := by decide +kernel
theorem dX11_slipped_29 : decode cX11_slipped 29 = .ok (.iconst 2, 1) := by decide +kernel
theorem dX11_slipped_30 : decode cX11_slipped 30 = .ok (.if_icmp .le 5, 3) := by decide +kernel
theorem dX11_slipped_33 : decode cX11_slipped 33 = .ok (.iconst (-1), 1) := by decide +kernel
theorem dX11_slipped_34 : decode cX11_slipped 34 = .ok (.ireturn, 1) := by decide +kernel
theorem dX11_slipped_35 : decode cX11_slipped 35 = .ok (.aload_n 0, 1) := by decide +kernel
theorem dX11_slipped_36 : decode cX11_slipped 36 = .ok (.iload_n 1, 1) := by decide +kernel
theorem dX11_slipped_37 : decode cX11_slipped 37 = .ok (.iload_n 2, 1) := by decide +kernel
theorem dX11_slipped_38 : decode cX11_slipped 38 = .ok (.iload_n 3, 1) := by decide +kernel
theorem dX11_slipped_39 : decode cX11_slipped 39 = .ok (.invokevirtual 216, 3) := by decide +kernel
theorem dX11_slipped_42 : decode cX11_slipped 42 = .ok (.astore 5, 2) := by decide +kernel
theorem dX11_slipped_44 : decode cX11_slipped 44 = .ok (.aload_n 0, 1) := by decide +kernel
theorem dX11_slipped_45 : decode cX11_slipped 45 = .ok (.getfield 53, 3) := by decide +kernel
theorem dX11_slipped_48 : decode cX11_slipped 48 = .ok (.iconst 0, 1) := by decide +kernel
theorem dX11_slipped_49 : decode cX11_slipped 49 = .ok (.aaload, 1) := by decide +kernel
theorem dX11_slipped_50 : decode cX11_slipped 50 = .ok (.astore 6, 2) := by decide +kernel
theorem dX11_slipped_52 : decode cX11_slipped 52 = .ok (.aload 6, 2) := by decide +kernel
theorem dX11_slipped_54 : decode cX11_slipped 54 = .ok (.aload 5, 2) := by decide +kernel
theorem dX11_slipped_56 : decode cX11_slipped 56 = .ok (.iconst (-1), 1) := by decide +kernel
theorem dX11_slipped_57 : decode cX11_slipped 57 = .ok (.invokevirtual 236, 3) := by decide +kernel
theorem dX11_slipped_60 : decode cX11_slipped 60 = .ok (.aload 6, 2) := by decide +kernel
theorem dX11_slipped_62 : decode cX11_slipped 62 = .ok (.getfield 243, 3) := by decide +kernel
theorem dX11_slipped_65 : decode cX11_slipped 65 = .ok (.ifCond .eq 5, 3) := by decide +kernel
theorem dX11_slipped_68 : decode cX11_slipped 68 = .ok (.iconst (-1), 1) := by decide +kernel
theorem dX11_slipped_69 : decode cX11_slipped 69 = .ok (.ireturn, 1) := by decide +kernel
theorem dX11_slipped_70 : decode cX11_slipped 70 = .ok (.iconst 0, 1) := by decide +kernel
theorem dX11_slipped_71 : decode cX11_slipped 71 = .ok (.istore 7, 2) := by decide +kernel
theorem dX11_slipped_73 : decode cX11_slipped 73 = .ok (.iconst (-1), 1) := by decide +kernel
theorem dX11_slipped_74 : decode cX11_slipped 74 = .ok (.istore 8, 2) := by decide +kernel
theorem dX11_slipped_76 : decode cX11_slipped 76 = .ok (.aload 5, 2) := by decide +kernel
theorem dX11_slipped_78 : decode cX11_slipped 78 = .ok (.getfield 263, 3) := by decide +kernel
theorem dX11_slipped_81 : decode cX11_slipped 81 = .ok (.istore 9, 2) := by decide +kernel
theorem dX11_slipped_83 : decode cX11_slipped 83 = .ok (.iload 9, 2) := by decide +kernel
theorem dX11_slipped_85 : decode cX11_slipped 85 = .ok (.aload 5, 2) := by decide +kernel
theorem dX11_slipped_87 : decode cX11_slipped 87 = .ok (.getfield 266, 3) := by decide +kernel
theorem dX11_slipped_90 : decode cX11_slipped 90 = .ok (.if_icmp .ge 49, 3) := by decide +kernel
theorem dX11_slipped_93 : decode cX11_slipped 93 = .ok (.aload 6, 2) := by decide +kernel
theorem dX11_slipped_95 : decode cX11_slipped 95 = .ok (.aload 5, 2) := by decide +kernel
theorem dX11_slipped_97 : decode cX11_slipped 97 = .ok (.iload 9, 2) := by decide +kernel
theorem dX11_slipped_99 : decode cX11_slipped 99 = .ok (.invokevirtual 236, 3) := by decide +kernel
theorem dX11_slipped_102 : decode cX11_slipped 102 = .ok (.aload 6, 2) := by decide +kernel
theorem dX11_slipped_104 : decode cX11_slipped 104 = .ok (.getfield 243, 3) := by decide +kernel
theorem dX11_slipped_107 : decode cX11_slipped 107 = .ok (.ifCond .eq 26, 3) := by decide +kernel
theorem dX11_slipped_110 : decode cX11_slipped 110 = .ok (.iload 7, 2) := by decide +kernel
theorem dX11_slipped_112 : decode cX11_slipped 112 = .ok (.ifCond .ne 14, 3) := by decide +kernel
theorem dX11_slipped_115 : decode cX11_slipped 115 = .ok (.aload 5, 2) := by decide +kernel
theorem dX11_slipped_117 : decode cX11_slipped 117 = .ok (.getfield 269, 3) := by decide +kernel
theorem dX11_slipped_120 : decode cX11_slipped 120 = .ok (.iload 9, 2) := by decide +kernel
theorem dX11_slipped_122 : decode cX11_slipped 122 = .ok (.iaload, 1) := by decide +kernel
theorem dX11_slipped_123 : decode cX11_slipped 123 = .ok (.goto 5, 3) := by decide +kernel
theorem dX11_slipped_126 : decode cX11_slipped 126 = .ok (.iload 8, 2) := by decide +kernel
theorem dX11_slipped_128 : decode cX11_slipped 128 = .ok (.istore 8, 2) := by decide +kernel
theorem dX11_slipped_130 : decode cX11_slipped 130 = .ok (.iinc 7 1, 3) := by decide +kernel
theorem dX11_slipped_133 : decode cX11_slipped 133 = .ok (.iinc 9 1, 3) := by decide +kernel
theorem dX11_slipped_136 : decode cX11_slipped 136 = .ok (.goto (-53), 3) := by decide +kernel
theorem dX11_slipped_139 : decode cX11_slipped 139 = .ok (.iload 4, 2) := by decide +kernel
theorem dX11_slipped_141 : decode cX11_slipped 141 = .ok (.iconst 1, 1) := by decide +kernel
theorem dX11_slipped_142 : decode cX11_slipped 142 = .ok (.if_icmp .ne 6, 3) := by decide +kernel
theorem dX11_slipped_145 : decode cX11_slipped 145 = .ok (.iload 8, 2) := by decide +kernel
theorem dX11_slipped_147 : decode cX11_slipped 147 = .ok (.ireturn, 1) := by decide +kernel
theorem dX11_slipped_148 : decode cX11_slipped 148 = .ok (.iload 4, 2) := by decide +kernel
theorem dX11_slipped_150 : decode cX11_slipped 150 = .ok (.ifCond .ne 8, 3) := by decide +kernel
theorem dX11_slipped_153 : decode cX11_slipped 153 = .ok (.iload 7, 2) := by decide +kernel
theorem dX11_slipped_155 : decode cX11_slipped 155 = .ok (.goto 14, 3) := by decide +kernel
theorem dX11_slipped_158 : decode cX11_slipped 158 = .ok (.iload 7, 2) := by decide +kernel
theorem dX11_slipped_160 : decode cX11_slipped 160 = .ok (.iconst 1, 1) := by decide +kernel
theorem dX11_slipped_161 : decode cX11_slipped 161 = .ok (.if_icmp .ne 7, 3) := by decide +kernel
theorem dX11_slipped_164 : decode cX11_slipped 164 = .ok (.iconst 1, 1) := by decide +kernel
theorem dX11_slipped_165 : decode cX11_slipped 165 = .ok (.goto 4, 3) := by decide +kernel
theorem dX11_slipped_168 : decode cX11_slipped 168 = .ok (.iconst 0, 1) := by decide +kernel
theorem dX11_slipped_169 : decode cX11_slipped 169 = .ok (.ireturn, 1) := by decide +kernel
set_option maxHeartbeats 4000000 in
set_option maxRecDepth 100000 in
theorem s_X11_slipped {P : PP} {a0 : Nat} {a1 : Int32} {a2 : Int32} {a3 : Int32} {a4 : Int32} (I : IV P) (ha0 : At P a0 11) : CtrI yX11_slipped cX11_slipped 10 (some Jvm.ClassFile.FieldType.int) ({ frames := 4, cells := 0, slots := 0, locals := 256 } : Room) 0 0 P [.ref a0, .int a1, .int a2, .int a3, .int a4] (fun r P2 => IV P2 ∧ EK [0, 5, 13] P P2 ∧ (True)) := by
  refine enI (lv := [(0, .ref a0), (1, .int a1), (2, .int a2), (3, .int a3), (4, .int a4)]) (by decide) (Nat.le_of_ble_eq_true rfl) rfl (fun E D cy C Ci0 ret => ?_)
  have J83 : ∀ (n83 : Nat) (P83 : PP) (b83_5 : Nat) (b83_6 : Nat) (v83_7 : Int32) (v83_8 : Int32) (v83_9 : Int32), (44 - v83_9.toInt).toNat < n83 → (IV P83) → (EK [0, 5, 13] P P83) → (0 ≤ a4.toInt ∧ a4.toInt ≤ 2) → (At P83 b83_5 5) → (At P83 b83_6 0) → (0 ≤ v83_9.toInt ∧ v83_9.toInt ≤ 44) → G E ({ frames := 4, cells := 0, slots := 0, locals := 256 } : Room) D cy 10 P83 0 0 83 [(4, .int a4), (5, .ref b83_5), (6, .ref b83_6), (7, .int v83_7), (8, .int v83_8), (9, .int v83_9)] [] := by
    intro n83
    induction n83 with
    | zero => intro P83 b83_5 b83_6 v83_7 v83_8 v83_9 hm83 I83 X83 hv83_4 hb83_5 hb83_6 hv83_9; omega
    | succ n83 ih83 =>
      intro P83 b83_5 b83_6 v83_7 v83_8 v83_9 hm83 I83 X83 hv83_4 hb83_5 hb83_6 hv83_9
      have h30287 := X83.at ha0
      have J133 : ∀ (P133 : PP) (b133_5 : Nat) (b133_6 : Nat) (v133_7 : Int32) (v133_8 : Int32), (IV P133) → (EK [0, 5, 13] P P133) → (0 ≤ a4.toInt ∧ a4.toInt ≤ 2) → (At P133 b133_5 5) → (At P133 b133_6 0) → (0 ≤ v83_9.toInt ∧ v83_9.toInt ≤ 43) → (1 ≤ (pI P133 b133_5 4).toInt ∧ (pI P133 b133_5 4).toInt ≤ 44) → (0 ≤ (pI P133 b133_6 3).toInt ∧ (pI P133 b133_6 3).toInt ≤ 1) → G E ({ frames := 4, cells := 0, slots := 0, locals := 256 } : Room) D cy 10 P133 0 0 133 [(4, .int a4), (5, .ref b133_5), (6, .ref b133_6), (7, .int v133_7), (8, .int v133_8), (9, .int v83_9)] [] := by
        intro P133 b133_5 b133_6 v133_7 v133_8 I133 X133 hv133_4 hb133_5 hb133_6 hv133_9 hq133_0 hq133_1
        have h30288 := X133.at ha0
        refine s_iinc (lv0 := [(4, .int a4), (5, .ref b133_5), (6, .ref b133_6), (7, .int v133_7), (8, .int v133_8)]) (m := 1) C dX11_slipped_133 5 rfl (by decide) rfl (by decide) (by omega) (fun z30289 h30290 => ?_)
        have h30290 : z30289.toInt = v83_9.toInt + 1 := h30290
        refine g_goto C 83 dX11_slipped_136 (by decide) ?_
        refine g_lv (lv' := [(4, .int a4), (5, .ref b133_5), (6, .ref b133_6), (7, .int v133_7), (8, .int v133_8), (9, .int z30289)]) [1, 2, 3, 4, 5, 0] rfl ?_
        exact ih83 P133 b133_5 b133_6 v133_7 v133_8 z30289 (by omega) I133 X133 (by omega) hb133_5 hb133_6 (by omega)
      have J128 : ∀ (P128 : PP) (b128_5 : Nat) (b128_6 : Nat) (v128_s0 : Int32), (IV P128) → (EK [0, 5, 13] P P128) → (0 ≤ a4.toInt ∧ a4.toInt ≤ 2) → (At P128 b128_5 5) → (At P128 b128_6 0) → (0 ≤ v83_9.toInt ∧ v83_9.toInt ≤ 43) → (1 ≤ (pI P128 b128_5 4).toInt ∧ (pI P128 b128_5 4).toInt ≤ 44) → (1 ≤ (pI P128 b128_6 3).toInt ∧ (pI P128 b128_6 3).toInt ≤ 1) → G E ({ frames := 4, cells := 0, slots := 0, locals := 256 } : Room) D cy 10 P128 0 0 128 [(4, .int a4), (5, .ref b128_5), (6, .ref b128_6), (7, .int v83_7), (9, .int v83_9)] [.int v128_s0] := by
        intro P128 b128_5 b128_6 v128_s0 I128 X128 hv128_4 hb128_5 hb128_6 hv128_9 hq128_0 hq128_1
        have h30291 := X128.at ha0
        refine g_istore (lv' := [(8, .int v128_s0), (4, .int a4), (5, .ref b128_5), (6, .ref b128_6), (7, .int v83_7), (9, .int v83_9)]) C dX11_slipped_128 (by decide) rfl ?_
        refine a_iinc (lv0 := [(8, .int v128_s0), (4, .int a4), (5, .ref b128_5), (6, .ref b128_6), (9, .int v83_9)]) C dX11_slipped_130 4 rfl (by decide) rfl (fun z30292 => ?_)
        refine g_lv (lv' := [(4, .int a4), (5, .ref b128_5), (6, .ref b128_6), (7, .int z30292), (8, .int v128_s0), (9, .int v83_9)]) [2, 3, 4, 0, 1, 5] rfl ?_
        exact J133 P128 b128_5 b128_6 z30292 v128_s0 I128 X128 (by omega) hb128_5 hb128_6 (by omega) (by omega) (by omega)
      refine g_iload C dX11_slipped_83 5 rfl ?_
      refine g_aload C dX11_slipped_85 1 rfl ?_
      refine g_getI C fi_X11_266 (by decide) (hb83_5).1 (hb83_5).2 dX11_slipped_87 ?_
      have h30294 := I83.rg (hb83_5) 4 rfl
      refine b_icmp_ge C 139 dX11_slipped_90 (by decide) (fun h30295 => ?_) (fun h30295 => ?_)
      · have h30295 : (pI P83 b83_5 4).toInt ≤ v83_9.toInt := h30295
        refine g_iload C dX11_slipped_139 0 rfl ?_
        refine g_iconst (v := 1) C dX11_slipped_141 (by decide) ?_
        refine b_icmp_ne C 148 dX11_slipped_142 (by decide) (fun h30296 => ?_) (fun h30296 => ?_)
        · have h30296 : a4.toInt ≠ 1 := ti_ne h30296
          refine g_iload C dX11_slipped_148 0 rfl ?_
          refine b_if_ne C 158 dX11_slipped_150 (by decide) (fun h30297 => ?_) (fun h30297 => ?_)
          · have h30297 : a4.toInt ≠ 0 := ti_ne h30297
            refine g_iload C dX11_slipped_158 3 rfl ?_
            refine g_iconst (v := 1) C dX11_slipped_160 (by decide) ?_
            have u30299 := ti_rng v83_7
            refine b_icmp_ne C 168 dX11_slipped_161 (by decide) (fun h30298 => ?_) (fun h30298 => ?_)
            · have h30298 : v83_7.toInt ≠ 1 := ti_ne h30298
              refine g_iconst (v := 0) C dX11_slipped_168 (by decide) ?_
              exact ret _ _ _ _ _ _ dX11_slipped_169 rfl (by decide) (by decide) ⟨I83, X83, trivial⟩
            · have h30298 : v83_7.toInt = 1 := congrArg Int32.toInt h30298
              refine g_iconst (v := 1) C dX11_slipped_164 (by decide) ?_
              refine g_goto C 169 dX11_slipped_165 (by decide) ?_
              exact ret _ _ _ _ _ _ dX11_slipped_169 rfl (by decide) (by decide) ⟨I83, X83, trivial⟩
          · have h30297 : a4.toInt = 0 := congrArg Int32.toInt h30297
            refine g_iload C dX11_slipped_153 3 rfl ?_
            refine g_goto C 169 dX11_slipped_155 (by decide) ?_
            exact ret _ _ _ _ _ _ dX11_slipped_169 rfl (by decide) (by decide) ⟨I83, X83, trivial⟩
        · have h30296 : a4.toInt = 1 := congrArg Int32.toInt h30296
          refine g_iload C dX11_slipped_145 4 rfl ?_
          exact ret _ _ _ _ _ _ dX11_slipped_147 rfl (by decide) (by decide) ⟨I83, X83, trivial⟩
      · have h30295 : v83_9.toInt < (pI P83 b83_5 4).toInt := h30295
        refine g_aload C dX11_slipped_93 2 rfl ?_
        refine g_aload C dX11_slipped_95 1 rfl ?_
        refine g_iload C dX11_slipped_97 5 rfl ?_
        refine g_callVV (rest := []) C mv_X11_236 [.ref b83_5, .int v83_9] (s_X0_take I83 hb83_6 hb83_5) (hb83_6).1 (hb83_6).2 rfl rfl (by decide) (Nat.le_of_ble_eq_true rfl) (by decide) dX11_slipped_99 (fun Y30301 h30302 => ?_)
        obtain ⟨Iy30303, Xy30304⟩ := h30302
        have q30305 := Xy30304.keep hb83_5 (by decide) 4
        have Xz30306 : EK [0, 5, 13] P Y30301 := X83.tr (Xy30304.mono (by decide))
        have h30307 := Xy30304.at h30287
        have h30308 := Xy30304.at hb83_5
        have h30309 := Xy30304.at hb83_6
        refine g_aload C dX11_slipped_102 2 rfl ?_
        refine g_getI C fi_X11_243 (by decide) (h30309).1 (h30309).2 dX11_slipped_104 ?_
        have h30310 := Iy30303.rg (h30309) 3 rfl
        refine b_if_eq C 133 dX11_slipped_107 (by decide) (fun h30311 => ?_) (fun h30311 => ?_)
        · have h30311 : (pI Y30301 b83_6 3).toInt = 0 := congrArg Int32.toInt h30311
          exact J133 Y30301 b83_5 b83_6 v83_7 v83_8 Iy30303 Xz30306 (by omega) h30308 h30309 (by omega) (by omega) (by omega)
        · have h30311 : (pI Y30301 b83_6 3).toInt ≠ 0 := ti_ne h30311
          refine g_iload C dX11_slipped_110 3 rfl ?_
          have u30313 := ti_rng v83_7
          refine b_if_ne C 126 dX11_slipped_112 (by decide) (fun h30312 => ?_) (fun h30312 => ?_)
          · have h30312 : v83_7.toInt ≠ 0 := ti_ne h30312
            refine g_iload C dX11_slipped_126 4 rfl ?_
            refine g_lv (lv' := [(4, .int a4), (5, .ref b83_5), (6, .ref b83_6), (7, .int v83_7), (9, .int v83_9)]) [0, 1, 2, 3, 5] rfl ?_
            exact J128 Y30301 b83_5 b83_6 v83_8 Iy30303 Xz30306 (by omega) h30308 h30309 (by omega) (by omega) (by omega)
          · have h30312 : v83_7.toInt = 0 := congrArg Int32.toInt h30312
            refine g_aload C dX11_slipped_115 1 rfl ?_
            obtain ⟨b30314, e30315, h30316⟩ := Iy30303.fld (h30308) 1 13 44 rfl
            refine g_getR C fi_X11_269 rfl e30315 (h30308).1 (h30308).2 dX11_slipped_117 ?_
            refine g_iload C dX11_slipped_120 5 rfl ?_
            refine g_iald (j := (v83_9.toInt.toNat)) C h30316.1 h30316.2.1 (ix_in h30316.2.2 (by omega)) dX11_slipped_122 ?_
            refine g_topi (fun z30317 _ => ?_)
            refine g_goto C 128 dX11_slipped_123 (by decide) ?_
            refine g_lv (lv' := [(4, .int a4), (5, .ref b83_5), (6, .ref b83_6), (7, .int v83_7), (9, .int v83_9)]) [0, 1, 2, 3, 5] rfl ?_
            exact J128 Y30301 b83_5 b83_6 z30317 Iy30303 Xz30306 (by omega) h30308 h30309 (by omega) (by omega) (by omega)
  have J33 : G E ({ frames := 4, cells := 0, slots := 0, locals := 256 } : Room) D cy 10 P 0 0 33 [] [] := by
    refine g_iconst (v := (-1)) C dX11_slipped_33 (by decide) ?_
    exact ret _ _ _ _ _ _ dX11_slipped_34 rfl (by decide) (by decide) ⟨I, EK.rf, trivial⟩
  refine g_iload_n C dX11_slipped_0 rfl 1 rfl ?_
  refine g_callSI (b := 0) (ci := 0) (rest := []) C ms_X11_158 [.int a1] (s_X11_isQuarter I) rfl rfl (by decide) (Nat.le_of_ble_eq_true rfl) (by decide) dX11_slipped_1 (fun r30318 Y30319 h30320 => ?_)
  obtain ⟨rfl, h30320⟩ := h30320
  obtain ⟨h30320, hi30321⟩ := h30320
  have hi30321 : r30318.toInt = 0 ∨ (((0 : Int) ≤ a1.toInt ∧ a1.toInt ≤ (3 : Int))) := hi30321
  have h30320 : 0 ≤ r30318.toInt ∧ r30318.toInt ≤ 1 := h30320
  refine b_if_eq C 33 dX11_slipped_4 (by decide) (fun h30322 => ?_) (fun h30322 => ?_)
  · have h30322 : r30318.toInt = 0 := congrArg Int32.toInt h30322
    clear hi30321
    refine g_lv (lv' := []) [] rfl ?_
    exact J33 
  · have h30322 : r30318.toInt ≠ 0 := ti_ne h30322
    replace hi30321 := hi30321.resolve_left (by omega)
    refine g_aload_n C dX11_slipped_7 rfl 0 rfl ?_
    refine g_iload_n C dX11_slipped_8 rfl 2 rfl ?_
    refine g_callVI (rest := []) C mv_X11_97 [.int a2] (s_X11_isTold I ha0) (ha0).1 (ha0).2 rfl rfl (by decide) (Nat.le_of_ble_eq_true rfl) (by decide) dX11_slipped_9 (fun r30323 Y30324 h30325 => ?_)
    obtain ⟨rfl, h30325⟩ := h30325
    obtain ⟨h30325, hi30326⟩ := h30325
    have hi30326 : r30323.toInt = 0 ∨ (((0 : Int) ≤ a2.toInt ∧ a2.toInt ≤ (1 : Int))) := hi30326
    have h30325 : 0 ≤ r30323.toInt ∧ r30323.toInt ≤ 1 := h30325
    refine b_if_eq C 33 dX11_slipped_12 (by decide) (fun h30327 => ?_) (fun h30327 => ?_)
    · have h30327 : r30323.toInt = 0 := congrArg Int32.toInt h30327
      clear hi30326
      refine g_lv (lv' := []) [] rfl ?_
      exact J33 
    · have h30327 : r30323.toInt ≠ 0 := ti_ne h30327
      replace hi30326 := hi30326.resolve_left (by omega)
      refine g_iload_n C dX11_slipped_15 rfl 3 rfl ?_
      refine g_callSI (b := 0) (ci := 0) (rest := []) C ms_X11_213 [.int a3] (s_X11_isOctet I) rfl rfl (by decide) (Nat.le_of_ble_eq_true rfl) (by decide) dX11_slipped_16 (fun r30328 Y30329 h30330 => ?_)
      obtain ⟨rfl, h30330⟩ := h30330
      obtain ⟨h30330, hi30331⟩ := h30330
      have hi30331 : r30328.toInt = 0 ∨ (((0 : Int) ≤ a3.toInt ∧ a3.toInt ≤ (1 : Int))) := hi30331
      have h30330 : 0 ≤ r30328.toInt ∧ r30328.toInt ≤ 1 := h30330
      refine b_if_eq C 33 dX11_slipped_19 (by decide) (fun h30332 => ?_) (fun h30332 => ?_)
      · have h30332 : r30328.toInt = 0 := congrArg Int32.toInt h30332
        clear hi30331
        refine g_lv (lv' := []) [] rfl ?_
        exact J33 
      · have h30332 : r30328.toInt ≠ 0 := ti_ne h30332
        replace hi30331 := hi30331.resolve_left (by omega)
        refine g_iload C dX11_slipped_22 4 rfl ?_
        have u30334 := ti_rng a4
        refine b_if_lt C 33 dX11_slipped_24 (by decide) (fun h30333 => ?_) (fun h30333 => ?_)
        · have h30333 : a4.toInt < 0 := h30333
          refine g_lv (lv' := []) [] rfl ?_
          exact J33 
        · have h30333 : 0 ≤ a4.toInt := h30333
          refine g_iload C dX11_slipped_27 4 rfl ?_
          refine g_iconst (v := 2) C dX11_slipped_29 (by decide) ?_
          have u30336 := ti_rng a4
          refine b_icmp_le C 35 dX11_slipped_30 (by decide) (fun h30335 => ?_) (fun h30335 => ?_)
          · have h30335 : a4.toInt ≤ 2 := h30335
            refine g_aload_n C dX11_slipped_35 rfl 0 rfl ?_
            refine g_iload_n C dX11_slipped_36 rfl 1 rfl ?_
            refine g_iload_n C dX11_slipped_37 rfl 2 rfl ?_
            refine g_iload_n C dX11_slipped_38 rfl 3 rfl ?_
            refine g_callVQ (rest := []) C mv_X11_216 [.int a1, .int a2, .int a3] (s_X11_gather I ha0 (by omega) (by omega) (by omega)) (ha0).1 (ha0).2 rfl rfl (by decide) (Nat.le_of_ble_eq_true rfl) (by decide) dX11_slipped_39 (fun r30337 Y30338 h30339 => ?_)
            obtain ⟨Iy30340, Xy30341, h30339⟩ := h30339
            have Xz30342 : EK [0, 5, 13] P Y30338 := Xy30341.mono (by decide)
            have h30343 := Xy30341.at ha0
            obtain ⟨b30345, rfl, h30339⟩ := h30339
            show G _ _ _ _ _ _ _ _ _ _ (.ref b30345 :: _)
            refine g_astore (lv' := [(5, .ref b30345), (0, .ref a0), (1, .int a1), (2, .int a2), (3, .int a3), (4, .int a4)]) C dX11_slipped_42 (by decide) rfl ?_
            refine g_aload_n C dX11_slipped_44 rfl 1 rfl ?_
            obtain ⟨b30346, e30347, h30348⟩ := Iy30340.fld (h30343) 9 16 2 rfl
            refine g_getR C fi_X11_53 rfl e30347 (h30343).1 (h30343).2 dX11_slipped_45 ?_
            refine g_iconst (v := 0) C dX11_slipped_48 (by decide) ?_
            obtain ⟨b30349, e30350, h30351⟩ := Iy30340.elm h30348 (by decide) 0 (by decide)
            refine g_aldR C h30348.1 h30348.2.1 (by decide) (IX.litn (j := 0) h30348.2.2 rfl (by decide) (by decide)) e30350 dX11_slipped_49 ?_
            refine g_astore (lv' := [(6, .ref b30349), (5, .ref b30345), (0, .ref a0), (1, .int a1), (2, .int a2), (3, .int a3), (4, .int a4)]) C dX11_slipped_50 (by decide) rfl ?_
            refine g_aload C dX11_slipped_52 0 rfl ?_
            refine g_aload C dX11_slipped_54 1 rfl ?_
            refine g_iconst (v := (-1)) C dX11_slipped_56 (by decide) ?_
            refine g_callVV (rest := []) C mv_X11_236 [.ref b30345, .int (-1)] (s_X0_take Iy30340 h30351 h30339) (h30351).1 (h30351).2 rfl rfl (by decide) (Nat.le_of_ble_eq_true rfl) (by decide) dX11_slipped_57 (fun Y30353 h30354 => ?_)
            obtain ⟨Iy30355, Xy30356⟩ := h30354
            have Xz30357 : EK [0, 5, 13] P Y30353 := Xz30342.tr (Xy30356.mono (by decide))
            have h30358 := Xy30356.at h30343
            have h30359 := Xy30356.at h30339
            have h30360 := Xy30356.at h30351
            refine g_aload C dX11_slipped_60 0 rfl ?_
            refine g_getI C fi_X11_243 (by decide) (h30360).1 (h30360).2 dX11_slipped_62 ?_
            have h30361 := Iy30355.rg (h30360) 3 rfl
            refine b_if_eq C 70 dX11_slipped_65 (by decide) (fun h30362 => ?_) (fun h30362 => ?_)
            · have h30362 : (pI Y30353 b30349 3).toInt = 0 := congrArg Int32.toInt h30362
              refine g_iconst (v := 0) C dX11_slipped_70 (by decide) ?_
              refine g_istore (lv' := [(7, .int 0), (6, .ref b30349), (5, .ref b30345), (0, .ref a0), (1, .int a1), (2, .int a2), (3, .int a3), (4, .int a4)]) C dX11_slipped_71 (by decide) rfl ?_
              refine g_iconst (v := (-1)) C dX11_slipped_73 (by decide) ?_
              refine g_istore (lv' := [(8, .int (-1)), (7, .int 0), (6, .ref b30349), (5, .ref b30345), (0, .ref a0), (1, .int a1), (2, .int a2), (3, .int a3), (4, .int a4)]) C dX11_slipped_74 (by decide) rfl ?_
              refine g_aload C dX11_slipped_76 3 rfl ?_
              refine g_getI C fi_X11_263 (by decide) (h30359).1 (h30359).2 dX11_slipped_78 ?_
              have h30363 := Iy30355.rg (h30359) 5 rfl
              refine g_topi (fun z30364 h30365 => ?_)
              have h30365 : z30364.toInt = (pI Y30353 b30345 5).toInt := congrArg Int32.toInt h30365
              refine g_istore (lv' := [(9, .int z30364), (8, .int (-1)), (7, .int 0), (6, .ref b30349), (5, .ref b30345), (0, .ref a0), (1, .int a1), (2, .int a2), (3, .int a3), (4, .int a4)]) C dX11_slipped_81 (by decide) rfl ?_
              refine g_lv (lv' := [(4, .int a4), (5, .ref b30345), (6, .ref b30349), (7, .int 0), (8, .int (-1)), (9, .int z30364)]) [9, 4, 3, 2, 1, 0] rfl ?_
              exact J83 _ Y30353 b30345 b30349 0 (-1) z30364 (Nat.lt_succ_self _) Iy30355 Xz30357 (by omega) h30359 h30360 (by omega)
            · have h30362 : (pI Y30353 b30349 3).toInt ≠ 0 := ti_ne h30362
              refine g_iconst (v := (-1)) C dX11_slipped_68 (by decide) ?_
              exact ret _ _ _ _ _ _ dX11_slipped_69 rfl (by decide) (by decide) ⟨Iy30355, Xz30357, trivial⟩
          · have h30335 : 2 < a4.toInt := h30335
            refine g_lv (lv' := []) [] rfl ?_
            exact J33 
theorem dX11_solves_0 : decode cX11_solves 0 = .ok (.iload_n 1, 1) := by decide +kernel
theorem dX11_solves_1 : decode cX11_solves 1 = .ok (.invokestatic 158, 3) := by decide +kernel
theorem dX11_solves_4 : decode cX11_solves 4 = .ok (.ifCond .eq 18, 3) := by decide +kernel
theorem dX11_solves_7 : decode cX11_solves 7 = .ok (.aload_n 0, 1) := by decide +kernel
theorem dX11_solves_8 : decode cX11_solves 8 = .ok (.iload_n 2, 1) := by decide +kernel
theorem dX11_solves_9 : decode cX11_solves 9 = .ok (.invokevirtual 97, 3) := by decide +kernel
theorem dX11_solves_12 : decode cX11_solves 12 = .ok (.ifCond .eq 10, 3) := by decide +kernel
theorem dX11_solves_15 : decode cX11_solves 15 = .ok (.iload_n 3, 1) := by decide +kernel
theorem dX11_solves_16 : decode cX11_solves 16 = .ok (.invokestatic 213, 3) := by decide +kernel
theorem dX11_solves_19 : decode cX11_solves 19 = .ok (.ifCond .ne 5, 3) := by decide +kernel
theorem dX11_solves_22 : decode cX11_solves 22 = .ok (.iconst (-1), 1) := by decide +kernel
theorem dX11_solves_23 : decode cX11_solves 23 = .ok (.ireturn, 1) := by decide +kernel
theorem dX11_solves_24 : decode cX11_solves 24 = .ok (.aload_n 0, 1) := by decide +kernel
theorem dX11_solves_25 : decode cX11_solves 25 = .ok (.getfield 11, 3) := by decide +kernel
theorem dX11_solves_28 : decode cX11_solves 28 = .ok (.iload_n 2, 1) := by decide +kernel
theorem dX11_solves_29 : decode cX11_solves 29 = .ok (.aaload, 1) := by decide +kernel
theorem dX11_solves_30 : decode cX11_solves 30 = .ok (.invokevirtual 233, 3) := by decide +kernel
theorem dX11_solves_33 : decode cX11_solves 33 = .ok (.istore 5, 2) := by decide +kernel
theorem dX11_solves_35 : decode cX11_solves 35 = .ok (.aload_n 0, 1) := by decide +kernel
theorem dX11_solves_36 : decode cX11_solves 36 = .ok (.getfield 53, 3) := by decide +kernel
theorem dX11_solves_39 : decode cX11_solves 39 = .ok (.iconst 0, 1) := by decide +kernel
theorem dX11_solves_40 : decode cX11_solves 40 = .ok (.aaload, 1) := by decide +kernel
theorem dX11_solves_41 : decode cX11_solves 41 = .ok (.astore 6, 2) := by decide +kernel
theorem dX11_solves_43 : decode cX11_solves 43 = .ok (.aload 6, 2) := by decide +kernel
theorem dX11_solves_45 : decode cX11_solves 45 = .ok (.aload_n 0, 1) := by decide +kernel
theorem dX11_solves_46 : decode cX11_solves 46 = .ok (.iload_n 1, 1) := by decide +kernel
theorem dX11_solves_47 : decode cX11_solves 47 = .ok (.iload_n 2, 1) := by decide +kernel
theorem dX11_solves_48 : decode cX11_solves 48 = .ok (.iload_n 3, 1) := by decide +kernel
theorem dX11_solves_49 : decode cX11_solves 49 = .ok (.invokevirtual 216, 3) := by decide +kernel
theorem dX11_solves_52 : decode cX11_solves 52 = .ok (.iconst (-1), 1) := by decide +kernel
theorem dX11_solves_53 : decode cX11_solves 53 = .ok (.invokevirtual 236, 3) := by decide +kernel
theorem dX11_solves_56 : decode cX11_solves 56 = .ok (.iload 4, 2) := by decide +kernel
theorem dX11_solves_58 : decode cX11_solves 58 = .ok (.tableswitch 67 0 3 #[30, 38, 52, 58], 30) := by decide +kernel
theorem dX11_solves_88 : decode cX11_solves 88 = .ok (.aload 6, 2) := by decide +kernel
theorem dX11_solves_90 : decode cX11_solves 90 = .ok (.iload 5, 2) := by decide +kernel
theorem dX11_solves_92 : decode cX11_solves 92 = .ok (.invokevirtual 240, 3) := by decide +kernel
theorem dX11_solves_95 : decode cX11_solves 95 = .ok (.ireturn, 1) := by decide +kernel
theorem dX11_solves_96 : decode cX11_solves 96 = .ok (.aload 6, 2) := by decide +kernel
theorem dX11_solves_98 : decode cX11_solves 98 = .ok (.getfield 243, 3) := by decide +kernel
theorem dX11_solves_101 : decode cX11_solves 101 = .ok (.ifCond .eq 7, 3) := by decide +kernel
theorem dX11_solves_104 : decode cX11_solves 104 = .ok (.iconst 1, 1) := by decide +kernel
theorem dX11_solves_105 : decode cX11_solves 105 = .ok (.goto 4, 3) := by decide +kernel
theorem dX11_solves_108 : decode cX11_solves 108 = .ok (.iconst 0, 1) := by decide +kernel
theorem dX11_solves_109 : decode cX11_solves 109 = .ok (.ireturn, 1) := by decide +kernel
theorem dX11_solves_110 : decode cX11_solves 110 = .ok (.aload 6, 2) := by decide +kernel
theorem dX11_solves_112 : decode cX11_solves 112 = .ok (.getfield 246, 3) := by decide +kernel
theorem dX11_solves_115 : decode cX11_solves 115 = .ok (.ireturn, 1) := by decide +kernel
theorem dX11_solves_116 : decode cX11_solves 116 = .ok (.iload 5, 2) := by decide +kernel
theorem dX11_solves_118 : decode cX11_solves 118 = .ok (.aload 6, 2) := by decide +kernel
theorem dX11_solves_120 : decode cX11_solves 120 = .ok (.getfield 246, 3) := by decide +kernel
theorem dX11_solves_123 : decode cX11_solves 123 = .ok (.isub, 1) := by decide +kernel
theorem dX11_solves_124 : decode cX11_solves 124 = .ok (.ireturn, 1) := by decide +kernel
theorem dX11_solves_125 : decode cX11_solves 125 = .ok (.iconst (-1), 1) := by decide +kernel
theorem dX11_solves_126 : decode cX11_solves 126 = .ok (.ireturn, 1) := by decide +kernel
set_option maxHeartbeats 4000000 in
set_option maxRecDepth 100000 in
theorem s_X11_solves {P : PP} {a0 : Nat} {a1 : Int32} {a2 : Int32} {a3 : Int32} {a4 : Int32} (I : IV P) (ha0 : At P a0 11) : CtrI yX11_solves cX11_solves 7 (some Jvm.ClassFile.FieldType.int) ({ frames := 4, cells := 0, slots := 0, locals := 256 } : Room) 0 0 P [.ref a0, .int a1, .int a2, .int a3, .int a4] (fun r P2 => IV P2 ∧ EK [0, 5, 13] P P2 ∧ (True)) := by
  refine enI (lv := [(0, .ref a0), (1, .int a1), (2, .int a2), (3, .int a3), (4, .int a4)]) (by decide) (Nat.le_of_ble_eq_true rfl) rfl (fun E D cy C Ci0 ret => ?_)
  have J22 : G E ({ frames := 4, cells := 0, slots := 0, locals := 256 } : Room) D cy 7 P 0 0 22 [] [] := by
    refine g_iconst (v := (-1)) C dX11_solves_22 (by decide) ?_
    exact ret _ _ _ _ _ _ dX11_solves_23 rfl (by decide) (by decide) ⟨I, EK.rf, trivial⟩
  refine g_iload_n C dX11_solves_0 rfl 1 rfl ?_
  refine g_callSI (b := 0) (ci := 0) (rest := []) C ms_X11_158 [.int a1] (s_X11_isQuarter I) rfl rfl (by decide) (Nat.le_of_ble_eq_true rfl) (by decide) dX11_solves_1 (fun r30425 Y30426 h30427 => ?_)
  obtain ⟨rfl, h30427⟩ := h30427
  obtain ⟨h30427, hi30428⟩ := h30427
  have hi30428 : r30425.toInt = 0 ∨ (((0 : Int) ≤ a1.toInt ∧ a1.toInt ≤ (3 : Int))) := hi30428
  have h30427 : 0 ≤ r30425.toInt ∧ r30425.toInt ≤ 1 := h30427
  refine b_if_eq C 22 dX11_solves_4 (by decide) (fun h30429 => ?_) (fun h30429 => ?_)
  · have h30429 : r30425.toInt = 0 := congrArg Int32.toInt h30429
    clear hi30428
    refine g_lv (lv' := []) [] rfl ?_
    exact J22 
  · have h30429 : r30425.toInt ≠ 0 := ti_ne h30429
    replace hi30428 := hi30428.resolve_left (by omega)
    refine g_aload_n C dX11_solves_7 rfl 0 rfl ?_
    refine g_iload_n C dX11_solves_8 rfl 2 rfl ?_
    refine g_callVI (rest := []) C mv_X11_97 [.int a2] (s_X11_isTold I ha0) (ha0).1 (ha0).2 rfl rfl (by decide) (Nat.le_of_ble_eq_true rfl) (by decide) dX11_solves_9 (fun r30430 Y30431 h30432 => ?_)
    obtain ⟨rfl, h30432⟩ := h30432
    obtain ⟨h30432, hi30433⟩ := h30432
    have hi30433 : r30430.toInt = 0 ∨ (((0 : Int) ≤ a2.toInt ∧ a2.toInt ≤ (1 : Int))) := hi30433
    have h30432 : 0 ≤ r30430.toInt ∧ r30430.toInt ≤ 1 := h30432
    refine b_if_eq C 22 dX11_solves_12 (by decide) (fun h30434 => ?_) (fun h30434 => ?_)
    · have h30434 : r30430.toInt = 0 := congrArg Int32.toInt h30434
      clear hi30433
      refine g_lv (lv' := []) [] rfl ?_
      exact J22 
    · have h30434 : r30430.toInt ≠ 0 := ti_ne h30434
      replace hi30433 := hi30433.resolve_left (by omega)
      refine g_iload_n C dX11_solves_15 rfl 3 rfl ?_
      refine g_callSI (b := 0) (ci := 0) (rest := []) C ms_X11_213 [.int a3] (s_X11_isOctet I) rfl rfl (by decide) (Nat.le_of_ble_eq_true rfl) (by decide) dX11_solves_16 (fun r30435 Y30436 h30437 => ?_)
      obtain ⟨rfl, h30437⟩ := h30437
      obtain ⟨h30437, hi30438⟩ := h30437
      have hi30438 : r30435.toInt = 0 ∨ (((0 : Int) ≤ a3.toInt ∧ a3.toInt ≤ (1 : Int))) := hi30438
      have h30437 : 0 ≤ r30435.toInt ∧ r30435.toInt ≤ 1 := h30437
      refine b_if_ne C 24 dX11_solves_19 (by decide) (fun h30439 => ?_) (fun h30439 => ?_)
      · have h30439 : r30435.toInt ≠ 0 := ti_ne h30439
        replace hi30438 := hi30438.resolve_left (by omega)
        refine g_aload_n C dX11_solves_24 rfl 0 rfl ?_
        obtain ⟨b30440, e30441, h30442⟩ := I.fld (ha0) 0 17 2 rfl
        refine g_getR C fi_X11_11 rfl e30441 (ha0).1 (ha0).2 dX11_solves_25 ?_
        refine g_iload_n C dX11_solves_28 rfl 2 rfl ?_
        obtain ⟨b30443, e30444, h30445⟩ := I.elm h30442 (by decide) (a2.toInt.toNat) (by omega)
        refine g_aldR C h30442.1 h30442.2.1 (by decide) (ix_in h30442.2.2 (by omega)) e30444 dX11_solves_29 ?_
        refine g_callVI (rest := []) C mv_X11_233 [] (s_X1_all I h30445) (h30445).1 (h30445).2 rfl rfl (by decide) (Nat.le_of_ble_eq_true rfl) (by decide) dX11_solves_30 (fun r30446 Y30447 h30448 => ?_)
        obtain ⟨rfl, h30448⟩ := h30448
        have h30448 : 0 ≤ r30446.toInt ∧ r30446.toInt ≤ 20 := h30448
        refine g_istore (lv' := [(5, .int r30446), (0, .ref a0), (1, .int a1), (2, .int a2), (3, .int a3), (4, .int a4)]) C dX11_solves_33 (by decide) rfl ?_
        refine g_aload_n C dX11_solves_35 rfl 1 rfl ?_
        obtain ⟨b30449, e30450, h30451⟩ := I.fld (ha0) 9 16 2 rfl
        refine g_getR C fi_X11_53 rfl e30450 (ha0).1 (ha0).2 dX11_solves_36 ?_
        refine g_iconst (v := 0) C dX11_solves_39 (by decide) ?_
        obtain ⟨b30452, e30453, h30454⟩ := I.elm h30451 (by decide) 0 (by decide)
        refine g_aldR C h30451.1 h30451.2.1 (by decide) (IX.litn (j := 0) h30451.2.2 rfl (by decide) (by decide)) e30453 dX11_solves_40 ?_
        refine g_astore (lv' := [(6, .ref b30452), (5, .int r30446), (0, .ref a0), (1, .int a1), (2, .int a2), (3, .int a3), (4, .int a4)]) C dX11_solves_41 (by decide) rfl ?_
        refine g_aload C dX11_solves_43 0 rfl ?_
        refine g_aload_n C dX11_solves_45 rfl 2 rfl ?_
        refine g_iload_n C dX11_solves_46 rfl 3 rfl ?_
        refine g_iload_n C dX11_solves_47 rfl 4 rfl ?_
        refine g_iload_n C dX11_solves_48 rfl 5 rfl ?_
        refine g_callVQ (rest := [.ref b30452]) C mv_X11_216 [.int a1, .int a2, .int a3] (s_X11_gather I ha0 (by omega) (by omega) (by omega)) (ha0).1 (ha0).2 rfl rfl (by decide) (Nat.le_of_ble_eq_true rfl) (by decide) dX11_solves_49 (fun r30455 Y30456 h30457 => ?_)
        obtain ⟨Iy30458, Xy30459, h30457⟩ := h30457
        have Xz30460 : EK [0, 5, 13] P Y30456 := Xy30459.mono (by decide)
        have h30461 := Xy30459.at ha0
        have h30462 := Xy30459.at h30454
        obtain ⟨b30464, rfl, h30457⟩ := h30457
        show G _ _ _ _ _ _ _ _ _ _ (.ref b30464 :: _)
        refine g_iconst (v := (-1)) C dX11_solves_52 (by decide) ?_
        refine g_callVV (rest := []) C mv_X11_236 [.ref b30464, .int (-1)] (s_X0_take Iy30458 h30462 h30457) (h30462).1 (h30462).2 rfl rfl (by decide) (Nat.le_of_ble_eq_true rfl) (by decide) dX11_solves_53 (fun Y30466 h30467 => ?_)
        obtain ⟨Iy30468, Xy30469⟩ := h30467
        have Xz30470 : EK [0, 5, 13] P Y30466 := Xz30460.tr (Xy30469.mono (by decide))
        have h30471 := Xy30469.at h30461
        have h30472 := Xy30469.at h30462
        refine g_iload C dX11_solves_56 6 rfl ?_
        by_cases h30473 : a4.toInt < 0 ∨ 3 < a4.toInt
        · refine g_tableOut C 125 dX11_solves_58 h30473 (by decide) ?_
          refine g_iconst (v := (-1)) C dX11_solves_125 (by decide) ?_
          exact ret _ _ _ _ _ _ dX11_solves_126 rfl (by decide) (by decide) ⟨Iy30468, Xz30470, trivial⟩
        · rcases (show a4.toInt = 0 ∨ a4.toInt = 1 ∨ a4.toInt = 2 ∨ a4.toInt = 3 by omega) with h30474 | h30474 | h30474 | h30474
          · refine g_tableIn C 88 dX11_solves_58 (by omega) (by omega) (by rw [h30474]; rfl) (by decide) ?_
            refine g_aload C dX11_solves_88 0 rfl ?_
            refine g_iload C dX11_solves_90 1 rfl ?_
            refine g_callVI (rest := []) C mv_X11_240 [.int r30446] (s_X0_fixedPages Iy30468 h30472) (h30472).1 (h30472).2 rfl rfl (by decide) (Nat.le_of_ble_eq_true rfl) (by decide) dX11_solves_92 (fun r30475 Y30476 h30477 => ?_)
            obtain ⟨rfl, h30477⟩ := h30477
            have h30477 : True := h30477
            exact ret _ _ _ _ _ _ dX11_solves_95 rfl (by decide) (by decide) ⟨Iy30468, Xz30470, trivial⟩
          · refine g_tableIn C 96 dX11_solves_58 (by omega) (by omega) (by rw [h30474]; rfl) (by decide) ?_
            refine g_aload C dX11_solves_96 0 rfl ?_
            refine g_getI C fi_X11_243 (by decide) (h30472).1 (h30472).2 dX11_solves_98 ?_
            have h30478 := Iy30468.rg (h30472) 3 rfl
            refine b_if_eq C 108 dX11_solves_101 (by decide) (fun h30479 => ?_) (fun h30479 => ?_)
            · have h30479 : (pI Y30466 b30452 3).toInt = 0 := congrArg Int32.toInt h30479
              refine g_iconst (v := 0) C dX11_solves_108 (by decide) ?_
              exact ret _ _ _ _ _ _ dX11_solves_109 rfl (by decide) (by decide) ⟨Iy30468, Xz30470, trivial⟩
            · have h30479 : (pI Y30466 b30452 3).toInt ≠ 0 := ti_ne h30479
              refine g_iconst (v := 1) C dX11_solves_104 (by decide) ?_
              refine g_goto C 109 dX11_solves_105 (by decide) ?_
              exact ret _ _ _ _ _ _ dX11_solves_109 rfl (by decide) (by decide) ⟨Iy30468, Xz30470, trivial⟩
          · refine g_tableIn C 110 dX11_solves_58 (by omega) (by omega) (by rw [h30474]; rfl) (by decide) ?_
            refine g_aload C dX11_solves_110 0 rfl ?_
            refine g_getI C fi_X11_246 (by decide) (h30472).1 (h30472).2 dX11_solves_112 ?_
            have h30480 := Iy30468.rg (h30472) 2 rfl
            exact ret _ _ _ _ _ _ dX11_solves_115 rfl (by decide) (by decide) ⟨Iy30468, Xz30470, trivial⟩
          · refine g_tableIn C 116 dX11_solves_58 (by omega) (by omega) (by rw [h30474]; rfl) (by decide) ?_
            refine g_iload C dX11_solves_116 1 rfl ?_
            refine g_aload C dX11_solves_118 0 rfl ?_
            refine g_getI C fi_X11_246 (by decide) (h30472).1 (h30472).2 dX11_solves_120 ?_
            have h30481 := Iy30468.rg (h30472) 2 rfl
            refine s_isub C dX11_solves_123 (by show -2147483648 ≤ r30446.toInt - (pI Y30466 b30452 2).toInt ∧ r30446.toInt - (pI Y30466 b30452 2).toInt ≤ 2147483647; omega) (fun z30482 h30483 => ?_)
            have h30483 : z30482.toInt = r30446.toInt - (pI Y30466 b30452 2).toInt := h30483
            exact ret _ _ _ _ _ _ dX11_solves_124 rfl (by decide) (by decide) ⟨Iy30468, Xz30470, trivial⟩
      · have h30439 : r30435.toInt = 0 := congrArg Int32.toInt h30439
        clear hi30438
        refine g_lv (lv' := []) [] rfl ?_
        exact J22 
theorem dX11_soon_0 : decode cX11_soon 0 = .ok (.iload_n 1, 1) := by decide +kernel
theorem dX11_soon_1 : decode cX11_soon 1 = .ok (.invokestatic 158, 3) := by decide +kernel
theorem dX11_soon_4 : decode cX11_soon 4 = .ok (.ifCond .eq 20, 3) := by decide +kernel
theorem dX11_soon_7 : decode cX11_soon 7 = .ok (.aload_n 0, 1) := by decide +kernel
theorem dX11_soon_8 : decode cX11_soon 8 = .ok (.iload_n 2, 1) := by decide +kernel
theorem dX11_soon_9 : decode cX11_soon 9 = .ok (.iload_n 3, 1) := by decide +kernel
theorem dX11_soon_10 : decode cX11_soon 10 = .ok (.invokevirtual 155, 3) := by decide +kernel
theorem dX11_soon_13 : decode cX11_soon 13 = .ok (.ifCond .eq 11, 3) := by decide +kernel
theorem dX11_soon_16 : decode cX11_soon 16 = .ok (.iload 4, 2) := by decide +kernel
theorem dX11_soon_18 : decode cX11_soon 18 = .ok (.invokestatic 249, 3) := by decide +kernel
theorem dX11_soon_21 : decode cX11_soon 21 = .ok (.ifCond .ne 5, 3) := by decide +kernel
theorem dX11_soon_26 : decode cX11_soon 26 = .ok (.iload 4, 2) := by decide +kernel
theorem dX11_soon_28 : decode cX11_soon 28 = .ok (.ifCond .ne 13, 3) := by decide +kernel
theorem dX11_soon_41 : decode cX11_soon 41 = .ok (.aload_n 0, 1) := by decide +kernel
theorem dX11_soon_42 : decode cX11_soon 42 = .ok (.iload_n 1, 1) := by decide +kernel
theorem dX11_soon_43 : decode cX11_soon 43 = .ok (.iload_n 2, 1) := by decide +kernel
theorem dX11_soon_44 : decode cX11_soon 44 = .ok (.iload_n 3, 1) := by decide +kernel
theorem dX11_soon_45 : decode cX11_soon 45 = .ok (.invokevirtual 260, 3) := by decide +kernel
theorem dX11_soonSolved_0 : decode cX11_soonSolved 0 = .ok (.aload_n 0, 1) := by decide +kernel
theorem dX11_soonSolved_1 : decode cX11_soonSolved 1 = .ok (.getfield 17, 3) := by decide +kernel
theorem dX11_soonSolved_4 : decode cX11_soonSolved 4 = .ok (.iload_n 1, 1) := by decide +kernel
theorem dX11_soonSolved_5 : decode cX11_soonSolved 5 = .ok (.aaload, 1) := by decide +kernel
theorem dX11_soonSolved_6 : decode cX11_soonSolved 6 = .ok (.astore 4, 2) := by decide +kernel
theorem dX11_soonSolved_8 : decode cX11_soonSolved 8 = .ok (.iconst 0, 1) := by decide +kernel
theorem dX11_soonSolved_9 : decode cX11_soonSolved 9 = .ok (.istore 5, 2) := by decide +kernel
theorem dX11_soonSolved_11 : decode cX11_soonSolved 11 = .ok (.iload 5, 2) := by decide +kernel
theorem dX11_soonSolved_13 : decode cX11_soonSolved 13 = .ok (.iconst 2, 1) := by decide +kernel
theorem dX11_soonSolved_14 : decode cX11_soonSolved 14 = .ok (.if_icmp .ge 43, 3) := by decide +kernel
theorem dX11_soonSolved_17 : decode cX11_soonSolved 17 = .ok (.aload_n 0, 1) := by decide +kernel
theorem dX11_soonSolved_18 : decode cX11_soonSolved 18 = .ok (.getfield 47, 3) := by decide +kernel
theorem dX11_soonSolved_21 : decode cX11_soonSolved 21 = .ok (.iload 5, 2) := by decide +kernel
theorem dX11_soonSolved_23 : decode cX11_soonSolved 23 = .ok (.aaload, 1) := by decide +kernel
theorem dX11_soonSolved_24 : decode cX11_soonSolved 24 = .ok (.aload_n 0, 1) := by decide +kernel
theorem dX11_soonSolved_25 : decode cX11_soonSolved 25 = .ok (.getfield 11, 3) := by decide +kernel
theorem dX11_soonSolved_28 : decode cX11_soonSolved 28 = .ok (.iload_n 2, 1) := by decide +kernel
theorem dX11_soonSolved_29 : decode cX11_soonSolved 29 = .ok (.aaload, 1) := by decide +kernel
theorem dX11_soonSolved_30 : decode cX11_soonSolved 30 = .ok (.invokevirtual 371, 3) := by decide +kernel
theorem dX11_soonSolved_33 : decode cX11_soonSolved 33 = .ok (.aload_n 0, 1) := by decide +kernel
theorem dX11_soonSolved_34 : decode cX11_soonSolved 34 = .ok (.getfield 53, 3) := by decide +kernel
theorem dX11_soonSolved_37 : decode cX11_soonSolved 37 = .ok (.iload 5, 2) := by decide +kernel
theorem dX11_soonSolved_39 : decode cX11_soonSolved 39 = .ok (.aaload, 1) := by decide +kernel
theorem dX11_soonSolved_40 : decode cX11_soonSolved 40 = .ok (.aload_n 0, 1) := by decide +kernel
theorem dX11_soonSolved_41 : decode cX11_soonSolved 41 = .ok (.getfield 47, 3) := by decide +kernel
theorem dX11_soonSolved_44 : decode cX11_soonSolved 44 = .ok (.iload 5, 2) := by decide +kernel
theorem dX11_soonSolved_46 : decode cX11_soonSolved 46 = .ok (.aaload, 1) := by decide +kernel
theorem dX11_soonSolved_47 : decode cX11_soonSolved 47 = .ok (.iconst (-1), 1) := by decide +kernel
theorem dX11_soonSolved_48 : decode cX11_soonSolved 48 = .ok (.invokevirtual 236, 3) := by decide +kernel
theorem dX11_soonSolved_51 : decode cX11_soonSolved 51 = .ok (.iinc 5 1, 3) := by decide +kernel
theorem dX11_soonSolved_54 : decode cX11_soonSolved 54 = .ok (.goto (-43), 3) := by decide +kernel
theorem dX11_soonSolved_57 : decode cX11_soonSolved 57 = .ok (.iconst 0, 1) := by decide +kernel
theorem dX11_soonSolved_58 : decode cX11_soonSolved 58 = .ok (.istore 5, 2) := by decide +kernel
theorem dX11_soonSolved_60 : decode cX11_soonSolved 60 = .ok (.iload 5, 2) := by decide +kernel
theorem dX11_soonSolved_62 : decode cX11_soonSolved 62 = .ok (.aload 4, 2) := by decide +kernel
theorem dX11_soonSolved_64 : decode cX11_soonSolved 64 = .ok (.getfield 336, 3) := by decide +kernel
theorem dX11_soonSolved_67 : decode cX11_soonSolved 67 = .ok (.if_icmp .ge 108, 3) := by decide +kernel
theorem dX11_soonSolved_70 : decode cX11_soonSolved 70 = .ok (.aload 4, 2) := by decide +kernel
theorem dX11_soonSolved_72 : decode cX11_soonSolved 72 = .ok (.iload 5, 2) := by decide +kernel
theorem dX11_soonSolved_74 : decode cX11_soonSolved 74 = .ok (.invokevirtual 337, 3) := by decide +kernel
theorem dX11_soonSolved_77 : decode cX11_soonSolved 77 = .ok (.astore 6, 2) := by decide +kernel
theorem dX11_soonSolved_79 : decode cX11_soonSolved 79 = .ok (.aload 6, 2) := by decide +kernel
theorem dX11_soonSolved_81 : decode cX11_soonSolved 81 = .ok (.ifnull 88, 3) := by decide +kernel
theorem dX11_soonSolved_84 : decode cX11_soonSolved 84 = .ok (.aload 6, 2) := by decide +kernel
theorem dX11_soonSolved_86 : decode cX11_soonSolved 86 = .ok (.getfield 191, 3) := by decide +kernel
theorem dX11_soonSolved_89 : decode cX11_soonSolved 89 = .ok (.iload_n 2, 1) := by decide +kernel
theorem dX11_soonSolved_90 : decode cX11_soonSolved 90 = .ok (.if_icmp .ne 79, 3) := by decide +kernel
theorem dX11_soonSolved_93 : decode cX11_soonSolved 93 = .ok (.iconst 0, 1) := by decide +kernel
theorem dX11_soonSolved_94 : decode cX11_soonSolved 94 = .ok (.istore 7, 2) := by decide +kernel
theorem dX11_soonSolved_96 : decode cX11_soonSolved 96 = .ok (.iload 7, 2) := by decide +kernel
theorem dX11_soonSolved_98 : decode cX11_soonSolved 98 = .ok (.iconst 2, 1) := by decide +kernel
theorem dX11_soonSolved_99 : decode cX11_soonSolved 99 = .ok (.if_icmp .ge 37, 3) := by decide +kernel
theorem dX11_soonSolved_102 : decode cX11_soonSolved 102 = .ok (.aload 6, 2) := by decide +kernel
theorem dX11_soonSolved_104 : decode cX11_soonSolved 104 = .ok (.iload 7, 2) := by decide +kernel
theorem dX11_soonSolved_106 : decode cX11_soonSolved 106 = .ok (.invokevirtual 365, 3) := by decide +kernel
theorem dX11_soonSolved_109 : decode cX11_soonSolved 109 = .ok (.ifCond .eq 21, 3) := by decide +kernel
theorem dX11_soonSolved_112 : decode cX11_soonSolved 112 = .ok (.aload_n 0, 1) := by decide +kernel
theorem dX11_soonSolved_113 : decode cX11_soonSolved 113 = .ok (.getfield 53, 3) := by decide +kernel
theorem dX11_soonSolved_116 : decode cX11_soonSolved 116 = .ok (.iload 7, 2) := by decide +kernel
theorem dX11_soonSolved_118 : decode cX11_soonSolved 118 = .ok (.aaload, 1) := by decide +kernel
theorem dX11_soonSolved_119 : decode cX11_soonSolved 119 = .ok (.aload 6, 2) := by decide +kernel
theorem dX11_soonSolved_121 : decode cX11_soonSolved 121 = .ok (.iload_n 2, 1) := by decide +kernel
theorem dX11_soonSolved_122 : decode cX11_soonSolved 122 = .ok (.iload 7, 2) := by decide +kernel
theorem dX11_soonSolved_124 : decode cX11_soonSolved 124 = .ok (.invokevirtual 375, 3) := by decide +kernel
theorem dX11_soonSolved_127 : decode cX11_soonSolved 127 = .ok (.invokevirtual 392, 3) := by decide +kernel
theorem dX11_soonSolved_130 : decode cX11_soonSolved 130 = .ok (.iinc 7 1, 3) := by decide +kernel
theorem dX11_soonSolved_133 : decode cX11_soonSolved 133 = .ok (.goto (-37), 3) := by decide +kernel
theorem dX11_soonSolved_136 : decode cX11_soonSolved 136 = .ok (.aload_n 0, 1) := by decide +kernel
theorem dX11_soonSolved_137 : decode cX11_soonSolved 137 = .ok (.getfield 53, 3) := by decide +kernel
theorem dX11_soonSolved_140 : decode cX11_soonSolved 140 = .ok (.iconst 0, 1) := by decide +kernel
theorem dX11_soonSolved_141 : decode cX11_soonSolved 141 = .ok (.aaload, 1) := by decide +kernel
theorem dX11_soonSolved_142 : decode cX11_soonSolved 142 = .ok (.iload_n 3, 1) := by decide +kernel
theorem dX11_soonSolved_143 : decode cX11_soonSolved 143 = .ok (.invokevirtual 272, 3) := by decide +kernel
theorem dX11_soonSolved_146 : decode cX11_soonSolved 146 = .ok (.iconst (-1), 1) := by decide +kernel
theorem dX11_soonSolved_147 : decode cX11_soonSolved 147 = .ok (.if_icmp .eq 22, 3) := by decide +kernel
theorem dX11_soonSolved_150 : decode cX11_soonSolved 150 = .ok (.aload_n 0, 1) := by decide +kernel
theorem dX11_soonSolved_151 : decode cX11_soonSolved 151 = .ok (.getfield 53, 3) := by decide +kernel
theorem dX11_soonSolved_154 : decode cX11_soonSolved 154 = .ok (.iconst 1, 1) := by decide +kernel
theorem dX11_soonSolved_155 : decode cX11_soonSolved 155 = .ok (.aaload, 1) := by decide +kernel
theorem dX11_soonSolved_156 : decode cX11_soonSolved 156 = .ok (.iload_n 3, 1) := by decide +kernel
theorem dX11_soonSolved_157 : decode cX11_soonSolved 157 = .ok (.invokevirtual 272, 3) := by decide +kernel
theorem dX11_soonSolved_160 : decode cX11_soonSolved 160 = .ok (.iconst (-1), 1) := by decide +kernel
theorem dX11_soonSolved_161 : decode cX11_soonSolved 161 = .ok (.if_icmp .eq 8, 3) := by decide +kernel
theorem dX11_soonSolved_164 : decode cX11_soonSolved 164 = .ok (.iload 5, 2) := by decide +kernel
theorem dX11_soonSolved_166 : decode cX11_soonSolved 166 = .ok (.iconst 1, 1) := by decide +kernel
theorem dX11_soonSolved_167 : decode cX11_soonSolved 167 = .ok (.iadd, 1) := by decide +kernel
theorem dX11_soonSolved_168 : decode cX11_soonSolved 168 = .ok (.ireturn, 1) := by decide +kernel
theorem dX11_soonSolved_169 : decode cX11_soonSolved 169 = .ok (.iinc 5 1, 3) := by decide +kernel
theorem dX11_soonSolved_172 : decode cX11_soonSolved 172 = .ok (.goto (-112), 3) := by decide +kernel
theorem dX11_soonSolved_175 : decode cX11_soonSolved 175 = .ok (.iconst (-1), 1) := by decide +kernel
theorem dX11_soonSolved_176 : decode cX11_soonSolved 176 = .ok (.ireturn, 1) := by decide +kernel
set_option maxHeartbeats 4000000 in
set_option maxRecDepth 100000 in
theorem s_X11_soonSolved {P : PP} {a0 : Nat} {a1 : Int32} {a2 : Int32} {a3 : Int32} (I : IV P) (ha0 : At P a0 11) (ha1 : 0 ≤ a1.toInt ∧ a1.toInt ≤ 3) (ha2 : 0 ≤ a2.toInt ∧ a2.toInt ≤ 1) : CtrI yX11_soonSolved cX11_soonSolved 8 (some Jvm.ClassFile.FieldType.int) ({ frames := 4, cells := 0, slots := 0, locals := 256 } : Room) 0 0 P [.ref a0, .int a1, .int a2, .int a3] (fun r P2 => IV P2 ∧ EK [0, 5, 13] P P2 ∧ (-1 ≤ r.toInt ∧ r.toInt ≤ 41)) := by
  refine enI (lv := [(0, .ref a0), (1, .int a1), (2, .int a2), (3, .int a3)]) (by decide) (Nat.le_of_ble_eq_true rfl) rfl (fun E D cy C Ci0 ret => ?_)
  have J60 : ∀ (n60 : Nat) (P60 : PP) (b60_4 : Nat) (v60_5 : Int32), (41 - v60_5.toInt).toNat < n60 → (IV P60) → (EK [0, 5, 13] P P60) → (At P60 b60_4 6) → (0 ≤ v60_5.toInt ∧ v60_5.toInt ≤ 41) → G E ({ frames := 4, cells := 0, slots := 0, locals := 256 } : Room) D cy 8 P60 0 0 60 [(0, .ref a0), (2, .int a2), (3, .int a3), (4, .ref b60_4), (5, .int v60_5)] [] := by
    intro n60
    induction n60 with
    | zero => intro P60 b60_4 v60_5 hm60 I60 X60 hb60_4 hv60_5; omega
    | succ n60 ih60 =>
      intro P60 b60_4 v60_5 hm60 I60 X60 hb60_4 hv60_5
      have h31553 := X60.at ha0
      have J169 : ∀ (P169 : PP) (b169_4 : Nat), (IV P169) → (EK [0, 5, 13] P P169) → (At P169 b169_4 6) → (0 ≤ v60_5.toInt ∧ v60_5.toInt ≤ 40) → (1 ≤ (pI P169 b169_4 1).toInt ∧ (pI P169 b169_4 1).toInt ≤ 40) → G E ({ frames := 4, cells := 0, slots := 0, locals := 256 } : Room) D cy 8 P169 0 0 169 [(0, .ref a0), (2, .int a2), (3, .int a3), (4, .ref b169_4), (5, .int v60_5)] [] := by
        intro P169 b169_4 I169 X169 hb169_4 hv169_5 hq169_0
        have h31554 := X169.at ha0
        refine s_iinc (lv0 := [(0, .ref a0), (2, .int a2), (3, .int a3), (4, .ref b169_4)]) (m := 1) C dX11_soonSolved_169 4 rfl (by decide) rfl (by decide) (by omega) (fun z31555 h31556 => ?_)
        have h31556 : z31555.toInt = v60_5.toInt + 1 := h31556
        refine g_goto C 60 dX11_soonSolved_172 (by decide) ?_
        refine g_lv (lv' := [(0, .ref a0), (2, .int a2), (3, .int a3), (4, .ref b169_4), (5, .int z31555)]) [1, 2, 3, 4, 0] rfl ?_
        exact ih60 P169 b169_4 z31555 (by omega) I169 X169 hb169_4 (by omega)
      have J96 : ∀ (n96 : Nat) (P96 : PP) (b96_4 : Nat) (b96_6 : Nat) (v96_7 : Int32), (2 - v96_7.toInt).toNat < n96 → (IV P96) → (EK [0, 5, 13] P P96) → (At P96 b96_4 6) → (0 ≤ v60_5.toInt ∧ v60_5.toInt ≤ 40) → (At P96 b96_6 7) → (0 ≤ v96_7.toInt ∧ v96_7.toInt ≤ 2) → (1 ≤ (pI P96 b96_4 1).toInt ∧ (pI P96 b96_4 1).toInt ≤ 40) → (0 ≤ (pI P96 b96_6 0).toInt ∧ (pI P96 b96_6 0).toInt ≤ 1) → G E ({ frames := 4, cells := 0, slots := 0, locals := 256 } : Room) D cy 8 P96 0 0 96 [(0, .ref a0), (2, .int a2), (3, .int a3), (4, .ref b96_4), (5, .int v60_5), (6, .ref b96_6), (7, .int v96_7)] [] := by
        intro n96
        induction n96 with
        | zero => intro P96 b96_4 b96_6 v96_7 hm96 I96 X96 hb96_4 hv96_5 hb96_6 hv96_7 hq96_0 hq96_1; omega
        | succ n96 ih96 =>
          intro P96 b96_4 b96_6 v96_7 hm96 I96 X96 hb96_4 hv96_5 hb96_6 hv96_7 hq96_0 hq96_1
          have h31557 := X96.at ha0
          have J130 : ∀ (P130 : PP) (b130_4 : Nat) (b130_6 : Nat), (IV P130) → (EK [0, 5, 13] P P130) → (At P130 b130_4 6) → (0 ≤ v60_5.toInt ∧ v60_5.toInt ≤ 40) → (At P130 b130_6 7) → (0 ≤ v96_7.toInt ∧ v96_7.toInt ≤ 1) → (1 ≤ (pI P130 b130_4 1).toInt ∧ (pI P130 b130_4 1).toInt ≤ 40) → (0 ≤ (pI P130 b130_6 0).toInt ∧ (pI P130 b130_6 0).toInt ≤ 1) → G E ({ frames := 4, cells := 0, slots := 0, locals := 256 } : Room) D cy 8 P130 0 0 130 [(0, .ref a0), (2, .int a2), (3, .int a3), (4, .ref b130_4), (5, .int v60_5), (6, .ref b130_6), (7, .int v96_7)] [] := by
            intro P130 b130_4 b130_6 I130 X130 hb130_4 hv130_5 hb130_6 hv130_7 hq130_0 hq130_1
            have h31558 := X130.at ha0
            refine s_iinc (lv0 := [(0, .ref a0), (2, .int a2), (3, .int a3), (4, .ref b130_4), (5, .int v60_5), (6, .ref b130_6)]) (m := 1) C dX11_soonSolved_130 6 rfl (by decide) rfl (by decide) (by omega) (fun z31559 h31560 => ?_)
            have h31560 : z31559.toInt = v96_7.toInt + 1 := h31560
            refine g_goto C 96 dX11_soonSolved_133 (by decide) ?_
            refine g_lv (lv' := [(0, .ref a0), (2, .int a2), (3, .int a3), (4, .ref b130_4), (5, .int v60_5), (6, .ref b130_6), (7, .int z31559)]) [1, 2, 3, 4, 5, 6, 0] rfl ?_
            exact ih96 P130 b130_4 b130_6 z31559 (by omega) I130 X130 hb130_4 (by omega) hb130_6 (by omega) (by omega) (by omega)
          refine g_iload C dX11_soonSolved_96 6 rfl ?_
          refine g_iconst (v := 2) C dX11_soonSolved_98 (by decide) ?_
          refine b_icmp_ge C 136 dX11_soonSolved_99 (by decide) (fun h31561 => ?_) (fun h31561 => ?_)
          · have h31561 : 2 ≤ v96_7.toInt := h31561
            refine g_aload_n C dX11_soonSolved_136 rfl 0 rfl ?_
            obtain ⟨b31562, e31563, h31564⟩ := I96.fld (h31557) 9 16 2 rfl
            refine g_getR C fi_X11_53 rfl e31563 (h31557).1 (h31557).2 dX11_soonSolved_137 ?_
            refine g_iconst (v := 0) C dX11_soonSolved_140 (by decide) ?_
            obtain ⟨b31565, e31566, h31567⟩ := I96.elm h31564 (by decide) 0 (by decide)
            refine g_aldR C h31564.1 h31564.2.1 (by decide) (IX.litn (j := 0) h31564.2.2 rfl (by decide) (by decide)) e31566 dX11_soonSolved_141 ?_
            refine g_iload_n C dX11_soonSolved_142 rfl 2 rfl ?_
            refine g_callVI (rest := []) C mv_X11_272 [.int a3] (s_X0_octetOf I96 h31567) (h31567).1 (h31567).2 rfl rfl (by decide) (Nat.le_of_ble_eq_true rfl) (by decide) dX11_soonSolved_143 (fun r31568 Y31569 h31570 => ?_)
            obtain ⟨rfl, h31570⟩ := h31570
            have h31570 : True := h31570
            refine g_iconst (v := (-1)) C dX11_soonSolved_146 (by decide) ?_
            have u31572 := ti_rng r31568
            refine b_icmp_eq C 169 dX11_soonSolved_147 (by decide) (fun h31571 => ?_) (fun h31571 => ?_)
            · have h31571 : r31568.toInt = (-1) := congrArg Int32.toInt h31571
              refine g_lv (lv' := [(0, .ref a0), (2, .int a2), (3, .int a3), (4, .ref b96_4), (5, .int v60_5)]) [0, 1, 2, 3, 4] rfl ?_
              exact J169 P96 b96_4 I96 X96 hb96_4 (by omega) (by omega)
            · have h31571 : r31568.toInt ≠ (-1) := ti_ne h31571
              refine g_aload_n C dX11_soonSolved_150 rfl 0 rfl ?_
              refine g_getR C fi_X11_53 rfl e31563 (h31557).1 (h31557).2 dX11_soonSolved_151 ?_
              refine g_iconst (v := 1) C dX11_soonSolved_154 (by decide) ?_
              obtain ⟨b31573, e31574, h31575⟩ := I96.elm h31564 (by decide) 1 (by decide)
              refine g_aldR C h31564.1 h31564.2.1 (by decide) (IX.litn (j := 1) h31564.2.2 rfl (by decide) (by decide)) e31574 dX11_soonSolved_155 ?_
              refine g_iload_n C dX11_soonSolved_156 rfl 2 rfl ?_
              refine g_callVI (rest := []) C mv_X11_272 [.int a3] (s_X0_octetOf I96 h31575) (h31575).1 (h31575).2 rfl rfl (by decide) (Nat.le_of_ble_eq_true rfl) (by decide) dX11_soonSolved_157 (fun r31576 Y31577 h31578 => ?_)
              obtain ⟨rfl, h31578⟩ := h31578
              have h31578 : True := h31578
              refine g_iconst (v := (-1)) C dX11_soonSolved_160 (by decide) ?_
              have u31580 := ti_rng r31576
              refine b_icmp_eq C 169 dX11_soonSolved_161 (by decide) (fun h31579 => ?_) (fun h31579 => ?_)
              · have h31579 : r31576.toInt = (-1) := congrArg Int32.toInt h31579
                refine g_lv (lv' := [(0, .ref a0), (2, .int a2), (3, .int a3), (4, .ref b96_4), (5, .int v60_5)]) [0, 1, 2, 3, 4] rfl ?_
                exact J169 P96 b96_4 I96 X96 hb96_4 (by omega) (by omega)
              · have h31579 : r31576.toInt ≠ (-1) := ti_ne h31579
                refine g_iload C dX11_soonSolved_164 4 rfl ?_
                refine g_iconst (v := 1) C dX11_soonSolved_166 (by decide) ?_
                refine s_iadd C dX11_soonSolved_167 (by show -2147483648 ≤ v60_5.toInt + 1 ∧ v60_5.toInt + 1 ≤ 2147483647; omega) (fun z31581 h31582 => ?_)
                have h31582 : z31581.toInt = v60_5.toInt + 1 := h31582
                exact ret _ _ _ _ _ _ dX11_soonSolved_168 rfl (by decide) (by decide) ⟨I96, X96, (by omega)⟩
          · have h31561 : v96_7.toInt < 2 := h31561
            refine g_aload C dX11_soonSolved_102 5 rfl ?_
            refine g_iload C dX11_soonSolved_104 6 rfl ?_
            refine g_callVI (rest := []) C mv_X11_365 [.int v96_7] (s_X7_hasOctet I96 hb96_6) (hb96_6).1 (hb96_6).2 rfl rfl (by decide) (Nat.le_of_ble_eq_true rfl) (by decide) dX11_soonSolved_106 (fun r31583 Y31584 h31585 => ?_)
            obtain ⟨rfl, h31585⟩ := h31585
            have h31585 : 0 ≤ r31583.toInt ∧ r31583.toInt ≤ 1 := h31585
            refine b_if_eq C 130 dX11_soonSolved_109 (by decide) (fun h31586 => ?_) (fun h31586 => ?_)
            · have h31586 : r31583.toInt = 0 := congrArg Int32.toInt h31586
              exact J130 P96 b96_4 b96_6 I96 X96 hb96_4 (by omega) hb96_6 (by omega) (by omega) (by omega)
            · have h31586 : r31583.toInt ≠ 0 := ti_ne h31586
              refine g_aload_n C dX11_soonSolved_112 rfl 0 rfl ?_
              obtain ⟨b31587, e31588, h31589⟩ := I96.fld (h31557) 9 16 2 rfl
              refine g_getR C fi_X11_53 rfl e31588 (h31557).1 (h31557).2 dX11_soonSolved_113 ?_
              refine g_iload C dX11_soonSolved_116 6 rfl ?_
              obtain ⟨b31590, e31591, h31592⟩ := I96.elm h31589 (by decide) (v96_7.toInt.toNat) (by omega)
              refine g_aldR C h31589.1 h31589.2.1 (by decide) (ix_in h31589.2.2 (by omega)) e31591 dX11_soonSolved_118 ?_
              refine g_aload C dX11_soonSolved_119 5 rfl ?_
              refine g_iload_n C dX11_soonSolved_121 rfl 1 rfl ?_
              refine g_iload C dX11_soonSolved_122 6 rfl ?_
              refine g_callVI (rest := [.ref b31590]) C mv_X11_375 [.int a2, .int v96_7] (s_X7_equation I96 hb96_6) (hb96_6).1 (hb96_6).2 rfl rfl (by decide) (Nat.le_of_ble_eq_true rfl) (by decide) dX11_soonSolved_124 (fun r31593 Y31594 h31595 => ?_)
              obtain ⟨rfl, h31595⟩ := h31595
              have h31595 : True := h31595
              refine g_callVV (rest := []) C mv_X11_392 [.int r31593] (s_X0_add I96 h31592) (h31592).1 (h31592).2 rfl rfl (by decide) (Nat.le_of_ble_eq_true rfl) (by decide) dX11_soonSolved_127 (fun Y31597 h31598 => ?_)
              obtain ⟨Iy31599, Xy31600⟩ := h31598
              have q31601 := Xy31600.keep hb96_4 (by decide) 1
              have q31602 := Xy31600.keep hb96_6 (by decide) 0
              have Xz31603 : EK [0, 5, 13] P Y31597 := X96.tr (Xy31600.mono (by decide))
              have h31604 := Xy31600.at h31557
              have h31605 := Xy31600.at hb96_4
              have h31606 := Xy31600.at hb96_6
              exact J130 Y31597 b96_4 b96_6 Iy31599 Xz31603 h31605 (by omega) h31606 (by omega) (by omega) (by omega)
      refine g_iload C dX11_soonSolved_60 4 rfl ?_
      refine g_aload C dX11_soonSolved_62 3 rfl ?_
      refine g_getI C fi_X11_336 (by decide) (hb60_4).1 (hb60_4).2 dX11_soonSolved_64 ?_
      have h31607 := I60.rg (hb60_4) 1 rfl
      refine b_icmp_ge C 175 dX11_soonSolved_67 (by decide) (fun h31608 => ?_) (fun h31608 => ?_)
      · have h31608 : (pI P60 b60_4 1).toInt ≤ v60_5.toInt := h31608
        refine g_iconst (v := (-1)) C dX11_soonSolved_175 (by decide) ?_
        exact ret _ _ _ _ _ _ dX11_soonSolved_176 rfl (by decide) (by decide) ⟨I60, X60, (by decide)⟩
      · have h31608 : v60_5.toInt < (pI P60 b60_4 1).toInt := h31608
        refine g_aload C dX11_soonSolved_70 3 rfl ?_
        refine g_iload C dX11_soonSolved_72 4 rfl ?_
        refine g_callVQ (rest := []) C mv_X11_337 [.int v60_5] (s_X6_at I60 hb60_4) (hb60_4).1 (hb60_4).2 rfl rfl (by decide) (Nat.le_of_ble_eq_true rfl) (by decide) dX11_soonSolved_74 (fun r31609 Y31610 h31611 => ?_)
        obtain ⟨rfl, h31611⟩ := h31611
        rcases h31611 with rfl | ⟨b31613, rfl, h31611, hj31612⟩
        · show G _ _ _ _ _ _ _ _ _ _ (.null :: _)
          refine g_astoreN (lv' := [(6, .null), (0, .ref a0), (2, .int a2), (3, .int a3), (4, .ref b60_4), (5, .int v60_5)]) C dX11_soonSolved_77 (by decide) rfl ?_
          refine g_aloadN C dX11_soonSolved_79 0 rfl ?_
          refine g_ifnullN C 169 dX11_soonSolved_81 (by decide) ?_
          refine g_lv (lv' := [(0, .ref a0), (2, .int a2), (3, .int a3), (4, .ref b60_4), (5, .int v60_5)]) [1, 2, 3, 4, 5] rfl ?_
          exact J169 P60 b60_4 I60 X60 hb60_4 (by omega) (by omega)
        · have hj31612 : ((0 : Int) ≤ v60_5.toInt ∧ v60_5.toInt ≤ (39 : Int)) := hj31612
          show G _ _ _ _ _ _ _ _ _ _ (.ref b31613 :: _)
          refine g_astore (lv' := [(6, .ref b31613), (0, .ref a0), (2, .int a2), (3, .int a3), (4, .ref b60_4), (5, .int v60_5)]) C dX11_soonSolved_77 (by decide) rfl ?_
          refine g_aload C dX11_soonSolved_79 0 rfl ?_
          refine g_ifnull C dX11_soonSolved_81 ?_
          refine g_aload C dX11_soonSolved_84 0 rfl ?_
          refine g_getI C fi_X11_191 (by decide) (h31611).1 (h31611).2 dX11_soonSolved_86 ?_
          have h31614 := I60.rg (h31611) 0 rfl
          refine g_iload_n C dX11_soonSolved_89 rfl 2 rfl ?_
          refine b_icmp_ne C 169 dX11_soonSolved_90 (by decide) (fun h31615 => ?_) (fun h31615 => ?_)
          · have h31615 : (pI P60 b31613 0).toInt ≠ a2.toInt := ti_ne h31615
            refine g_lv (lv' := [(0, .ref a0), (2, .int a2), (3, .int a3), (4, .ref b60_4), (5, .int v60_5)]) [1, 2, 3, 4, 5] rfl ?_
            exact J169 P60 b60_4 I60 X60 hb60_4 (by omega) (by omega)
          · have h31615 : (pI P60 b31613 0).toInt = a2.toInt := congrArg Int32.toInt h31615
            refine g_iconst (v := 0) C dX11_soonSolved_93 (by decide) ?_
            refine g_istore (lv' := [(7, .int 0), (6, .ref b31613), (0, .ref a0), (2, .int a2), (3, .int a3), (4, .ref b60_4), (5, .int v60_5)]) C dX11_soonSolved_94 (by decide) rfl ?_
            refine g_lv (lv' := [(0, .ref a0), (2, .int a2), (3, .int a3), (4, .ref b60_4), (5, .int v60_5), (6, .ref b31613), (7, .int 0)]) [2, 3, 4, 5, 6, 1, 0] rfl ?_
            exact J96 _ P60 b60_4 b31613 0 (Nat.lt_succ_self _) I60 X60 hb60_4 (by omega) h31611 (by decide) (by omega) (by omega)
  have J11 : ∀ (n11 : Nat) (P11 : PP) (b11_4 : Nat) (v11_5 : Int32), (2 - v11_5.toInt).toNat < n11 → (IV P11) → (EK [0, 5, 13] P P11) → (At P11 b11_4 6) → (0 ≤ v11_5.toInt ∧ v11_5.toInt ≤ 2) → G E ({ frames := 4, cells := 0, slots := 0, locals := 256 } : Room) D cy 8 P11 0 0 11 [(0, .ref a0), (2, .int a2), (3, .int a3), (4, .ref b11_4), (5, .int v11_5)] [] := by
    intro n11
    induction n11 with
    | zero => intro P11 b11_4 v11_5 hm11 I11 X11 hb11_4 hv11_5; omega
    | succ n11 ih11 =>
      intro P11 b11_4 v11_5 hm11 I11 X11 hb11_4 hv11_5
      have h31616 := X11.at ha0
      refine g_iload C dX11_soonSolved_11 4 rfl ?_
      refine g_iconst (v := 2) C dX11_soonSolved_13 (by decide) ?_
      refine b_icmp_ge C 57 dX11_soonSolved_14 (by decide) (fun h31617 => ?_) (fun h31617 => ?_)
      · have h31617 : 2 ≤ v11_5.toInt := h31617
        refine g_iconst (v := 0) C dX11_soonSolved_57 (by decide) ?_
        refine g_istore (lv' := [(5, .int 0), (0, .ref a0), (2, .int a2), (3, .int a3), (4, .ref b11_4)]) C dX11_soonSolved_58 (by decide) rfl ?_
        refine g_lv (lv' := [(0, .ref a0), (2, .int a2), (3, .int a3), (4, .ref b11_4), (5, .int 0)]) [1, 2, 3, 4, 0] rfl ?_
        exact J60 _ P11 b11_4 0 (Nat.lt_succ_self _) I11 X11 hb11_4 (by decide)
      · have h31617 : v11_5.toInt < 2 := h31617
        refine g_aload_n C dX11_soonSolved_17 rfl 0 rfl ?_
        obtain ⟨b31618, e31619, h31620⟩ := I11.fld (h31616) 8 18 2 rfl
        refine g_getR C fi_X11_47 rfl e31619 (h31616).1 (h31616).2 dX11_soonSolved_18 ?_
        refine g_iload C dX11_soonSolved_21 4 rfl ?_
        obtain ⟨b31621, e31622, h31623⟩ := I11.elm h31620 (by decide) (v11_5.toInt.toNat) (by omega)
        refine g_aldR C h31620.1 h31620.2.1 (by decide) (ix_in h31620.2.2 (by omega)) e31622 dX11_soonSolved_23 ?_
        refine g_aload_n C dX11_soonSolved_24 rfl 0 rfl ?_
        obtain ⟨b31624, e31625, h31626⟩ := I11.fld (h31616) 0 17 2 rfl
        refine g_getR C fi_X11_11 rfl e31625 (h31616).1 (h31616).2 dX11_soonSolved_25 ?_
        refine g_iload_n C dX11_soonSolved_28 rfl 1 rfl ?_
        obtain ⟨b31627, e31628, h31629⟩ := I11.elm h31626 (by decide) (a2.toInt.toNat) (by omega)
        refine g_aldR C h31626.1 h31626.2.1 (by decide) (ix_in h31626.2.2 (by omega)) e31628 dX11_soonSolved_29 ?_
        refine g_callVV (rest := []) C mv_X11_371 [.ref b31627] (s_X5_startWith I11 h31623 h31629) (h31623).1 (h31623).2 rfl rfl (by decide) (Nat.le_of_ble_eq_true rfl) (by decide) dX11_soonSolved_30 (fun Y31631 h31632 => ?_)
        obtain ⟨Iy31633, Xy31634⟩ := h31632
        have Xz31635 : EK [0, 5, 13] P Y31631 := X11.tr (Xy31634.mono (by decide))
        have h31636 := Xy31634.at h31616
        have h31637 := Xy31634.at hb11_4
        refine g_aload_n C dX11_soonSolved_33 rfl 0 rfl ?_
        obtain ⟨b31638, e31639, h31640⟩ := Iy31633.fld (h31636) 9 16 2 rfl
        refine g_getR C fi_X11_53 rfl e31639 (h31636).1 (h31636).2 dX11_soonSolved_34 ?_
        refine g_iload C dX11_soonSolved_37 4 rfl ?_
        obtain ⟨b31641, e31642, h31643⟩ := Iy31633.elm h31640 (by decide) (v11_5.toInt.toNat) (by omega)
        refine g_aldR C h31640.1 h31640.2.1 (by decide) (ix_in h31640.2.2 (by omega)) e31642 dX11_soonSolved_39 ?_
        refine g_aload_n C dX11_soonSolved_40 rfl 0 rfl ?_
        obtain ⟨b31644, e31645, h31646⟩ := Iy31633.fld (h31636) 8 18 2 rfl
        refine g_getR C fi_X11_47 rfl e31645 (h31636).1 (h31636).2 dX11_soonSolved_41 ?_
        refine g_iload C dX11_soonSolved_44 4 rfl ?_
        obtain ⟨b31647, e31648, h31649⟩ := Iy31633.elm h31646 (by decide) (v11_5.toInt.toNat) (by omega)
        refine g_aldR C h31646.1 h31646.2.1 (by decide) (ix_in h31646.2.2 (by omega)) e31648 dX11_soonSolved_46 ?_
        refine g_iconst (v := (-1)) C dX11_soonSolved_47 (by decide) ?_
        refine g_callVV (rest := []) C mv_X11_236 [.ref b31647, .int (-1)] (s_X0_take Iy31633 h31643 h31649) (h31643).1 (h31643).2 rfl rfl (by decide) (Nat.le_of_ble_eq_true rfl) (by decide) dX11_soonSolved_48 (fun Y31651 h31652 => ?_)
        obtain ⟨Iy31653, Xy31654⟩ := h31652
        have Xz31655 : EK [0, 5, 13] P Y31651 := Xz31635.tr (Xy31654.mono (by decide))
        have h31656 := Xy31654.at h31636
        have h31657 := Xy31654.at h31637
        refine s_iinc (lv0 := [(0, .ref a0), (2, .int a2), (3, .int a3), (4, .ref b11_4)]) (m := 1) C dX11_soonSolved_51 4 rfl (by decide) rfl (by decide) (by omega) (fun z31658 h31659 => ?_)
        have h31659 : z31658.toInt = v11_5.toInt + 1 := h31659
        refine g_goto C 11 dX11_soonSolved_54 (by decide) ?_
        refine g_lv (lv' := [(0, .ref a0), (2, .int a2), (3, .int a3), (4, .ref b11_4), (5, .int z31658)]) [1, 2, 3, 4, 0] rfl ?_
        exact ih11 Y31651 b11_4 z31658 (by omega) Iy31653 Xz31655 h31657 (by omega)
  refine g_aload_n C dX11_soonSolved_0 rfl 0 rfl ?_
  obtain ⟨b31660, e31661, h31662⟩ := I.fld (ha0) 1 19 4 rfl
  refine g_getR C fi_X11_17 rfl e31661 (ha0).1 (ha0).2 dX11_soonSolved_1 ?_
  refine g_iload_n C dX11_soonSolved_4 rfl 1 rfl ?_
  obtain ⟨b31663, e31664, h31665⟩ := I.elm h31662 (by decide) (a1.toInt.toNat) (by omega)
  refine g_aldR C h31662.1 h31662.2.1 (by decide) (ix_in h31662.2.2 (by omega)) e31664 dX11_soonSolved_5 ?_
  refine g_astore (lv' := [(4, .ref b31663), (0, .ref a0), (1, .int a1), (2, .int a2), (3, .int a3)]) C dX11_soonSolved_6 (by decide) rfl ?_
  refine g_iconst (v := 0) C dX11_soonSolved_8 (by decide) ?_
  refine g_istore (lv' := [(5, .int 0), (4, .ref b31663), (0, .ref a0), (1, .int a1), (2, .int a2), (3, .int a3)]) C dX11_soonSolved_9 (by decide) rfl ?_
  refine g_lv (lv' := [(0, .ref a0), (2, .int a2), (3, .int a3), (4, .ref b31663), (5, .int 0)]) [2, 4, 5, 1, 0] rfl ?_
  exact J11 _ P b31663 0 (Nat.lt_succ_self _) I EK.rf h31665 (by decide)
theorem dX11_soon_31 : decode cX11_soon 31 = .ok (.aload_n 0, 1) := by decide +kernel
theorem dX11_soon_32 : decode cX11_soon 32 = .ok (.iload_n 1, 1) := by decide +kernel
theorem dX11_soon_33 : decode cX11_soon 33 = .ok (.iload_n 2, 1) := by decide +kernel
theorem dX11_soon_34 : decode cX11_soon 34 = .ok (.iload_n 3, 1) := by decide +kernel
theorem dX11_soon_35 : decode cX11_soon 35 = .ok (.invokevirtual 256, 3) := by decide +kernel
theorem dX11_soon_48 : decode cX11_soon 48 = .ok (.ireturn, 1) := by decide +kernel
theorem dX11_soonPeeled_0 : decode cX11_soonPeeled 0 = .ok (.aload_n 0, 1) := by decide +kernel
theorem dX11_soonPeeled_1 : decode cX11_soonPeeled 1 = .ok (.getfield 17, 3) := by decide +kernel
theorem dX11_soonPeeled_4 : decode cX11_soonPeeled 4 = .ok (.iload_n 1, 1) := by decide +kernel
theorem dX11_soonPeeled_5 : decode cX11_soonPeeled 5 = .ok (.aaload, 1) := by decide +kernel
theorem dX11_soonPeeled_6 : decode cX11_soonPeeled 6 = .ok (.astore 4, 2) := by decide +kernel
theorem dX11_soonPeeled_8 : decode cX11_soonPeeled 8 = .ok (.iconst 0, 1) := by decide +kernel
theorem dX11_soonPeeled_9 : decode cX11_soonPeeled 9 = .ok (.istore 5, 2) := by decide +kernel
theorem dX11_soonPeeled_11 : decode cX11_soonPeeled 11 = .ok (.iconst 0, 1) := by decide +kernel
theorem dX11_soonPeeled_12 : decode cX11_soonPeeled 12 = .ok (.istore 6, 2) := by decide +kernel
theorem dX11_soonPeeled_14 : decode cX11_soonPeeled 14 = .ok (.aload_n 0, 1) := by decide +kernel
theorem dX11_soonPeeled_15 : decode cX11_soonPeeled 15 = .ok (.getfield 47, 3) := by decide +kernel
theorem dX11_soonPeeled_18 : decode cX11_soonPeeled 18 = .ok (.iconst 0, 1) := by decide +kernel
theorem dX11_soonPeeled_19 : decode cX11_soonPeeled 19 = .ok (.aaload, 1) := by decide +kernel
theorem dX11_soonPeeled_20 : decode cX11_soonPeeled 20 = .ok (.aload_n 0, 1) := by decide +kernel
theorem dX11_soonPeeled_21 : decode cX11_soonPeeled 21 = .ok (.getfield 11, 3) := by decide +kernel
theorem dX11_soonPeeled_24 : decode cX11_soonPeeled 24 = .ok (.iload_n 2, 1) := by decide +kernel
theorem dX11_soonPeeled_25 : decode cX11_soonPeeled 25 = .ok (.aaload, 1) := by decide +kernel
theorem dX11_soonPeeled_26 : decode cX11_soonPeeled 26 = .ok (.invokevirtual 371, 3) := by decide +kernel
theorem dX11_soonPeeled_29 : decode cX11_soonPeeled 29 = .ok (.aload_n 0, 1) := by decide +kernel
theorem dX11_soonPeeled_30 : decode cX11_soonPeeled 30 = .ok (.getfield 47, 3) := by decide +kernel
theorem dX11_soonPeeled_33 : decode cX11_soonPeeled 33 = .ok (.iconst 1, 1) := by decide +kernel
theorem dX11_soonPeeled_34 : decode cX11_soonPeeled 34 = .ok (.aaload, 1) := by decide +kernel
theorem dX11_soonPeeled_35 : decode cX11_soonPeeled 35 = .ok (.aload_n 0, 1) := by decide +kernel
theorem dX11_soonPeeled_36 : decode cX11_soonPeeled 36 = .ok (.getfield 11, 3) := by decide +kernel
theorem dX11_soonPeeled_39 : decode cX11_soonPeeled 39 = .ok (.iload_n 2, 1) := by decide +kernel
theorem dX11_soonPeeled_40 : decode cX11_soonPeeled 40 = .ok (.aaload, 1) := by decide +kernel
theorem dX11_soonPeeled_41 : decode cX11_soonPeeled 41 = .ok (.invokevirtual 371, 3) := by decide +kernel
theorem dX11_soonPeeled_44 : decode cX11_soonPeeled 44 = .ok (.iconst 0, 1) := by decide +kernel
theorem dX11_soonPeeled_45 : decode cX11_soonPeeled 45 = .ok (.istore 7, 2) := by decide +kernel
theorem dX11_soonPeeled_47 : decode cX11_soonPeeled 47 = .ok (.iload 7, 2) := by decide +kernel
theorem dX11_soonPeeled_49 : decode cX11_soonPeeled 49 = .ok (.aload 4, 2) := by decide +kernel
theorem dX11_soonPeeled_51 : decode cX11_soonPeeled 51 = .ok (.getfield 336, 3) := by decide +kernel
theorem dX11_soonPeeled_54 : decode cX11_soonPeeled 54 = .ok (.if_icmp .ge 75, 3) := by decide +kernel
theorem dX11_soonPeeled_57 : decode cX11_soonPeeled 57 = .ok (.aload 4, 2) := by decide +kernel
theorem dX11_soonPeeled_59 : decode cX11_soonPeeled 59 = .ok (.iload 7, 2) := by decide +kernel
theorem dX11_soonPeeled_61 : decode cX11_soonPeeled 61 = .ok (.invokevirtual 337, 3) := by decide +kernel
theorem dX11_soonPeeled_64 : decode cX11_soonPeeled 64 = .ok (.astore 8, 2) := by decide +kernel
theorem dX11_soonPeeled_66 : decode cX11_soonPeeled 66 = .ok (.aload 8, 2) := by decide +kernel
theorem dX11_soonPeeled_68 : decode cX11_soonPeeled 68 = .ok (.ifnull 55, 3) := by decide +kernel
theorem dX11_soonPeeled_71 : decode cX11_soonPeeled 71 = .ok (.aload 8, 2) := by decide +kernel
theorem dX11_soonPeeled_73 : decode cX11_soonPeeled 73 = .ok (.getfield 191, 3) := by decide +kernel
theorem dX11_soonPeeled_76 : decode cX11_soonPeeled 76 = .ok (.iload_n 2, 1) := by decide +kernel
theorem dX11_soonPeeled_77 : decode cX11_soonPeeled 77 = .ok (.if_icmp .ne 46, 3) := by decide +kernel
theorem dX11_soonPeeled_80 : decode cX11_soonPeeled 80 = .ok (.aload_n 0, 1) := by decide +kernel
theorem dX11_soonPeeled_81 : decode cX11_soonPeeled 81 = .ok (.aload 8, 2) := by decide +kernel
theorem dX11_soonPeeled_83 : decode cX11_soonPeeled 83 = .ok (.iconst 0, 1) := by decide +kernel
theorem dX11_soonPeeled_84 : decode cX11_soonPeeled 84 = .ok (.iload 7, 2) := by decide +kernel
theorem dX11_soonPeeled_86 : decode cX11_soonPeeled 86 = .ok (.iload 5, 2) := by decide +kernel
theorem dX11_soonPeeled_88 : decode cX11_soonPeeled 88 = .ok (.invokevirtual 385, 3) := by decide +kernel
theorem dX11_soonPeeled_129 : decode cX11_soonPeeled 129 = .ok (.iconst (-1), 1) := by decide +kernel
theorem dX11_soonPeeled_130 : decode cX11_soonPeeled 130 = .ok (.ireturn, 1) := by decide +kernel
theorem dX11_spreadWith_0 : decode cX11_spreadWith 0 = .ok (.aload_n 1, 1) := by decide +kernel
theorem dX11_spreadWith_1 : decode cX11_spreadWith 1 = .ok (.iload_n 2, 1) := by decide +kernel
theorem dX11_spreadWith_2 : decode cX11_spreadWith 2 = .ok (.invokevirtual 365, 3) := by decide +kernel
theorem dX11_spreadWith_5 : decode cX11_spreadWith 5 = .ok (.ifCond .ne 6, 3) := by decide +kernel
theorem dX11_spreadWith_8 : decode cX11_spreadWith 8 = .ok (.iload 4, 2) := by decide +kernel
theorem dX11_spreadWith_10 : decode cX11_spreadWith 10 = .ok (.ireturn, 1) := by decide +kernel
theorem dX11_spreadWith_11 : decode cX11_spreadWith 11 = .ok (.aload_n 0, 1) := by decide +kernel
theorem dX11_spreadWith_12 : decode cX11_spreadWith 12 = .ok (.getfield 47, 3) := by decide +kernel
theorem dX11_spreadWith_15 : decode cX11_spreadWith 15 = .ok (.iload_n 2, 1) := by decide +kernel
theorem dX11_spreadWith_16 : decode cX11_spreadWith 16 = .ok (.aaload, 1) := by decide +kernel
theorem dX11_spreadWith_17 : decode cX11_spreadWith 17 = .ok (.aload_n 1, 1) := by decide +kernel
theorem dX11_spreadWith_18 : decode cX11_spreadWith 18 = .ok (.aload_n 1, 1) := by decide +kernel
theorem dX11_spreadWith_19 : decode cX11_spreadWith 19 = .ok (.getfield 191, 3) := by decide +kernel
theorem dX11_spreadWith_22 : decode cX11_spreadWith 22 = .ok (.iload_n 2, 1) := by decide +kernel
theorem dX11_spreadWith_23 : decode cX11_spreadWith 23 = .ok (.invokevirtual 375, 3) := by decide +kernel
theorem dX11_spreadWith_26 : decode cX11_spreadWith 26 = .ok (.iload_n 3, 1) := by decide +kernel
theorem dX11_spreadWith_27 : decode cX11_spreadWith 27 = .ok (.invokevirtual 378, 3) := by decide +kernel
theorem dX11_spreadWith_30 : decode cX11_spreadWith 30 = .ok (.aload_n 0, 1) := by decide +kernel
theorem dX11_spreadWith_31 : decode cX11_spreadWith 31 = .ok (.getfield 47, 3) := by decide +kernel
theorem dX11_spreadWith_34 : decode cX11_spreadWith 34 = .ok (.iload_n 2, 1) := by decide +kernel
theorem dX11_spreadWith_35 : decode cX11_spreadWith 35 = .ok (.aaload, 1) := by decide +kernel
theorem dX11_spreadWith_36 : decode cX11_spreadWith 36 = .ok (.iload 4, 2) := by decide +kernel
theorem dX11_spreadWith_38 : decode cX11_spreadWith 38 = .ok (.invokevirtual 389, 3) := by decide +kernel
theorem dX11_spreadWith_41 : decode cX11_spreadWith 41 = .ok (.ireturn, 1) := by decide +kernel
set_option maxHeartbeats 4000000 in
set_option maxRecDepth 100000 in
theorem s_X11_spreadWith {P : PP} {a0 : Nat} {a1 : Nat} {a2 : Int32} {a3 : Int32} {a4 : Int32} (I : IV P) (ha0 : At P a0 11) (ha1 : At P a1 7) (ha2 : 0 ≤ a2.toInt ∧ a2.toInt ≤ 1) : CtrI yX11_spreadWith cX11_spreadWith 5 (some Jvm.ClassFile.FieldType.int) ({ frames := 3, cells := 0, slots := 0, locals := 192 } : Room) 0 0 P [.ref a0, .ref a1, .int a2, .int a3, .int a4] (fun r P2 => IV P2 ∧ EK [5, 13] P P2 ∧ (True)) := by
  refine enI (lv := [(0, .ref a0), (1, .ref a1), (2, .int a2), (3, .int a3), (4, .int a4)]) (by decide) (Nat.le_of_ble_eq_true rfl) rfl (fun E D cy C Ci0 ret => ?_)
  refine g_aload_n C dX11_spreadWith_0 rfl 1 rfl ?_
  refine g_iload_n C dX11_spreadWith_1 rfl 2 rfl ?_
  refine g_callVI (rest := []) C mv_X11_365 [.int a2] (s_X7_hasOctet I ha1) (ha1).1 (ha1).2 rfl rfl (by decide) (Nat.le_of_ble_eq_true rfl) (by decide) dX11_spreadWith_2 (fun r31777 Y31778 h31779 => ?_)
  obtain ⟨rfl, h31779⟩ := h31779
  have h31779 : 0 ≤ r31777.toInt ∧ r31777.toInt ≤ 1 := h31779
  refine b_if_ne C 11 dX11_spreadWith_5 (by decide) (fun h31780 => ?_) (fun h31780 => ?_)
  · have h31780 : r31777.toInt ≠ 0 := ti_ne h31780
    refine g_aload_n C dX11_spreadWith_11 rfl 0 rfl ?_
    obtain ⟨b31781, e31782, h31783⟩ := I.fld (ha0) 8 18 2 rfl
    refine g_getR C fi_X11_47 rfl e31782 (ha0).1 (ha0).2 dX11_spreadWith_12 ?_
    refine g_iload_n C dX11_spreadWith_15 rfl 2 rfl ?_
    obtain ⟨b31784, e31785, h31786⟩ := I.elm h31783 (by decide) (a2.toInt.toNat) (by omega)
    refine g_aldR C h31783.1 h31783.2.1 (by decide) (ix_in h31783.2.2 (by omega)) e31785 dX11_spreadWith_16 ?_
    refine g_aload_n C dX11_spreadWith_17 rfl 1 rfl ?_
    refine g_aload_n C dX11_spreadWith_18 rfl 1 rfl ?_
    refine g_getI C fi_X11_191 (by decide) (ha1).1 (ha1).2 dX11_spreadWith_19 ?_
    have h31787 := I.rg (ha1) 0 rfl
    refine g_iload_n C dX11_spreadWith_22 rfl 2 rfl ?_
    refine g_callVI (rest := [.ref b31784]) C mv_X11_375 [.int (pI P a1 0), .int a2] (s_X7_equation I ha1) (ha1).1 (ha1).2 rfl rfl (by decide) (Nat.le_of_ble_eq_true rfl) (by decide) dX11_spreadWith_23 (fun r31788 Y31789 h31790 => ?_)
    obtain ⟨rfl, h31790⟩ := h31790
    have h31790 : True := h31790
    refine g_iload_n C dX11_spreadWith_26 rfl 3 rfl ?_
    refine g_callVV (rest := []) C mv_X11_378 [.int r31788, .int a3] (s_X5_add I h31786) (h31786).1 (h31786).2 rfl rfl (by decide) (Nat.le_of_ble_eq_true rfl) (by decide) dX11_spreadWith_27 (fun Y31792 h31793 => ?_)
    obtain ⟨Iy31794, Xy31795⟩ := h31793
    have q31796 := Xy31795.keep ha1 (by decide) 0
    have Xz31797 : EK [5, 13] P Y31792 := Xy31795.mono (by decide)
    have h31798 := Xy31795.at ha0
    have h31799 := Xy31795.at ha1
    refine g_aload_n C dX11_spreadWith_30 rfl 0 rfl ?_
    obtain ⟨b31800, e31801, h31802⟩ := Iy31794.fld (h31798) 8 18 2 rfl
    refine g_getR C fi_X11_47 rfl e31801 (h31798).1 (h31798).2 dX11_spreadWith_31 ?_
    refine g_iload_n C dX11_spreadWith_34 rfl 2 rfl ?_
    obtain ⟨b31803, e31804, h31805⟩ := Iy31794.elm h31802 (by decide) (a2.toInt.toNat) (by omega)
    refine g_aldR C h31802.1 h31802.2.1 (by decide) (ix_in h31802.2.2 (by omega)) e31804 dX11_spreadWith_35 ?_
    refine g_iload C dX11_spreadWith_36 4 rfl ?_
    refine g_callVI (rest := []) C mv_X11_389 [.int a4] (s_X5_spread Iy31794 h31805) (h31805).1 (h31805).2 rfl rfl (by decide) (Nat.le_of_ble_eq_true rfl) (by decide) dX11_spreadWith_38 (fun r31806 Y31807 h31808 => ?_)
    obtain ⟨rfl, h31808⟩ := h31808
    have h31808 : True := h31808
    exact ret _ _ _ _ _ _ dX11_spreadWith_41 rfl (by decide) (by decide) ⟨Iy31794, Xz31797, trivial⟩
  · have h31780 : r31777.toInt = 0 := congrArg Int32.toInt h31780
    refine g_iload C dX11_spreadWith_8 4 rfl ?_
    exact ret _ _ _ _ _ _ dX11_spreadWith_10 rfl (by decide) (by decide) ⟨I, EK.rf, trivial⟩
theorem dX11_soonPeeled_91 : decode cX11_soonPeeled 91 = .ok (.istore 5, 2) := by decide +kernel
theorem dX11_soonPeeled_93 : decode cX11_soonPeeled 93 = .ok (.aload_n 0, 1) := by decide +kernel
theorem dX11_soonPeeled_94 : decode cX11_soonPeeled 94 = .ok (.aload 8, 2) := by decide +kernel
theorem dX11_soonPeeled_96 : decode cX11_soonPeeled 96 = .ok (.iconst 1, 1) := by decide +kernel
theorem dX11_soonPeeled_97 : decode cX11_soonPeeled 97 = .ok (.iload 7, 2) := by decide +kernel
theorem dX11_soonPeeled_99 : decode cX11_soonPeeled 99 = .ok (.iload 6, 2) := by decide +kernel
theorem dX11_soonPeeled_101 : decode cX11_soonPeeled 101 = .ok (.invokevirtual 385, 3) := by decide +kernel
theorem dX11_soonPeeled_104 : decode cX11_soonPeeled 104 = .ok (.istore 6, 2) := by decide +kernel
theorem dX11_soonPeeled_106 : decode cX11_soonPeeled 106 = .ok (.iload 5, 2) := by decide +kernel
theorem dX11_soonPeeled_108 : decode cX11_soonPeeled 108 = .ok (.iload 6, 2) := by decide +kernel
theorem dX11_soonPeeled_110 : decode cX11_soonPeeled 110 = .ok (.iand, 1) := by decide +kernel
theorem dX11_soonPeeled_111 : decode cX11_soonPeeled 111 = .ok (.iconst 1, 1) := by decide +kernel
theorem dX11_soonPeeled_112 : decode cX11_soonPeeled 112 = .ok (.iload_n 3, 1) := by decide +kernel
theorem dX11_soonPeeled_113 : decode cX11_soonPeeled 113 = .ok (.ishl, 1) := by decide +kernel
theorem dX11_soonPeeled_114 : decode cX11_soonPeeled 114 = .ok (.iand, 1) := by decide +kernel
theorem dX11_soonPeeled_115 : decode cX11_soonPeeled 115 = .ok (.ifCond .eq 8, 3) := by decide +kernel
theorem dX11_soonPeeled_118 : decode cX11_soonPeeled 118 = .ok (.iload 7, 2) := by decide +kernel
theorem dX11_soonPeeled_120 : decode cX11_soonPeeled 120 = .ok (.iconst 1, 1) := by decide +kernel
theorem dX11_soonPeeled_121 : decode cX11_soonPeeled 121 = .ok (.iadd, 1) := by decide +kernel
theorem dX11_soonPeeled_122 : decode cX11_soonPeeled 122 = .ok (.ireturn, 1) := by decide +kernel
theorem dX11_soonPeeled_123 : decode cX11_soonPeeled 123 = .ok (.iinc 7 1, 3) := by decide +kernel
theorem dX11_soonPeeled_126 : decode cX11_soonPeeled 126 = .ok (.goto (-79), 3) := by decide +kernel
set_option maxHeartbeats 4000000 in
set_option maxRecDepth 100000 in
theorem s_X11_soonPeeled {P : PP} {a0 : Nat} {a1 : Int32} {a2 : Int32} {a3 : Int32} (I : IV P) (ha0 : At P a0 11) (ha1 : 0 ≤ a1.toInt ∧ a1.toInt ≤ 3) (ha2 : 0 ≤ a2.toInt ∧ a2.toInt ≤ 1) : CtrI yX11_soonPeeled cX11_soonPeeled 9 (some Jvm.ClassFile.FieldType.int) ({ frames := 4, cells := 0, slots := 0, locals := 256 } : Room) 0 0 P [.ref a0, .int a1, .int a2, .int a3] (fun r P2 => IV P2 ∧ EK [5, 13] P P2 ∧ (-1 ≤ r.toInt ∧ r.toInt ≤ 40)) := by
  refine enI (lv := [(0, .ref a0), (1, .int a1), (2, .int a2), (3, .int a3)]) (by decide) (Nat.le_of_ble_eq_true rfl) rfl (fun E D cy C Ci0 ret => ?_)
  have J47 : ∀ (n47 : Nat) (P47 : PP) (b47_4 : Nat) (v47_5 : Int32) (v47_6 : Int32) (v47_7 : Int32), (40 - v47_7.toInt).toNat < n47 → (IV P47) → (EK [5, 13] P P47) → (At P47 b47_4 6) → (0 ≤ v47_7.toInt ∧ v47_7.toInt ≤ 40) → G E ({ frames := 4, cells := 0, slots := 0, locals := 256 } : Room) D cy 9 P47 0 0 47 [(0, .ref a0), (2, .int a2), (3, .int a3), (4, .ref b47_4), (5, .int v47_5), (6, .int v47_6), (7, .int v47_7)] [] := by
    intro n47
    induction n47 with
    | zero => intro P47 b47_4 v47_5 v47_6 v47_7 hm47 I47 X47 hb47_4 hv47_7; omega
    | succ n47 ih47 =>
      intro P47 b47_4 v47_5 v47_6 v47_7 hm47 I47 X47 hb47_4 hv47_7
      have h32530 := X47.at ha0
      have J123 : ∀ (P123 : PP) (b123_4 : Nat) (v123_5 : Int32) (v123_6 : Int32), (IV P123) → (EK [5, 13] P P123) → (At P123 b123_4 6) → (0 ≤ v47_7.toInt ∧ v47_7.toInt ≤ 39) → (1 ≤ (pI P123 b123_4 1).toInt ∧ (pI P123 b123_4 1).toInt ≤ 40) → G E ({ frames := 4, cells := 0, slots := 0, locals := 256 } : Room) D cy 9 P123 0 0 123 [(0, .ref a0), (2, .int a2), (3, .int a3), (4, .ref b123_4), (5, .int v123_5), (6, .int v123_6), (7, .int v47_7)] [] := by
        intro P123 b123_4 v123_5 v123_6 I123 X123 hb123_4 hv123_7 hq123_0
        have h32531 := X123.at ha0
        refine s_iinc (lv0 := [(0, .ref a0), (2, .int a2), (3, .int a3), (4, .ref b123_4), (5, .int v123_5), (6, .int v123_6)]) (m := 1) C dX11_soonPeeled_123 6 rfl (by decide) rfl (by decide) (by omega) (fun z32532 h32533 => ?_)
        have h32533 : z32532.toInt = v47_7.toInt + 1 := h32533
        refine g_goto C 47 dX11_soonPeeled_126 (by decide) ?_
        refine g_lv (lv' := [(0, .ref a0), (2, .int a2), (3, .int a3), (4, .ref b123_4), (5, .int v123_5), (6, .int v123_6), (7, .int z32532)]) [1, 2, 3, 4, 5, 6, 0] rfl ?_
        exact ih47 P123 b123_4 v123_5 v123_6 z32532 (by omega) I123 X123 hb123_4 (by omega)
      refine g_iload C dX11_soonPeeled_47 6 rfl ?_
      refine g_aload C dX11_soonPeeled_49 3 rfl ?_
      refine g_getI C fi_X11_336 (by decide) (hb47_4).1 (hb47_4).2 dX11_soonPeeled_51 ?_
      have h32534 := I47.rg (hb47_4) 1 rfl
      refine b_icmp_ge C 129 dX11_soonPeeled_54 (by decide) (fun h32535 => ?_) (fun h32535 => ?_)
      · have h32535 : (pI P47 b47_4 1).toInt ≤ v47_7.toInt := h32535
        refine g_iconst (v := (-1)) C dX11_soonPeeled_129 (by decide) ?_
        exact ret _ _ _ _ _ _ dX11_soonPeeled_130 rfl (by decide) (by decide) ⟨I47, X47, (by decide)⟩
      · have h32535 : v47_7.toInt < (pI P47 b47_4 1).toInt := h32535
        refine g_aload C dX11_soonPeeled_57 3 rfl ?_
        refine g_iload C dX11_soonPeeled_59 6 rfl ?_
        refine g_callVQ (rest := []) C mv_X11_337 [.int v47_7] (s_X6_at I47 hb47_4) (hb47_4).1 (hb47_4).2 rfl rfl (by decide) (Nat.le_of_ble_eq_true rfl) (by decide) dX11_soonPeeled_61 (fun r32536 Y32537 h32538 => ?_)
        obtain ⟨rfl, h32538⟩ := h32538
        rcases h32538 with rfl | ⟨b32540, rfl, h32538, hj32539⟩
        · show G _ _ _ _ _ _ _ _ _ _ (.null :: _)
          refine g_astoreN (lv' := [(8, .null), (0, .ref a0), (2, .int a2), (3, .int a3), (4, .ref b47_4), (5, .int v47_5), (6, .int v47_6), (7, .int v47_7)]) C dX11_soonPeeled_64 (by decide) rfl ?_
          refine g_aloadN C dX11_soonPeeled_66 0 rfl ?_
          refine g_ifnullN C 123 dX11_soonPeeled_68 (by decide) ?_
          refine g_lv (lv' := [(0, .ref a0), (2, .int a2), (3, .int a3), (4, .ref b47_4), (5, .int v47_5), (6, .int v47_6), (7, .int v47_7)]) [1, 2, 3, 4, 5, 6, 7] rfl ?_
          exact J123 P47 b47_4 v47_5 v47_6 I47 X47 hb47_4 (by omega) (by omega)
        · have hj32539 : ((0 : Int) ≤ v47_7.toInt ∧ v47_7.toInt ≤ (39 : Int)) := hj32539
          show G _ _ _ _ _ _ _ _ _ _ (.ref b32540 :: _)
          refine g_astore (lv' := [(8, .ref b32540), (0, .ref a0), (2, .int a2), (3, .int a3), (4, .ref b47_4), (5, .int v47_5), (6, .int v47_6), (7, .int v47_7)]) C dX11_soonPeeled_64 (by decide) rfl ?_
          refine g_aload C dX11_soonPeeled_66 0 rfl ?_
          refine g_ifnull C dX11_soonPeeled_68 ?_
          refine g_aload C dX11_soonPeeled_71 0 rfl ?_
          refine g_getI C fi_X11_191 (by decide) (h32538).1 (h32538).2 dX11_soonPeeled_73 ?_
          have h32541 := I47.rg (h32538) 0 rfl
          refine g_iload_n C dX11_soonPeeled_76 rfl 2 rfl ?_
          refine b_icmp_ne C 123 dX11_soonPeeled_77 (by decide) (fun h32542 => ?_) (fun h32542 => ?_)
          · have h32542 : (pI P47 b32540 0).toInt ≠ a2.toInt := ti_ne h32542
            refine g_lv (lv' := [(0, .ref a0), (2, .int a2), (3, .int a3), (4, .ref b47_4), (5, .int v47_5), (6, .int v47_6), (7, .int v47_7)]) [1, 2, 3, 4, 5, 6, 7] rfl ?_
            exact J123 P47 b47_4 v47_5 v47_6 I47 X47 hb47_4 (by omega) (by omega)
          · have h32542 : (pI P47 b32540 0).toInt = a2.toInt := congrArg Int32.toInt h32542
            refine g_aload_n C dX11_soonPeeled_80 rfl 1 rfl ?_
            refine g_aload C dX11_soonPeeled_81 0 rfl ?_
            refine g_iconst (v := 0) C dX11_soonPeeled_83 (by decide) ?_
            refine g_iload C dX11_soonPeeled_84 7 rfl ?_
            refine g_iload C dX11_soonPeeled_86 5 rfl ?_
            refine g_callVI (rest := []) C mv_X11_385 [.ref b32540, .int 0, .int v47_7, .int v47_5] (s_X11_spreadWith I47 h32530 h32538 (by decide)) (h32530).1 (h32530).2 rfl rfl (by decide) (Nat.le_of_ble_eq_true rfl) (by decide) dX11_soonPeeled_88 (fun r32543 Y32544 h32545 => ?_)
            obtain ⟨Iy32546, Xy32547, h32545⟩ := h32545
            have q32548 := Xy32547.keep hb47_4 (by decide) 1
            have q32549 := Xy32547.keep h32538 (by decide) 0
            have Xz32550 : EK [5, 13] P Y32544 := X47.tr (Xy32547.mono (by decide))
            have h32551 := Xy32547.at h32530
            have h32552 := Xy32547.at h32538
            have h32553 := Xy32547.at hb47_4
            have h32545 : True := h32545
            refine g_istore (lv' := [(5, .int r32543), (8, .ref b32540), (0, .ref a0), (2, .int a2), (3, .int a3), (4, .ref b47_4), (6, .int v47_6), (7, .int v47_7)]) C dX11_soonPeeled_91 (by decide) rfl ?_
            refine g_aload_n C dX11_soonPeeled_93 rfl 2 rfl ?_
            refine g_aload C dX11_soonPeeled_94 1 rfl ?_
            refine g_iconst (v := 1) C dX11_soonPeeled_96 (by decide) ?_
            refine g_iload C dX11_soonPeeled_97 7 rfl ?_
            refine g_iload C dX11_soonPeeled_99 6 rfl ?_
            refine g_callVI (rest := []) C mv_X11_385 [.ref b32540, .int 1, .int v47_7, .int v47_6] (s_X11_spreadWith Iy32546 h32551 h32552 (by decide)) (h32551).1 (h32551).2 rfl rfl (by decide) (Nat.le_of_ble_eq_true rfl) (by decide) dX11_soonPeeled_101 (fun r32554 Y32555 h32556 => ?_)
            obtain ⟨Iy32557, Xy32558, h32556⟩ := h32556
            have q32559 := Xy32558.keep h32553 (by decide) 1
            have q32560 := Xy32558.keep h32552 (by decide) 0
            have Xz32561 : EK [5, 13] P Y32555 := Xz32550.tr (Xy32558.mono (by decide))
            have h32562 := Xy32558.at h32551
            have h32563 := Xy32558.at h32552
            have h32564 := Xy32558.at h32553
            have h32556 : True := h32556
            refine g_istore (lv' := [(6, .int r32554), (5, .int r32543), (8, .ref b32540), (0, .ref a0), (2, .int a2), (3, .int a3), (4, .ref b47_4), (7, .int v47_7)]) C dX11_soonPeeled_104 (by decide) rfl ?_
            refine g_iload C dX11_soonPeeled_106 1 rfl ?_
            refine g_iload C dX11_soonPeeled_108 0 rfl ?_
            refine a_iand C dX11_soonPeeled_110 (fun z32565 => ?_)
            refine g_iconst (v := 1) C dX11_soonPeeled_111 (by decide) ?_
            refine g_iload_n C dX11_soonPeeled_112 rfl 5 rfl ?_
            refine a_ishl C dX11_soonPeeled_113 (fun z32567 => ?_)
            refine a_iand C dX11_soonPeeled_114 (fun z32569 => ?_)
            have u32572 := ti_rng z32569
            refine b_if_eq C 123 dX11_soonPeeled_115 (by decide) (fun h32571 => ?_) (fun h32571 => ?_)
            · have h32571 : z32569.toInt = 0 := congrArg Int32.toInt h32571
              refine g_lv (lv' := [(0, .ref a0), (2, .int a2), (3, .int a3), (4, .ref b47_4), (5, .int r32543), (6, .int r32554), (7, .int v47_7)]) [3, 4, 5, 6, 1, 0, 7] rfl ?_
              exact J123 Y32555 b47_4 r32543 r32554 Iy32557 Xz32561 h32564 (by omega) (by omega)
            · have h32571 : z32569.toInt ≠ 0 := ti_ne h32571
              refine g_iload C dX11_soonPeeled_118 7 rfl ?_
              refine g_iconst (v := 1) C dX11_soonPeeled_120 (by decide) ?_
              refine s_iadd C dX11_soonPeeled_121 (by show -2147483648 ≤ v47_7.toInt + 1 ∧ v47_7.toInt + 1 ≤ 2147483647; omega) (fun z32573 h32574 => ?_)
              have h32574 : z32573.toInt = v47_7.toInt + 1 := h32574
              exact ret _ _ _ _ _ _ dX11_soonPeeled_122 rfl (by decide) (by decide) ⟨Iy32557, Xz32561, (by omega)⟩
  refine g_aload_n C dX11_soonPeeled_0 rfl 0 rfl ?_
  obtain ⟨b32575, e32576, h32577⟩ := I.fld (ha0) 1 19 4 rfl
  refine g_getR C fi_X11_17 rfl e32576 (ha0).1 (ha0).2 dX11_soonPeeled_1 ?_
  refine g_iload_n C dX11_soonPeeled_4 rfl 1 rfl ?_
  obtain ⟨b32578, e32579, h32580⟩ := I.elm h32577 (by decide) (a1.toInt.toNat) (by omega)
  refine g_aldR C h32577.1 h32577.2.1 (by decide) (ix_in h32577.2.2 (by omega)) e32579 dX11_soonPeeled_5 ?_
  refine g_astore (lv' := [(4, .ref b32578), (0, .ref a0), (1, .int a1), (2, .int a2), (3, .int a3)]) C dX11_soonPeeled_6 (by decide) rfl ?_
  refine g_iconst (v := 0) C dX11_soonPeeled_8 (by decide) ?_
  refine g_istore (lv' := [(5, .int 0), (4, .ref b32578), (0, .ref a0), (1, .int a1), (2, .int a2), (3, .int a3)]) C dX11_soonPeeled_9 (by decide) rfl ?_
  refine g_iconst (v := 0) C dX11_soonPeeled_11 (by decide) ?_
  refine g_istore (lv' := [(6, .int 0), (5, .int 0), (4, .ref b32578), (0, .ref a0), (1, .int a1), (2, .int a2), (3, .int a3)]) C dX11_soonPeeled_12 (by decide) rfl ?_
  refine g_aload_n C dX11_soonPeeled_14 rfl 3 rfl ?_
  obtain ⟨b32581, e32582, h32583⟩ := I.fld (ha0) 8 18 2 rfl
  refine g_getR C fi_X11_47 rfl e32582 (ha0).1 (ha0).2 dX11_soonPeeled_15 ?_
  refine g_iconst (v := 0) C dX11_soonPeeled_18 (by decide) ?_
  obtain ⟨b32584, e32585, h32586⟩ := I.elm h32583 (by decide) 0 (by decide)
  refine g_aldR C h32583.1 h32583.2.1 (by decide) (IX.litn (j := 0) h32583.2.2 rfl (by decide) (by decide)) e32585 dX11_soonPeeled_19 ?_
  refine g_aload_n C dX11_soonPeeled_20 rfl 3 rfl ?_
  obtain ⟨b32587, e32588, h32589⟩ := I.fld (ha0) 0 17 2 rfl
  refine g_getR C fi_X11_11 rfl e32588 (ha0).1 (ha0).2 dX11_soonPeeled_21 ?_
  refine g_iload_n C dX11_soonPeeled_24 rfl 5 rfl ?_
  obtain ⟨b32590, e32591, h32592⟩ := I.elm h32589 (by decide) (a2.toInt.toNat) (by omega)
  refine g_aldR C h32589.1 h32589.2.1 (by decide) (ix_in h32589.2.2 (by omega)) e32591 dX11_soonPeeled_25 ?_
  refine g_callVV (rest := []) C mv_X11_371 [.ref b32590] (s_X5_startWith I h32586 h32592) (h32586).1 (h32586).2 rfl rfl (by decide) (Nat.le_of_ble_eq_true rfl) (by decide) dX11_soonPeeled_26 (fun Y32594 h32595 => ?_)
  obtain ⟨Iy32596, Xy32597⟩ := h32595
  have Xz32598 : EK [5, 13] P Y32594 := Xy32597.mono (by decide)
  have h32599 := Xy32597.at ha0
  have h32600 := Xy32597.at h32580
  refine g_aload_n C dX11_soonPeeled_29 rfl 3 rfl ?_
  obtain ⟨b32601, e32602, h32603⟩ := Iy32596.fld (h32599) 8 18 2 rfl
  refine g_getR C fi_X11_47 rfl e32602 (h32599).1 (h32599).2 dX11_soonPeeled_30 ?_
  refine g_iconst (v := 1) C dX11_soonPeeled_33 (by decide) ?_
  obtain ⟨b32604, e32605, h32606⟩ := Iy32596.elm h32603 (by decide) 1 (by decide)
  refine g_aldR C h32603.1 h32603.2.1 (by decide) (IX.litn (j := 1) h32603.2.2 rfl (by decide) (by decide)) e32605 dX11_soonPeeled_34 ?_
  refine g_aload_n C dX11_soonPeeled_35 rfl 3 rfl ?_
  obtain ⟨b32607, e32608, h32609⟩ := Iy32596.fld (h32599) 0 17 2 rfl
  refine g_getR C fi_X11_11 rfl e32608 (h32599).1 (h32599).2 dX11_soonPeeled_36 ?_
  refine g_iload_n C dX11_soonPeeled_39 rfl 5 rfl ?_
  obtain ⟨b32610, e32611, h32612⟩ := Iy32596.elm h32609 (by decide) (a2.toInt.toNat) (by omega)
  refine g_aldR C h32609.1 h32609.2.1 (by decide) (ix_in h32609.2.2 (by omega)) e32611 dX11_soonPeeled_40 ?_
  refine g_callVV (rest := []) C mv_X11_371 [.ref b32610] (s_X5_startWith Iy32596 h32606 h32612) (h32606).1 (h32606).2 rfl rfl (by decide) (Nat.le_of_ble_eq_true rfl) (by decide) dX11_soonPeeled_41 (fun Y32614 h32615 => ?_)
  obtain ⟨Iy32616, Xy32617⟩ := h32615
  have Xz32618 : EK [5, 13] P Y32614 := Xz32598.tr (Xy32617.mono (by decide))
  have h32619 := Xy32617.at h32599
  have h32620 := Xy32617.at h32600
  refine g_iconst (v := 0) C dX11_soonPeeled_44 (by decide) ?_
  refine g_istore (lv' := [(7, .int 0), (6, .int 0), (5, .int 0), (4, .ref b32578), (0, .ref a0), (1, .int a1), (2, .int a2), (3, .int a3)]) C dX11_soonPeeled_45 (by decide) rfl ?_
  refine g_lv (lv' := [(0, .ref a0), (2, .int a2), (3, .int a3), (4, .ref b32578), (5, .int 0), (6, .int 0), (7, .int 0)]) [4, 6, 7, 3, 2, 1, 0] rfl ?_
  exact J47 _ Y32614 b32578 0 0 0 (Nat.lt_succ_self _) Iy32616 Xz32618 h32620 (by decide)
theorem dX11_soon_24 : decode cX11_soon 24 = .ok (.iconst (-1), 1) := by decide +kernel
theorem dX11_soon_25 : decode cX11_soon 25 = .ok (.ireturn, 1) := by decide +kernel
theorem dX11_soon_38 : decode cX11_soon 38 = .ok (.goto 10, 3) := by decide +kernel
set_option maxHeartbeats 4000000 in
set_option maxRecDepth 100000 in
theorem s_X11_soon {P : PP} {a0 : Nat} {a1 : Int32} {a2 : Int32} {a3 : Int32} {a4 : Int32} (I : IV P) (ha0 : At P a0 11) : CtrI yX11_soon cX11_soon 5 (some Jvm.ClassFile.FieldType.int) ({ frames := 5, cells := 0, slots := 0, locals := 320 } : Room) 0 0 P [.ref a0, .int a1, .int a2, .int a3, .int a4] (fun r P2 => IV P2 ∧ EK [0, 5, 13] P P2 ∧ (-1 ≤ r.toInt ∧ r.toInt ≤ 41)) := by
  refine enI (lv := [(0, .ref a0), (1, .int a1), (2, .int a2), (3, .int a3), (4, .int a4)]) (by decide) (Nat.le_of_ble_eq_true rfl) rfl (fun E D cy C Ci0 ret => ?_)
  have J24 : G E ({ frames := 5, cells := 0, slots := 0, locals := 320 } : Room) D cy 5 P 0 0 24 [] [] := by
    refine g_iconst (v := (-1)) C dX11_soon_24 (by decide) ?_
    exact ret _ _ _ _ _ _ dX11_soon_25 rfl (by decide) (by decide) ⟨I, EK.rf, (by decide)⟩
  refine g_iload_n C dX11_soon_0 rfl 1 rfl ?_
  refine g_callSI (b := 0) (ci := 0) (rest := []) C ms_X11_158 [.int a1] (s_X11_isQuarter I) rfl rfl (by decide) (Nat.le_of_ble_eq_true rfl) (by decide) dX11_soon_1 (fun r32651 Y32652 h32653 => ?_)
  obtain ⟨rfl, h32653⟩ := h32653
  obtain ⟨h32653, hi32654⟩ := h32653
  have hi32654 : r32651.toInt = 0 ∨ (((0 : Int) ≤ a1.toInt ∧ a1.toInt ≤ (3 : Int))) := hi32654
  have h32653 : 0 ≤ r32651.toInt ∧ r32651.toInt ≤ 1 := h32653
  refine b_if_eq C 24 dX11_soon_4 (by decide) (fun h32655 => ?_) (fun h32655 => ?_)
  · have h32655 : r32651.toInt = 0 := congrArg Int32.toInt h32655
    clear hi32654
    refine g_lv (lv' := []) [] rfl ?_
    exact J24 
  · have h32655 : r32651.toInt ≠ 0 := ti_ne h32655
    replace hi32654 := hi32654.resolve_left (by omega)
    refine g_aload_n C dX11_soon_7 rfl 0 rfl ?_
    refine g_iload_n C dX11_soon_8 rfl 2 rfl ?_
    refine g_iload_n C dX11_soon_9 rfl 3 rfl ?_
    refine g_callVI (rest := []) C mv_X11_155 [.int a2, .int a3] (s_X11_isPageOf I ha0) (ha0).1 (ha0).2 rfl rfl (by decide) (Nat.le_of_ble_eq_true rfl) (by decide) dX11_soon_10 (fun r32656 Y32657 h32658 => ?_)
    obtain ⟨rfl, h32658⟩ := h32658
    obtain ⟨h32658, hi32659⟩ := h32658
    have hi32659 : r32656.toInt = 0 ∨ (((0 : Int) ≤ a2.toInt ∧ a2.toInt ≤ (1 : Int)) ∧ ((0 : Int) ≤ a3.toInt ∧ a3.toInt ≤ (19 : Int))) := hi32659
    have h32658 : 0 ≤ r32656.toInt ∧ r32656.toInt ≤ 1 := h32658
    refine b_if_eq C 24 dX11_soon_13 (by decide) (fun h32660 => ?_) (fun h32660 => ?_)
    · have h32660 : r32656.toInt = 0 := congrArg Int32.toInt h32660
      clear hi32659
      refine g_lv (lv' := []) [] rfl ?_
      exact J24 
    · have h32660 : r32656.toInt ≠ 0 := ti_ne h32660
      replace hi32659 := hi32659.resolve_left (by omega)
      refine g_iload C dX11_soon_16 4 rfl ?_
      refine g_callSI (b := 0) (ci := 0) (rest := []) C ms_X11_249 [.int a4] (s_X11_isHow I) rfl rfl (by decide) (Nat.le_of_ble_eq_true rfl) (by decide) dX11_soon_18 (fun r32661 Y32662 h32663 => ?_)
      obtain ⟨rfl, h32663⟩ := h32663
      have h32663 : 0 ≤ r32661.toInt ∧ r32661.toInt ≤ 1 := h32663
      refine b_if_ne C 26 dX11_soon_21 (by decide) (fun h32664 => ?_) (fun h32664 => ?_)
      · have h32664 : r32661.toInt ≠ 0 := ti_ne h32664
        refine g_iload C dX11_soon_26 4 rfl ?_
        have u32666 := ti_rng a4
        refine b_if_ne C 41 dX11_soon_28 (by decide) (fun h32665 => ?_) (fun h32665 => ?_)
        · have h32665 : a4.toInt ≠ 0 := ti_ne h32665
          refine g_aload_n C dX11_soon_41 rfl 0 rfl ?_
          refine g_iload_n C dX11_soon_42 rfl 1 rfl ?_
          refine g_iload_n C dX11_soon_43 rfl 2 rfl ?_
          refine g_iload_n C dX11_soon_44 rfl 3 rfl ?_
          refine g_callVI (rest := []) C mv_X11_260 [.int a1, .int a2, .int a3] (s_X11_soonSolved I ha0 (by omega) (by omega)) (ha0).1 (ha0).2 rfl rfl (by decide) (Nat.le_of_ble_eq_true rfl) (by decide) dX11_soon_45 (fun r32667 Y32668 h32669 => ?_)
          obtain ⟨Iy32670, Xy32671, h32669⟩ := h32669
          have Xz32672 : EK [0, 5, 13] P Y32668 := Xy32671.mono (by decide)
          have h32673 := Xy32671.at ha0
          have h32669 : -1 ≤ r32667.toInt ∧ r32667.toInt ≤ 41 := h32669
          exact ret _ _ _ _ _ _ dX11_soon_48 rfl (by decide) (by decide) ⟨Iy32670, Xz32672, (by omega)⟩
        · have h32665 : a4.toInt = 0 := congrArg Int32.toInt h32665
          refine g_aload_n C dX11_soon_31 rfl 0 rfl ?_
          refine g_iload_n C dX11_soon_32 rfl 1 rfl ?_
          refine g_iload_n C dX11_soon_33 rfl 2 rfl ?_
          refine g_iload_n C dX11_soon_34 rfl 3 rfl ?_
          refine g_callVI (rest := []) C mv_X11_256 [.int a1, .int a2, .int a3] (s_X11_soonPeeled I ha0 (by omega) (by omega)) (ha0).1 (ha0).2 rfl rfl (by decide) (Nat.le_of_ble_eq_true rfl) (by decide) dX11_soon_35 (fun r32674 Y32675 h32676 => ?_)
          obtain ⟨Iy32677, Xy32678, h32676⟩ := h32676
          have Xz32679 : EK [0, 5, 13] P Y32675 := Xy32678.mono (by decide)
          have h32680 := Xy32678.at ha0
          have h32676 : -1 ≤ r32674.toInt ∧ r32674.toInt ≤ 40 := h32676
          refine g_goto C 48 dX11_soon_38 (by decide) ?_
          exact ret _ _ _ _ _ _ dX11_soon_48 rfl (by decide) (by decide) ⟨Iy32677, Xz32679, (by omega)⟩
      · have h32664 : r32661.toInt = 0 := congrArg Int32.toInt h32664
        refine g_lv (lv' := []) [] rfl ?_
        exact J24 
theorem dX11_swap_0 : decode cX11_swap 0 = .ok (.iload_n 1, 1) := by decide +kernel
theorem dX11_swap_1 : decode cX11_swap 1 = .ok (.invokestatic 158, 3) := by decide +kernel
theorem dX11_swap_4 : decode cX11_swap 4 = .ok (.ifCond .eq 25, 3) := by decide +kernel
theorem dX11_swap_7 : decode cX11_swap 7 = .ok (.iload_n 2, 1) := by decide +kernel
theorem dX11_swap_8 : decode cX11_swap 8 = .ok (.invokestatic 158, 3) := by decide +kernel
theorem dX11_swap_11 : decode cX11_swap 11 = .ok (.ifCond .eq 18, 3) := by decide +kernel
theorem dX11_swap_14 : decode cX11_swap 14 = .ok (.iload_n 1, 1) := by decide +kernel
theorem dX11_swap_15 : decode cX11_swap 15 = .ok (.iload_n 2, 1) := by decide +kernel
theorem dX11_swap_16 : decode cX11_swap 16 = .ok (.if_icmp .eq 13, 3) := by decide +kernel
theorem dX11_swap_19 : decode cX11_swap 19 = .ok (.iload_n 3, 1) := by decide +kernel
theorem dX11_swap_20 : decode cX11_swap 20 = .ok (.ifCond .lt 9, 3) := by decide +kernel
theorem dX11_swap_23 : decode cX11_swap 23 = .ok (.iload_n 3, 1) := by decide +kernel
theorem dX11_swap_24 : decode cX11_swap 24 = .ok (.bipush 40, 2) := by decide +kernel
theorem dX11_swap_26 : decode cX11_swap 26 = .ok (.if_icmp .le 5, 3) := by decide +kernel
theorem dX11_swap_29 : decode cX11_swap 29 = .ok (.iconst (-1), 1) := by decide +kernel
theorem dX11_swap_30 : decode cX11_swap 30 = .ok (.ireturn, 1) := by decide +kernel
theorem dX11_swap_31 : decode cX11_swap 31 = .ok (.aload_n 0, 1) := by decide +kernel
theorem dX11_swap_32 : decode cX11_swap 32 = .ok (.getfield 17, 3) := by decide +kernel
theorem dX11_swap_35 : decode cX11_swap 35 = .ok (.iload_n 1, 1) := by decide +kernel
theorem dX11_swap_36 : decode cX11_swap 36 = .ok (.aaload, 1) := by decide +kernel
theorem dX11_swap_37 : decode cX11_swap 37 = .ok (.astore 4, 2) := by decide +kernel
theorem dX11_swap_39 : decode cX11_swap 39 = .ok (.aload_n 0, 1) := by decide +kernel
theorem dX11_swap_40 : decode cX11_swap 40 = .ok (.getfield 17, 3) := by decide +kernel
theorem dX11_swap_43 : decode cX11_swap 43 = .ok (.iload_n 2, 1) := by decide +kernel
theorem dX11_swap_44 : decode cX11_swap 44 = .ok (.aaload, 1) := by decide +kernel
theorem dX11_swap_45 : decode cX11_swap 45 = .ok (.astore 5, 2) := by decide +kernel
theorem dX11_swap_47 : decode cX11_swap 47 = .ok (.iconst 0, 1) := by decide +kernel
theorem dX11_swap_48 : decode cX11_swap 48 = .ok (.istore 6, 2) := by decide +kernel
theorem dX11_swap_50 : decode cX11_swap 50 = .ok (.iconst 0, 1) := by decide +kernel
theorem dX11_swap_51 : decode cX11_swap 51 = .ok (.istore 7, 2) := by decide +kernel
theorem dX11_swap_53 : decode cX11_swap 53 = .ok (.iload 7, 2) := by decide +kernel
theorem dX11_swap_55 : decode cX11_swap 55 = .ok (.aload 4, 2) := by decide +kernel
theorem dX11_swap_57 : decode cX11_swap 57 = .ok (.getfield 336, 3) := by decide +kernel
theorem dX11_swap_60 : decode cX11_swap 60 = .ok (.if_icmp .ge 53, 3) := by decide +kernel
theorem dX11_swap_63 : decode cX11_swap 63 = .ok (.iload 6, 2) := by decide +kernel
theorem dX11_swap_65 : decode cX11_swap 65 = .ok (.iload_n 3, 1) := by decide +kernel
theorem dX11_swap_66 : decode cX11_swap 66 = .ok (.if_icmp .ge 47, 3) := by decide +kernel
theorem dX11_swap_69 : decode cX11_swap 69 = .ok (.aload 4, 2) := by decide +kernel
theorem dX11_swap_71 : decode cX11_swap 71 = .ok (.iload 7, 2) := by decide +kernel
theorem dX11_swap_73 : decode cX11_swap 73 = .ok (.invokevirtual 337, 3) := by decide +kernel
theorem dX11_swap_76 : decode cX11_swap 76 = .ok (.astore 8, 2) := by decide +kernel
theorem dX11_swap_78 : decode cX11_swap 78 = .ok (.aload 8, 2) := by decide +kernel
theorem dX11_swap_80 : decode cX11_swap 80 = .ok (.ifnull 27, 3) := by decide +kernel
theorem dX11_swap_83 : decode cX11_swap 83 = .ok (.aload 5, 2) := by decide +kernel
theorem dX11_swap_85 : decode cX11_swap 85 = .ok (.aload 8, 2) := by decide +kernel
theorem dX11_swap_87 : decode cX11_swap 87 = .ok (.invokevirtual 341, 3) := by decide +kernel
theorem dX11_swap_90 : decode cX11_swap 90 = .ok (.ifCond .ne 17, 3) := by decide +kernel
theorem dX11_swap_93 : decode cX11_swap 93 = .ok (.aload 5, 2) := by decide +kernel
theorem dX11_swap_95 : decode cX11_swap 95 = .ok (.aload 8, 2) := by decide +kernel
theorem dX11_swap_97 : decode cX11_swap 97 = .ok (.invokevirtual 165, 3) := by decide +kernel
theorem dX11_swap_100 : decode cX11_swap 100 = .ok (.iconst (-1), 1) := by decide +kernel
theorem dX11_swap_101 : decode cX11_swap 101 = .ok (.if_icmp .eq 6, 3) := by decide +kernel
theorem dX11_swap_104 : decode cX11_swap 104 = .ok (.iinc 6 1, 3) := by decide +kernel
theorem dX11_swap_107 : decode cX11_swap 107 = .ok (.iinc 7 1, 3) := by decide +kernel
theorem dX11_swap_110 : decode cX11_swap 110 = .ok (.goto (-57), 3) := by decide +kernel
theorem dX11_swap_113 : decode cX11_swap 113 = .ok (.iload 6, 2) := by decide +kernel
theorem dX11_swap_115 : decode cX11_swap 115 = .ok (.ireturn, 1) := by decide +kernel
set_option maxHeartbeats 4000000 in
set_option maxRecDepth 100000 in
theorem s_X11_swap {P : PP} {a0 : Nat} {a1 : Int32} {a2 : Int32} {a3 : Int32} (I : IV P) (ha0 : At P a0 11) : CtrI yX11_swap cX11_swap 9 (some Jvm.ClassFile.FieldType.int) ({ frames := 3, cells := 0, slots := 0, locals := 192 } : Room) 0 0 P [.ref a0, .int a1, .int a2, .int a3] (fun r P2 => IV P2 ∧ EK [6] P P2 ∧ (-1 ≤ r.toInt ∧ r.toInt ≤ 40)) := by
  refine enI (lv := [(0, .ref a0), (1, .int a1), (2, .int a2), (3, .int a3)]) (by decide) (Nat.le_of_ble_eq_true rfl) rfl (fun E D cy C Ci0 ret => ?_)
  have J113 : ∀ (P113 : PP) (v113_6 : Int32), (IV P113) → (EK [6] P P113) → (0 ≤ v113_6.toInt ∧ v113_6.toInt ≤ 40) → G E ({ frames := 3, cells := 0, slots := 0, locals := 192 } : Room) D cy 9 P113 0 0 113 [(6, .int v113_6)] [] := by
    intro P113 v113_6 I113 X113 hv113_6
    have h33153 := X113.at ha0
    refine g_iload C dX11_swap_113 0 rfl ?_
    exact ret _ _ _ _ _ _ dX11_swap_115 rfl (by decide) (by decide) ⟨I113, X113, (by omega)⟩
  have J53 : ∀ (n53 : Nat) (P53 : PP) (b53_4 : Nat) (b53_5 : Nat) (v53_6 : Int32) (v53_7 : Int32), (40 - v53_7.toInt).toNat < n53 → (IV P53) → (EK [6] P P53) → (0 ≤ a3.toInt ∧ a3.toInt ≤ 40) → (At P53 b53_4 6) → (At P53 b53_5 6) → (0 ≤ v53_6.toInt ∧ v53_6.toInt ≤ 40) → (0 ≤ v53_7.toInt ∧ v53_7.toInt ≤ 40) → G E ({ frames := 3, cells := 0, slots := 0, locals := 192 } : Room) D cy 9 P53 0 0 53 [(3, .int a3), (4, .ref b53_4), (5, .ref b53_5), (6, .int v53_6), (7, .int v53_7)] [] := by
    intro n53
    induction n53 with
    | zero => intro P53 b53_4 b53_5 v53_6 v53_7 hm53 I53 X53 hv53_3 hb53_4 hb53_5 hv53_6 hv53_7; omega
    | succ n53 ih53 =>
      intro P53 b53_4 b53_5 v53_6 v53_7 hm53 I53 X53 hv53_3 hb53_4 hb53_5 hv53_6 hv53_7
      have h33154 := X53.at ha0
      have J107 : ∀ (P107 : PP) (b107_4 : Nat) (b107_5 : Nat) (v107_6 : Int32), (IV P107) → (EK [6] P P107) → (1 ≤ a3.toInt ∧ a3.toInt ≤ 40) → (At P107 b107_4 6) → (At P107 b107_5 6) → (0 ≤ v107_6.toInt ∧ v107_6.toInt ≤ 40) → (0 ≤ v53_7.toInt ∧ v53_7.toInt ≤ 39) → G E ({ frames := 3, cells := 0, slots := 0, locals := 192 } : Room) D cy 9 P107 0 0 107 [(3, .int a3), (4, .ref b107_4), (5, .ref b107_5), (6, .int v107_6), (7, .int v53_7)] [] := by
        intro P107 b107_4 b107_5 v107_6 I107 X107 hv107_3 hb107_4 hb107_5 hv107_6 hv107_7
        have h33155 := X107.at ha0
        refine s_iinc (lv0 := [(3, .int a3), (4, .ref b107_4), (5, .ref b107_5), (6, .int v107_6)]) (m := 1) C dX11_swap_107 4 rfl (by decide) rfl (by decide) (by omega) (fun z33156 h33157 => ?_)
        have h33157 : z33156.toInt = v53_7.toInt + 1 := h33157
        refine g_goto C 53 dX11_swap_110 (by decide) ?_
        refine g_lv (lv' := [(3, .int a3), (4, .ref b107_4), (5, .ref b107_5), (6, .int v107_6), (7, .int z33156)]) [1, 2, 3, 4, 0] rfl ?_
        exact ih53 P107 b107_4 b107_5 v107_6 z33156 (by omega) I107 X107 (by omega) hb107_4 hb107_5 (by omega) (by omega)
      refine g_iload C dX11_swap_53 4 rfl ?_
      refine g_aload C dX11_swap_55 1 rfl ?_
      refine g_getI C fi_X11_336 (by decide) (hb53_4).1 (hb53_4).2 dX11_swap_57 ?_
      have h33158 := I53.rg (hb53_4) 1 rfl
      refine b_icmp_ge C 113 dX11_swap_60 (by decide) (fun h33159 => ?_) (fun h33159 => ?_)
      · have h33159 : (pI P53 b53_4 1).toInt ≤ v53_7.toInt := h33159
        refine g_lv (lv' := [(6, .int v53_6)]) [3] rfl ?_
        exact J113 P53 v53_6 I53 X53 (by omega)
      · have h33159 : v53_7.toInt < (pI P53 b53_4 1).toInt := h33159
        refine g_iload C dX11_swap_63 3 rfl ?_
        refine g_iload_n C dX11_swap_65 rfl 0 rfl ?_
        refine b_icmp_ge C 113 dX11_swap_66 (by decide) (fun h33160 => ?_) (fun h33160 => ?_)
        · have h33160 : a3.toInt ≤ v53_6.toInt := h33160
          refine g_lv (lv' := [(6, .int v53_6)]) [3] rfl ?_
          exact J113 P53 v53_6 I53 X53 (by omega)
        · have h33160 : v53_6.toInt < a3.toInt := h33160
          refine g_aload C dX11_swap_69 1 rfl ?_
          refine g_iload C dX11_swap_71 4 rfl ?_
          refine g_callVQ (rest := []) C mv_X11_337 [.int v53_7] (s_X6_at I53 hb53_4) (hb53_4).1 (hb53_4).2 rfl rfl (by decide) (Nat.le_of_ble_eq_true rfl) (by decide) dX11_swap_73 (fun r33161 Y33162 h33163 => ?_)
          obtain ⟨rfl, h33163⟩ := h33163
          rcases h33163 with rfl | ⟨b33165, rfl, h33163, hj33164⟩
          · show G _ _ _ _ _ _ _ _ _ _ (.null :: _)
            refine g_astoreN (lv' := [(8, .null), (3, .int a3), (4, .ref b53_4), (5, .ref b53_5), (6, .int v53_6), (7, .int v53_7)]) C dX11_swap_76 (by decide) rfl ?_
            refine g_aloadN C dX11_swap_78 0 rfl ?_
            refine g_ifnullN C 107 dX11_swap_80 (by decide) ?_
            refine g_lv (lv' := [(3, .int a3), (4, .ref b53_4), (5, .ref b53_5), (6, .int v53_6), (7, .int v53_7)]) [1, 2, 3, 4, 5] rfl ?_
            exact J107 P53 b53_4 b53_5 v53_6 I53 X53 (by omega) hb53_4 hb53_5 (by omega) (by omega)
          · have hj33164 : ((0 : Int) ≤ v53_7.toInt ∧ v53_7.toInt ≤ (39 : Int)) := hj33164
            show G _ _ _ _ _ _ _ _ _ _ (.ref b33165 :: _)
            refine g_astore (lv' := [(8, .ref b33165), (3, .int a3), (4, .ref b53_4), (5, .ref b53_5), (6, .int v53_6), (7, .int v53_7)]) C dX11_swap_76 (by decide) rfl ?_
            refine g_aload C dX11_swap_78 0 rfl ?_
            refine g_ifnull C dX11_swap_80 ?_
            refine g_aload C dX11_swap_83 3 rfl ?_
            refine g_aload C dX11_swap_85 0 rfl ?_
            refine g_callVI (rest := []) C mv_X11_341 [.ref b33165] (s_X6_hasAlike I53 hb53_5 h33163) (hb53_5).1 (hb53_5).2 rfl rfl (by decide) (Nat.le_of_ble_eq_true rfl) (by decide) dX11_swap_87 (fun r33166 Y33167 h33168 => ?_)
            obtain ⟨rfl, h33168⟩ := h33168
            have h33168 : 0 ≤ r33166.toInt ∧ r33166.toInt ≤ 1 := h33168
            refine b_if_ne C 107 dX11_swap_90 (by decide) (fun h33169 => ?_) (fun h33169 => ?_)
            · have h33169 : r33166.toInt ≠ 0 := ti_ne h33169
              refine g_lv (lv' := [(3, .int a3), (4, .ref b53_4), (5, .ref b53_5), (6, .int v53_6), (7, .int v53_7)]) [1, 2, 3, 4, 5] rfl ?_
              exact J107 P53 b53_4 b53_5 v53_6 I53 X53 (by omega) hb53_4 hb53_5 (by omega) (by omega)
            · have h33169 : r33166.toInt = 0 := congrArg Int32.toInt h33169
              refine g_aload C dX11_swap_93 3 rfl ?_
              refine g_aload C dX11_swap_95 0 rfl ?_
              refine g_callVI (rest := []) C mv_X11_165 [.ref b33165] (s_X6_put I53 hb53_5 h33163) (hb53_5).1 (hb53_5).2 rfl rfl (by decide) (Nat.le_of_ble_eq_true rfl) (by decide) dX11_swap_97 (fun r33170 Y33171 h33172 => ?_)
              obtain ⟨Iy33173, Xy33174, h33172⟩ := h33172
              have Xz33175 : EK [6] P Y33171 := X53.tr (Xy33174.mono (by decide))
              have h33176 := Xy33174.at h33154
              have h33177 := Xy33174.at h33163
              have h33178 := Xy33174.at hb53_4
              have h33179 := Xy33174.at hb53_5
              have h33172 : -1 ≤ r33170.toInt ∧ r33170.toInt ≤ 39 := h33172
              refine g_iconst (v := (-1)) C dX11_swap_100 (by decide) ?_
              refine b_icmp_eq C 107 dX11_swap_101 (by decide) (fun h33180 => ?_) (fun h33180 => ?_)
              · have h33180 : r33170.toInt = (-1) := congrArg Int32.toInt h33180
                refine g_lv (lv' := [(3, .int a3), (4, .ref b53_4), (5, .ref b53_5), (6, .int v53_6), (7, .int v53_7)]) [1, 2, 3, 4, 5] rfl ?_
                exact J107 Y33171 b53_4 b53_5 v53_6 Iy33173 Xz33175 (by omega) h33178 h33179 (by omega) (by omega)
              · have h33180 : r33170.toInt ≠ (-1) := ti_ne h33180
                refine s_iinc (lv0 := [(8, .ref b33165), (3, .int a3), (4, .ref b53_4), (5, .ref b53_5), (7, .int v53_7)]) (m := 1) C dX11_swap_104 4 rfl (by decide) rfl (by decide) (by omega) (fun z33181 h33182 => ?_)
                have h33182 : z33181.toInt = v53_6.toInt + 1 := h33182
                refine g_lv (lv' := [(3, .int a3), (4, .ref b53_4), (5, .ref b53_5), (6, .int z33181), (7, .int v53_7)]) [2, 3, 4, 0, 5] rfl ?_
                exact J107 Y33171 b53_4 b53_5 z33181 Iy33173 Xz33175 (by omega) h33178 h33179 (by omega) (by omega)
  have J29 : G E ({ frames := 3, cells := 0, slots := 0, locals := 192 } : Room) D cy 9 P 0 0 29 [] [] := by
    refine g_iconst (v := (-1)) C dX11_swap_29 (by decide) ?_
    exact ret _ _ _ _ _ _ dX11_swap_30 rfl (by decide) (by decide) ⟨I, EK.rf, (by decide)⟩
  refine g_iload_n C dX11_swap_0 rfl 1 rfl ?_
  refine g_callSI (b := 0) (ci := 0) (rest := []) C ms_X11_158 [.int a1] (s_X11_isQuarter I) rfl rfl (by decide) (Nat.le_of_ble_eq_true rfl) (by decide) dX11_swap_1 (fun r33183 Y33184 h33185 => ?_)
  obtain ⟨rfl, h33185⟩ := h33185
  obtain ⟨h33185, hi33186⟩ := h33185
  have hi33186 : r33183.toInt = 0 ∨ (((0 : Int) ≤ a1.toInt ∧ a1.toInt ≤ (3 : Int))) := hi33186
  have h33185 : 0 ≤ r33183.toInt ∧ r33183.toInt ≤ 1 := h33185
  refine b_if_eq C 29 dX11_swap_4 (by decide) (fun h33187 => ?_) (fun h33187 => ?_)
  · have h33187 : r33183.toInt = 0 := congrArg Int32.toInt h33187
    clear hi33186
    refine g_lv (lv' := []) [] rfl ?_
    exact J29 
  · have h33187 : r33183.toInt ≠ 0 := ti_ne h33187
    replace hi33186 := hi33186.resolve_left (by omega)
    refine g_iload_n C dX11_swap_7 rfl 2 rfl ?_
    refine g_callSI (b := 0) (ci := 0) (rest := []) C ms_X11_158 [.int a2] (s_X11_isQuarter I) rfl rfl (by decide) (Nat.le_of_ble_eq_true rfl) (by decide) dX11_swap_8 (fun r33188 Y33189 h33190 => ?_)
    obtain ⟨rfl, h33190⟩ := h33190
    obtain ⟨h33190, hi33191⟩ := h33190
    have hi33191 : r33188.toInt = 0 ∨ (((0 : Int) ≤ a2.toInt ∧ a2.toInt ≤ (3 : Int))) := hi33191
    have h33190 : 0 ≤ r33188.toInt ∧ r33188.toInt ≤ 1 := h33190
    refine b_if_eq C 29 dX11_swap_11 (by decide) (fun h33192 => ?_) (fun h33192 => ?_)
    · have h33192 : r33188.toInt = 0 := congrArg Int32.toInt h33192
      clear hi33191
      refine g_lv (lv' := []) [] rfl ?_
      exact J29 
    · have h33192 : r33188.toInt ≠ 0 := ti_ne h33192
      replace hi33191 := hi33191.resolve_left (by omega)
      refine g_iload_n C dX11_swap_14 rfl 1 rfl ?_
      refine g_iload_n C dX11_swap_15 rfl 2 rfl ?_
      refine b_icmp_eq C 29 dX11_swap_16 (by decide) (fun h33193 => ?_) (fun h33193 => ?_)
      · have h33193 : a1.toInt = a2.toInt := congrArg Int32.toInt h33193
        refine g_lv (lv' := []) [] rfl ?_
        exact J29 
      · have h33193 : a1.toInt ≠ a2.toInt := ti_ne h33193
        refine g_iload_n C dX11_swap_19 rfl 3 rfl ?_
        have u33195 := ti_rng a3
        refine b_if_lt C 29 dX11_swap_20 (by decide) (fun h33194 => ?_) (fun h33194 => ?_)
        · have h33194 : a3.toInt < 0 := h33194
          refine g_lv (lv' := []) [] rfl ?_
          exact J29 
        · have h33194 : 0 ≤ a3.toInt := h33194
          refine g_iload_n C dX11_swap_23 rfl 3 rfl ?_
          refine g_bipush (v := 40) C dX11_swap_24 (by decide) ?_
          have u33197 := ti_rng a3
          refine b_icmp_le C 31 dX11_swap_26 (by decide) (fun h33196 => ?_) (fun h33196 => ?_)
          · have h33196 : a3.toInt ≤ 40 := h33196
            refine g_aload_n C dX11_swap_31 rfl 0 rfl ?_
            obtain ⟨b33198, e33199, h33200⟩ := I.fld (ha0) 1 19 4 rfl
            refine g_getR C fi_X11_17 rfl e33199 (ha0).1 (ha0).2 dX11_swap_32 ?_
            refine g_iload_n C dX11_swap_35 rfl 1 rfl ?_
            obtain ⟨b33201, e33202, h33203⟩ := I.elm h33200 (by decide) (a1.toInt.toNat) (by omega)
            refine g_aldR C h33200.1 h33200.2.1 (by decide) (ix_in h33200.2.2 (by omega)) e33202 dX11_swap_36 ?_
            refine g_astore (lv' := [(4, .ref b33201), (0, .ref a0), (1, .int a1), (2, .int a2), (3, .int a3)]) C dX11_swap_37 (by decide) rfl ?_
            refine g_aload_n C dX11_swap_39 rfl 1 rfl ?_
            refine g_getR C fi_X11_17 rfl e33199 (ha0).1 (ha0).2 dX11_swap_40 ?_
            refine g_iload_n C dX11_swap_43 rfl 3 rfl ?_
            obtain ⟨b33204, e33205, h33206⟩ := I.elm h33200 (by decide) (a2.toInt.toNat) (by omega)
            refine g_aldR C h33200.1 h33200.2.1 (by decide) (ix_in h33200.2.2 (by omega)) e33205 dX11_swap_44 ?_
            refine g_astore (lv' := [(5, .ref b33204), (4, .ref b33201), (0, .ref a0), (1, .int a1), (2, .int a2), (3, .int a3)]) C dX11_swap_45 (by decide) rfl ?_
            refine g_iconst (v := 0) C dX11_swap_47 (by decide) ?_
            refine g_istore (lv' := [(6, .int 0), (5, .ref b33204), (4, .ref b33201), (0, .ref a0), (1, .int a1), (2, .int a2), (3, .int a3)]) C dX11_swap_48 (by decide) rfl ?_
            refine g_iconst (v := 0) C dX11_swap_50 (by decide) ?_
            refine g_istore (lv' := [(7, .int 0), (6, .int 0), (5, .ref b33204), (4, .ref b33201), (0, .ref a0), (1, .int a1), (2, .int a2), (3, .int a3)]) C dX11_swap_51 (by decide) rfl ?_
            refine g_lv (lv' := [(3, .int a3), (4, .ref b33201), (5, .ref b33204), (6, .int 0), (7, .int 0)]) [7, 3, 2, 1, 0] rfl ?_
            exact J53 _ P b33201 b33204 0 0 (Nat.lt_succ_self _) I EK.rf (by omega) h33203 h33206 (by decide) (by decide)
          · have h33196 : 40 < a3.toInt := h33196
            refine g_lv (lv' := []) [] rfl ?_
            exact J29 
