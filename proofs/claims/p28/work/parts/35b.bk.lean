set_option maxHeartbeats 4000000 in
set_option maxRecDepth 100000 in
theorem s_X11_isQuarter_E {P : PP} {a0 : Int32} (I : IV P) : CtrI yX11_isQuarter cX11_isQuarter 1 (some Jvm.ClassFile.FieldType.boolean) ({ frames := 1, cells := 0, slots := 0, locals := 64 } : Room) 0 0 P [.int a0] (fun r P2 => P = P2 ∧ (0 ≤ r.toInt ∧ r.toInt ≤ 1) ∧ (r.toInt = 0 ∨ (((0 : Int) ≤ a0.toInt ∧ a0.toInt ≤ (3 : Int)))) ∧ (r.toInt ≠ 0 ∨ a0.toInt < 0 ∨ 3 < a0.toInt)) := by
  refine enI (lv := [(0, .int a0)]) (by decide) (Nat.le_of_ble_eq_true rfl) rfl (fun E D cy C Ci0 ret => ?_)
  have J13 : (a0.toInt < 0 ∨ 3 < a0.toInt) → G E ({ frames := 1, cells := 0, slots := 0, locals := 64 } : Room) D cy 1 P 0 0 13 [] [] := by
    intro rel13_0
    refine g_iconst (v := 0) C dX11_isQuarter_13 (by decide) ?_
    exact ret _ _ _ _ _ _ dX11_isQuarter_14 rfl (by decide) (by decide) ⟨rfl, (by decide), Or.inl rfl, (by show (0 : Int) ≠ 0 ∨ a0.toInt < 0 ∨ 3 < a0.toInt; omega)⟩
  refine g_iload_n C dX11_isQuarter_0 rfl 0 rfl ?_
  have u203 := ti_rng a0
  refine b_if_lt C 13 dX11_isQuarter_1 (by decide) (fun h202 => ?_) (fun h202 => ?_)
  · have h202 : a0.toInt < 0 := h202
    refine g_lv (lv' := []) [] rfl ?_
    exact J13 (by show a0.toInt < 0 ∨ 3 < a0.toInt; omega)
  · have h202 : 0 ≤ a0.toInt := h202
    refine g_iload_n C dX11_isQuarter_4 rfl 0 rfl ?_
    refine g_iconst (v := 4) C dX11_isQuarter_5 (by decide) ?_
    have u205 := ti_rng a0
    refine b_icmp_ge C 13 dX11_isQuarter_6 (by decide) (fun h204 => ?_) (fun h204 => ?_)
    · have h204 : 4 ≤ a0.toInt := h204
      refine g_lv (lv' := []) [] rfl ?_
      exact J13 (by show a0.toInt < 0 ∨ 3 < a0.toInt; omega)
    · have h204 : a0.toInt < 4 := h204
      refine g_iconst (v := 1) C dX11_isQuarter_9 (by decide) ?_
      refine g_goto C 14 dX11_isQuarter_10 (by decide) ?_
      exact ret _ _ _ _ _ _ dX11_isQuarter_14 rfl (by decide) (by decide) ⟨rfl, (by decide), Or.inr (by omega), (by show (1 : Int) ≠ 0 ∨ a0.toInt < 0 ∨ 3 < a0.toInt; omega)⟩
set_option maxHeartbeats 4000000 in
set_option maxRecDepth 100000 in
theorem s_X12_within_E {P : PP} {a0 : Int32} {a1 : Int32} {a2 : Int32} (I : IV P) : CtrI yX12_within cX12_within 3 (some Jvm.ClassFile.FieldType.boolean) ({ frames := 1, cells := 0, slots := 0, locals := 64 } : Room) 0 0 P [.int a0, .int a1, .int a2] (fun r P2 => P = P2 ∧ (0 ≤ r.toInt ∧ r.toInt ≤ 1) ∧ (r.toInt = 0 ∨ (a1.toInt ≤ a0.toInt ∧ a0.toInt ≤ a2.toInt)) ∧ (r.toInt ≠ 0 ∨ a0.toInt < a1.toInt ∨ a2.toInt < a0.toInt)) := by
  refine enI (lv := [(0, .int a0), (1, .int a1), (2, .int a2)]) (by decide) (Nat.le_of_ble_eq_true rfl) rfl (fun E D cy C Ci0 ret => ?_)
  have J14 : (a0.toInt < a1.toInt ∨ a2.toInt < a0.toInt) → G E ({ frames := 1, cells := 0, slots := 0, locals := 64 } : Room) D cy 3 P 0 0 14 [] [] := by
    intro rel14_0
    refine g_iconst (v := 0) C dX12_within_14 (by decide) ?_
    exact ret _ _ _ _ _ _ dX12_within_15 rfl (by decide) (by decide) ⟨rfl, (by decide), Or.inl rfl, (by show (0 : Int) ≠ 0 ∨ a0.toInt < a1.toInt ∨ a2.toInt < a0.toInt; omega)⟩
  refine g_iload_n C dX12_within_0 rfl 0 rfl ?_
  refine g_iload_n C dX12_within_1 rfl 1 rfl ?_
  have u213 := ti_rng a0
  have u214 := ti_rng a1
  refine b_icmp_lt C 14 dX12_within_2 (by decide) (fun h212 => ?_) (fun h212 => ?_)
  · have h212 : a0.toInt < a1.toInt := h212
    refine g_lv (lv' := []) [] rfl ?_
    exact J14 (by show a0.toInt < a1.toInt ∨ a2.toInt < a0.toInt; omega)
  · have h212 : a1.toInt ≤ a0.toInt := h212
    refine g_iload_n C dX12_within_5 rfl 0 rfl ?_
    refine g_iload_n C dX12_within_6 rfl 2 rfl ?_
    have u216 := ti_rng a0
    have u217 := ti_rng a2
    refine b_icmp_gt C 14 dX12_within_7 (by decide) (fun h215 => ?_) (fun h215 => ?_)
    · have h215 : a2.toInt < a0.toInt := h215
      refine g_lv (lv' := []) [] rfl ?_
      exact J14 (by show a0.toInt < a1.toInt ∨ a2.toInt < a0.toInt; omega)
    · have h215 : a0.toInt ≤ a2.toInt := h215
      refine g_iconst (v := 1) C dX12_within_10 (by decide) ?_
      refine g_goto C 15 dX12_within_11 (by decide) ?_
      exact ret _ _ _ _ _ _ dX12_within_15 rfl (by decide) (by decide) ⟨rfl, (by decide), Or.inr (by omega), (by show (1 : Int) ≠ 0 ∨ a0.toInt < a1.toInt ∨ a2.toInt < a0.toInt; omega)⟩
set_option maxHeartbeats 4000000 in
set_option maxRecDepth 100000 in
theorem s_X12_isQuarter_E {P : PP} {a0 : Int32} (I : IV P) : CtrI yX12_isQuarter cX12_isQuarter 1 (some Jvm.ClassFile.FieldType.boolean) ({ frames := 2, cells := 0, slots := 0, locals := 128 } : Room) 0 0 P [.int a0] (fun r P2 => P = P2 ∧ (0 ≤ r.toInt ∧ r.toInt ≤ 1) ∧ (r.toInt = 0 ∨ (((0 : Int) ≤ a0.toInt ∧ a0.toInt ≤ (3 : Int)))) ∧ (r.toInt ≠ 0 ∨ a0.toInt < 0 ∨ 3 < a0.toInt)) := by
  refine enI (lv := [(0, .int a0)]) (by decide) (Nat.le_of_ble_eq_true rfl) rfl (fun E D cy C Ci0 ret => ?_)
  refine g_iload_n C dX12_isQuarter_0 rfl 0 rfl ?_
  refine g_iconst (v := 0) C dX12_isQuarter_1 (by decide) ?_
  refine g_iconst (v := 3) C dX12_isQuarter_2 (by decide) ?_
  refine g_callSI (b := 0) (ci := 0) (rest := []) C ms_X12_178 [.int a0, .int 0, .int 3] (s_X12_within_E I) rfl rfl (by decide) (Nat.le_of_ble_eq_true rfl) (by decide) dX12_isQuarter_3 (fun r223 Y224 h225 => ?_)
  obtain ⟨rfl, h225⟩ := h225
  obtain ⟨h225, hi226, hi227⟩ := h225
  have hi226 : r223.toInt = 0 ∨ (0 ≤ a0.toInt ∧ a0.toInt ≤ 3) := hi226
  have hi227 : r223.toInt ≠ 0 ∨ a0.toInt < 0 ∨ 3 < a0.toInt := hi227
  have h225 : 0 ≤ r223.toInt ∧ r223.toInt ≤ 1 := h225
  exact ret _ _ _ _ _ _ dX12_isQuarter_6 (nar_b (b01 (by omega))) (by decide) (by decide) ⟨rfl, (by omega), hi226.imp id (fun h9 => by omega), (by show r223.toInt ≠ 0 ∨ a0.toInt < 0 ∨ 3 < a0.toInt; omega)⟩
set_option maxHeartbeats 4000000 in
set_option maxRecDepth 100000 in
theorem s_X11_quarter_E {P : PP} {a0 : Nat} {a1 : Int32} {a2 : Int32} {a3 : Int32} (I : IV P) (ha0 : At P a0 11) : CtrI yX11_quarter cX11_quarter 4 (some Jvm.ClassFile.FieldType.boolean) ({ frames := 2, cells := 0, slots := 0, locals := 128 } : Room) 0 0 P [.ref a0, .int a1, .int a2, .int a3] (fun r P2 => IV P2 ∧ EK [13] P P2 ∧ (0 ≤ r.toInt ∧ r.toInt ≤ 1) ∧ (r.toInt = 0 ∨ (((0 : Int) ≤ a1.toInt ∧ a1.toInt ≤ (3 : Int)) ∧ ((0 : Int) ≤ a2.toInt ∧ a2.toInt ≤ (100 : Int)) ∧ ((0 : Int) ≤ a3.toInt ∧ a3.toInt ≤ (999 : Int)))) ∧ ((r.toInt = 1 ∧ (0 ≤ a1.toInt ∧ a1.toInt ≤ 3 ∧ 0 ≤ a2.toInt ∧ a2.toInt ≤ 100 ∧ 0 ≤ a3.toInt ∧ a3.toInt ≤ 999)) ∨ (r.toInt = 0 ∧ (a1.toInt < 0 ∨ 3 < a1.toInt ∨ a2.toInt < 0 ∨ 100 < a2.toInt ∨ a3.toInt < 0 ∨ 999 < a3.toInt)))) := by
  refine enI (lv := [(0, .ref a0), (1, .int a1), (2, .int a2), (3, .int a3)]) (by decide) (Nat.le_of_ble_eq_true rfl) rfl (fun E D cy C Ci0 ret => ?_)
  have J28 : (a1.toInt < 0 ∨ 3 < a1.toInt ∨ a2.toInt < 0 ∨ 100 < a2.toInt ∨ a3.toInt < 0 ∨ 999 < a3.toInt) → G E ({ frames := 2, cells := 0, slots := 0, locals := 128 } : Room) D cy 4 P 0 0 28 [] [] := by
    intro rel28_0
    refine g_iconst (v := 0) C dX11_quarter_28 (by decide) ?_
    exact ret _ _ _ _ _ _ dX11_quarter_29 rfl (by decide) (by decide) ⟨I, EK.rf, (by decide), Or.inl rfl, (by show ((0 : Int) = 1 ∧ (0 ≤ a1.toInt ∧ a1.toInt ≤ 3 ∧ 0 ≤ a2.toInt ∧ a2.toInt ≤ 100 ∧ 0 ≤ a3.toInt ∧ a3.toInt ≤ 999)) ∨ ((0 : Int) = 0 ∧ (a1.toInt < 0 ∨ 3 < a1.toInt ∨ a2.toInt < 0 ∨ 100 < a2.toInt ∨ a3.toInt < 0 ∨ 999 < a3.toInt)); omega)⟩
  refine g_iload_n C dX11_quarter_0 rfl 1 rfl ?_
  refine g_callSI (b := 0) (ci := 0) (rest := []) C ms_X11_158 [.int a1] (s_X11_isQuarter_E I) rfl rfl (by decide) (Nat.le_of_ble_eq_true rfl) (by decide) dX11_quarter_1 (fun r288 Y289 h290 => ?_)
  obtain ⟨rfl, h290⟩ := h290
  obtain ⟨h290, hi291, hi292⟩ := h290
  have hi291 : r288.toInt = 0 ∨ (((0 : Int) ≤ a1.toInt ∧ a1.toInt ≤ (3 : Int))) := hi291
  have hi292 : r288.toInt ≠ 0 ∨ a1.toInt < 0 ∨ 3 < a1.toInt := hi292
  have h290 : 0 ≤ r288.toInt ∧ r288.toInt ≤ 1 := h290
  refine b_if_eq C 28 dX11_quarter_4 (by decide) (fun h293 => ?_) (fun h293 => ?_)
  · have h293 : r288.toInt = 0 := congrArg Int32.toInt h293
    clear hi291
    refine g_lv (lv' := []) [] rfl ?_
    exact J28 (by show a1.toInt < 0 ∨ 3 < a1.toInt ∨ a2.toInt < 0 ∨ 100 < a2.toInt ∨ a3.toInt < 0 ∨ 999 < a3.toInt; omega)
  · have h293 : r288.toInt ≠ 0 := ti_ne h293
    replace hi291 := hi291.resolve_left (by omega)
    refine g_iload_n C dX11_quarter_7 rfl 2 rfl ?_
    have u295 := ti_rng a2
    refine b_if_lt C 28 dX11_quarter_8 (by decide) (fun h294 => ?_) (fun h294 => ?_)
    · have h294 : a2.toInt < 0 := h294
      refine g_lv (lv' := []) [] rfl ?_
      exact J28 (by show a1.toInt < 0 ∨ 3 < a1.toInt ∨ a2.toInt < 0 ∨ 100 < a2.toInt ∨ a3.toInt < 0 ∨ 999 < a3.toInt; omega)
    · have h294 : 0 ≤ a2.toInt := h294
      refine g_iload_n C dX11_quarter_11 rfl 2 rfl ?_
      refine g_bipush (v := 100) C dX11_quarter_12 (by decide) ?_
      have u297 := ti_rng a2
      refine b_icmp_gt C 28 dX11_quarter_14 (by decide) (fun h296 => ?_) (fun h296 => ?_)
      · have h296 : 100 < a2.toInt := h296
        refine g_lv (lv' := []) [] rfl ?_
        exact J28 (by show a1.toInt < 0 ∨ 3 < a1.toInt ∨ a2.toInt < 0 ∨ 100 < a2.toInt ∨ a3.toInt < 0 ∨ 999 < a3.toInt; omega)
      · have h296 : a2.toInt ≤ 100 := h296
        refine g_iload_n C dX11_quarter_17 rfl 3 rfl ?_
        have u299 := ti_rng a3
        refine b_if_lt C 28 dX11_quarter_18 (by decide) (fun h298 => ?_) (fun h298 => ?_)
        · have h298 : a3.toInt < 0 := h298
          refine g_lv (lv' := []) [] rfl ?_
          exact J28 (by show a1.toInt < 0 ∨ 3 < a1.toInt ∨ a2.toInt < 0 ∨ 100 < a2.toInt ∨ a3.toInt < 0 ∨ 999 < a3.toInt; omega)
        · have h298 : 0 ≤ a3.toInt := h298
          refine g_iload_n C dX11_quarter_21 rfl 3 rfl ?_
          refine g_sipush (v := 999) C dX11_quarter_22 (by decide) ?_
          have u301 := ti_rng a3
          refine b_icmp_le C 30 dX11_quarter_25 (by decide) (fun h300 => ?_) (fun h300 => ?_)
          · have h300 : a3.toInt ≤ 999 := h300
            refine g_aload_n C dX11_quarter_30 rfl 0 rfl ?_
            obtain ⟨b302, e303, h304⟩ := I.fld (ha0) 4 13 4 rfl
            refine g_getR C fi_X11_28 rfl e303 (ha0).1 (ha0).2 dX11_quarter_31 ?_
            refine g_iload_n C dX11_quarter_34 rfl 1 rfl ?_
            refine g_iload_n C dX11_quarter_35 rfl 2 rfl ?_
            refine g_iast (j := (a1.toInt.toNat)) C h304.1 h304.2.1 (ix_in h304.2.2 (by omega)) dX11_quarter_36 ?_
            refine gp (ks := [13]) (I.setA h304 (by decide)) (EK.setI h304.2.1 (by decide)) (fun Y305 Iy306 Xy307 => ?_)
            have Xz308 : EK [13] P Y305 := Xy307.mono (by decide)
            have h309 := Xy307.at ha0
            refine g_aload_n C dX11_quarter_37 rfl 0 rfl ?_
            obtain ⟨b310, e311, h312⟩ := Iy306.fld (h309) 5 13 4 rfl
            refine g_getR C fi_X11_32 rfl e311 (h309).1 (h309).2 dX11_quarter_38 ?_
            refine g_iload_n C dX11_quarter_41 rfl 1 rfl ?_
            refine g_iload_n C dX11_quarter_42 rfl 3 rfl ?_
            refine g_iast (j := (a1.toInt.toNat)) C h312.1 h312.2.1 (ix_in h312.2.2 (by omega)) dX11_quarter_43 ?_
            refine gp (ks := [13]) (Iy306.setA h312 (by decide)) (EK.setI h312.2.1 (by decide)) (fun Y313 Iy314 Xy315 => ?_)
            have Xz316 : EK [13] P Y313 := Xz308.tr (Xy315.mono (by decide))
            have h317 := Xy315.at h309
            refine g_iconst (v := 1) C dX11_quarter_44 (by decide) ?_
            exact ret _ _ _ _ _ _ dX11_quarter_45 rfl (by decide) (by decide) ⟨Iy314, Xz316, (by decide), Or.inr (by omega), (by show ((1 : Int) = 1 ∧ (0 ≤ a1.toInt ∧ a1.toInt ≤ 3 ∧ 0 ≤ a2.toInt ∧ a2.toInt ≤ 100 ∧ 0 ≤ a3.toInt ∧ a3.toInt ≤ 999)) ∨ ((1 : Int) = 0 ∧ (a1.toInt < 0 ∨ 3 < a1.toInt ∨ a2.toInt < 0 ∨ 100 < a2.toInt ∨ a3.toInt < 0 ∨ 999 < a3.toInt)); omega)⟩
          · have h300 : 999 < a3.toInt := h300
            refine g_lv (lv' := []) [] rfl ?_
            exact J28 (by show a1.toInt < 0 ∨ 3 < a1.toInt ∨ a2.toInt < 0 ∨ 100 < a2.toInt ∨ a3.toInt < 0 ∨ 999 < a3.toInt; omega)
set_option maxHeartbeats 4000000 in
set_option maxRecDepth 100000 in
theorem s_X12_quarter_E {P : PP} {a0 : Nat} {a1 : Int32} {a2 : Int32} {a3 : Int32} (I : IM P a0) (hW : MW P a0) : CtrI yX12_quarter cX12_quarter 4 (some Jvm.ClassFile.FieldType.boolean) ({ frames := 3, cells := 0, slots := 0, locals := 192 } : Room) 0 0 P [.ref a0, .int a1, .int a2, .int a3] (fun r P2 => IM P2 a0 ∧ EM [0, 45, 46] a0 P P2 ∧ MW P2 a0 ∧ (0 ≤ r.toInt ∧ r.toInt ≤ 1) ∧ (r.toInt = 0 ∨ (((0 : Int) ≤ a1.toInt ∧ a1.toInt ≤ (3 : Int)) ∧ ((0 : Int) ≤ a2.toInt ∧ a2.toInt ≤ (100 : Int)) ∧ ((0 : Int) ≤ a3.toInt ∧ a3.toInt ≤ (999 : Int)))) ∧ ((r.toInt = 1 ∧ (0 ≤ a1.toInt ∧ a1.toInt ≤ 3 ∧ 0 ≤ a2.toInt ∧ a2.toInt ≤ 100 ∧ 0 ≤ a3.toInt ∧ a3.toInt ≤ 999)) ∨ (r.toInt = 0 ∧ (a1.toInt < 0 ∨ 3 < a1.toInt ∨ a2.toInt < 0 ∨ 100 < a2.toInt ∨ a3.toInt < 0 ∨ 999 < a3.toInt)))) := by
  refine enI (lv := [(0, .ref a0), (1, .int a1), (2, .int a2), (3, .int a3)]) (by decide) (Nat.le_of_ble_eq_true rfl) rfl (fun E D cy C Ci0 ret => ?_)
  have ha0 := I.2.1
  have J33 : ∀ (P33 : PP), (IM P33 a0) → (EM [0, 45, 46] a0 P P33) → (MW P33 a0) → (0 ≤ (pI P33 a0 0).toInt ∧ (pI P33 a0 0).toInt ≤ 0) → (a1.toInt < 0 ∨ 3 < a1.toInt ∨ a2.toInt < 0 ∨ 100 < a2.toInt ∨ a3.toInt < 0 ∨ 999 < a3.toInt) → G E ({ frames := 3, cells := 0, slots := 0, locals := 192 } : Room) D cy 4 P33 0 0 33 [] [] := by
    intro P33 I33 X33 W33 hq33_0 rel33_0
    have h428 := X33.at ha0
    refine g_iconst (v := 0) C dX12_quarter_33 (by decide) ?_
    exact ret _ _ _ _ _ _ dX12_quarter_34 rfl (by decide) (by decide) ⟨I33, X33, W33, (by decide), Or.inl rfl, (by show ((0 : Int) = 1 ∧ (0 ≤ a1.toInt ∧ a1.toInt ≤ 3 ∧ 0 ≤ a2.toInt ∧ a2.toInt ≤ 100 ∧ 0 ≤ a3.toInt ∧ a3.toInt ≤ 999)) ∨ ((0 : Int) = 0 ∧ (a1.toInt < 0 ∨ 3 < a1.toInt ∨ a2.toInt < 0 ∨ 100 < a2.toInt ∨ a3.toInt < 0 ∨ 999 < a3.toInt)); omega)⟩
  refine g_aload_n C dX12_quarter_0 rfl 0 rfl ?_
  refine g_iconst (v := 0) C dX12_quarter_1 (by decide) ?_
  refine g_putI C fi_X12_1 rfl (ha0).1 (ha0).2 dX12_quarter_2 ?_
  refine gqW (ks := [0]) (I.setI (rgOk.of rfl (by decide))) (EM.setI I (by decide)) (fun Y429 Iy430 Xy431 w432  => ?_)
  have w432 : (pI Y429 a0 0).toInt = 0 := w432
  have W433 := hW.keep I Xy431 (by decide) (by decide) (by decide) (by decide)
  have Xz434 : EM [0, 45, 46] a0 P Y429 := Xy431.mono (by decide)
  have h435 := Xy431.at ha0
  refine g_iload_n C dX12_quarter_5 rfl 1 rfl ?_
  refine g_callSI (b := 0) (ci := 0) (rest := []) C ms_X12_278 [.int a1] (s_X12_isQuarter_E Iy430.1) rfl rfl (by decide) (Nat.le_of_ble_eq_true rfl) (by decide) dX12_quarter_6 (fun r436 Y437 h438 => ?_)
  obtain ⟨rfl, h438⟩ := h438
  obtain ⟨h438, hi439, hi440⟩ := h438
  have hi439 : r436.toInt = 0 ∨ (((0 : Int) ≤ a1.toInt ∧ a1.toInt ≤ (3 : Int))) := hi439
  have hi440 : r436.toInt ≠ 0 ∨ a1.toInt < 0 ∨ 3 < a1.toInt := hi440
  have h438 : 0 ≤ r436.toInt ∧ r436.toInt ≤ 1 := h438
  refine b_if_eq C 33 dX12_quarter_9 (by decide) (fun h441 => ?_) (fun h441 => ?_)
  · have h441 : r436.toInt = 0 := congrArg Int32.toInt h441
    clear hi439
    refine g_lv (lv' := []) [] rfl ?_
    exact J33 Y429 Iy430 Xz434 W433 (by omega) (by show a1.toInt < 0 ∨ 3 < a1.toInt ∨ a2.toInt < 0 ∨ 100 < a2.toInt ∨ a3.toInt < 0 ∨ 999 < a3.toInt; omega)
  · have h441 : r436.toInt ≠ 0 := ti_ne h441
    replace hi439 := hi439.resolve_left (by omega)
    refine g_iload_n C dX12_quarter_12 rfl 2 rfl ?_
    refine g_iconst (v := 0) C dX12_quarter_13 (by decide) ?_
    refine g_bipush (v := 100) C dX12_quarter_14 (by decide) ?_
    refine g_callSI (b := 0) (ci := 0) (rest := []) C ms_X12_178 [.int a2, .int 0, .int 100] (s_X12_within_E Iy430.1) rfl rfl (by decide) (Nat.le_of_ble_eq_true rfl) (by decide) dX12_quarter_16 (fun r442 Y443 h444 => ?_)
    obtain ⟨rfl, h444⟩ := h444
    obtain ⟨h444, hi445, hi446⟩ := h444
    have hi445 : r442.toInt = 0 ∨ (0 ≤ a2.toInt ∧ a2.toInt ≤ 100) := hi445
    have hi446 : r442.toInt ≠ 0 ∨ a2.toInt < 0 ∨ 100 < a2.toInt := hi446
    have h444 : 0 ≤ r442.toInt ∧ r442.toInt ≤ 1 := h444
    refine b_if_eq C 33 dX12_quarter_19 (by decide) (fun h447 => ?_) (fun h447 => ?_)
    · have h447 : r442.toInt = 0 := congrArg Int32.toInt h447
      clear hi445
      refine g_lv (lv' := []) [] rfl ?_
      exact J33 Y429 Iy430 Xz434 W433 (by omega) (by show a1.toInt < 0 ∨ 3 < a1.toInt ∨ a2.toInt < 0 ∨ 100 < a2.toInt ∨ a3.toInt < 0 ∨ 999 < a3.toInt; omega)
    · have h447 : r442.toInt ≠ 0 := ti_ne h447
      replace hi445 := hi445.resolve_left (by omega)
      refine g_iload_n C dX12_quarter_22 rfl 3 rfl ?_
      refine g_iconst (v := 0) C dX12_quarter_23 (by decide) ?_
      refine g_sipush (v := 999) C dX12_quarter_24 (by decide) ?_
      refine g_callSI (b := 0) (ci := 0) (rest := []) C ms_X12_178 [.int a3, .int 0, .int 999] (s_X12_within_E Iy430.1) rfl rfl (by decide) (Nat.le_of_ble_eq_true rfl) (by decide) dX12_quarter_27 (fun r448 Y449 h450 => ?_)
      obtain ⟨rfl, h450⟩ := h450
      obtain ⟨h450, hi451, hi452⟩ := h450
      have hi451 : r448.toInt = 0 ∨ (0 ≤ a3.toInt ∧ a3.toInt ≤ 999) := hi451
      have hi452 : r448.toInt ≠ 0 ∨ a3.toInt < 0 ∨ 999 < a3.toInt := hi452
      have h450 : 0 ≤ r448.toInt ∧ r448.toInt ≤ 1 := h450
      refine b_if_ne C 35 dX12_quarter_30 (by decide) (fun h453 => ?_) (fun h453 => ?_)
      · have h453 : r448.toInt ≠ 0 := ti_ne h453
        replace hi451 := hi451.resolve_left (by omega)
        refine g_aload_n C dX12_quarter_35 rfl 0 rfl ?_
        obtain ⟨b454, e455, h456⟩ := Iy430.fld (h435) 45 13 4 rfl
        refine g_getR C fi_X12_127 rfl e455 (h435).1 (h435).2 dX12_quarter_36 ?_
        refine g_iload_n C dX12_quarter_39 rfl 1 rfl ?_
        refine g_iload_n C dX12_quarter_40 rfl 2 rfl ?_
        refine g_iast (j := (a1.toInt.toNat)) C h456.1 h456.2.1 (ix_in h456.2.2 (by omega)) dX12_quarter_41 ?_
        refine gqW (ks := [45]) (Iy430.setA e455 h456 (by decide) (arOk.none rfl)) (EM.setA Iy430 e455 rfl (by decide)) (fun Y457 Iy458 Xy459 w460  => ?_)
        have w460 : (pI Y457 b454 (a1.toInt.toNat)).toInt = a2.toInt := w460
        have q461 := Xy459.keepF 0 (by decide)
        have W462 := W433.keep Iy430 Xy459 (by decide) (by decide) (by decide) (by decide)
        have Xz463 : EM [0, 45, 46] a0 P Y457 := EM.tr ha0 Xz434 (Xy459.mono (by decide))
        have e464 := Xy459.ref h435 (by decide) e455
        have h465 := Xy459.at h435
        have h466 := Xy459.ar h456
        refine g_aload_n C dX12_quarter_42 rfl 0 rfl ?_
        obtain ⟨b467, e468, h469⟩ := Iy458.fld (h465) 46 13 4 rfl
        refine g_getR C fi_X12_130 rfl e468 (h465).1 (h465).2 dX12_quarter_43 ?_
        refine g_iload_n C dX12_quarter_46 rfl 1 rfl ?_
        refine g_iload_n C dX12_quarter_47 rfl 3 rfl ?_
        refine g_iast (j := (a1.toInt.toNat)) C h469.1 h469.2.1 (ix_in h469.2.2 (by omega)) dX12_quarter_48 ?_
        refine gqW (ks := [46]) (Iy458.setA e468 h469 (by decide) (arOk.none rfl)) (EM.setA Iy458 e468 rfl (by decide)) (fun Y470 Iy471 Xy472 w473  => ?_)
        have w473 : (pI Y470 b467 (a1.toInt.toNat)).toInt = a3.toInt := w473
        have q474 := Xy472.keepF 0 (by decide)
        have q475 := Xy472.keepA e464 (by decide) rfl (a1.toInt.toNat)
        have W476 := W462.keep Iy458 Xy472 (by decide) (by decide) (by decide) (by decide)
        have Xz477 : EM [0, 45, 46] a0 P Y470 := EM.tr ha0 Xz463 (Xy472.mono (by decide))
        have e478 := Xy472.ref h465 (by decide) e464
        have e479 := Xy472.ref h465 (by decide) e468
        have h480 := Xy472.at h465
        have h481 := Xy472.ar h466
        have h482 := Xy472.ar h469
        refine g_iconst (v := 1) C dX12_quarter_49 (by decide) ?_
        exact ret _ _ _ _ _ _ dX12_quarter_50 rfl (by decide) (by decide) ⟨Iy471, Xz477, W476, (by decide), Or.inr (by omega), (by show ((1 : Int) = 1 ∧ (0 ≤ a1.toInt ∧ a1.toInt ≤ 3 ∧ 0 ≤ a2.toInt ∧ a2.toInt ≤ 100 ∧ 0 ≤ a3.toInt ∧ a3.toInt ≤ 999)) ∨ ((1 : Int) = 0 ∧ (a1.toInt < 0 ∨ 3 < a1.toInt ∨ a2.toInt < 0 ∨ 100 < a2.toInt ∨ a3.toInt < 0 ∨ 999 < a3.toInt)); omega)⟩
      · have h453 : r448.toInt = 0 := congrArg Int32.toInt h453
        clear hi451
        refine g_lv (lv' := []) [] rfl ?_
        exact J33 Y429 Iy430 Xz434 W433 (by omega) (by show a1.toInt < 0 ∨ 3 < a1.toInt ∨ a2.toInt < 0 ∨ 100 < a2.toInt ∨ a3.toInt < 0 ∨ 999 < a3.toInt; omega)
