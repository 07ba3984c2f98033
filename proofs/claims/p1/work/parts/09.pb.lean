/-- only numbers have changed, in cells of the kinds ks alone -/
def Kp (ks : List Nat) (P P2 : PP) : Prop := ∃ I2 : Nat → Nat → Int32, P2 = pWI P I2 (pJ P) ∧ ∀ b, pK P b ∉ ks → I2 b = pI P b
theorem Kp.rf {ks : List Nat} {P : PP} : Kp ks P P := ⟨_, rfl, fun _ _ => rfl⟩
theorem Kp.set {ks : List Nat} {P P2 : PP} {a k : Nat} {v : Int32} (h : Kp ks P P2) (ha : pK P a ∈ ks) : Kp ks P (pSI P2 a k v) := by
  obtain ⟨I2, rfl, h⟩ := h
  refine ⟨va_up I2 a (va_up (I2 a) k v), rfl, fun b hb => ?_⟩
  have hne : b ≠ a := fun e => hb (e ▸ ha)
  rw [up_ne hne]; exact h b hb
theorem Kp.tr {ks ks2 : List Nat} {P P2 P3 : PP} (h : Kp ks P P2) (h2 : Kp ks2 P2 P3) (hs : ∀ k, k ∈ ks2 → k ∈ ks) : Kp ks P P3 := by
  obtain ⟨I2, rfl, h⟩ := h
  obtain ⟨I3, rfl, h2⟩ := h2
  exact ⟨I3, rfl, fun b hb => (h2 b (fun q => hb (hs _ q))).trans (h b hb)⟩
def Z6 (P P2 : PP) : Prop := ∃ I2 : Nat → Nat → Int32, P2 = pWI P I2 (pJ P) ∧ ∀ b, b ∈ pL P → pK P b = 6 → I2 b 1 = 0
theorem dX3_clear_0 : decode cX3_clear 0 = .ok (.iconst 0, 1) := by decide +kernel
theorem dX3_clear_1 : decode cX3_clear 1 = .ok (.istore_n 1, 1) := by decide +kernel
theorem dX3_clear_2 : decode cX3_clear 2 = .ok (.iload_n 1, 1) := by decide +kernel
theorem dX3_clear_3 : decode cX3_clear 3 = .ok (.bipush 20, 2) := by decide +kernel
theorem dX3_clear_5 : decode cX3_clear 5 = .ok (.if_icmp .gt 16, 3) := by decide +kernel
theorem dX3_clear_8 : decode cX3_clear 8 = .ok (.aload_n 0, 1) := by decide +kernel
theorem dX3_clear_9 : decode cX3_clear 9 = .ok (.getfield 9, 3) := by decide +kernel
theorem dX3_clear_12 : decode cX3_clear 12 = .ok (.iload_n 1, 1) := by decide +kernel
theorem dX3_clear_13 : decode cX3_clear 13 = .ok (.iconst (-1), 1) := by decide +kernel
theorem dX3_clear_14 : decode cX3_clear 14 = .ok (.iastore, 1) := by decide +kernel
theorem dX3_clear_15 : decode cX3_clear 15 = .ok (.iinc 1 1, 3) := by decide +kernel
theorem dX3_clear_18 : decode cX3_clear 18 = .ok (.goto (-16), 3) := by decide +kernel
theorem dX3_clear_21 : decode cX3_clear 21 = .ok (.aload_n 0, 1) := by decide +kernel
theorem dX3_clear_22 : decode cX3_clear 22 = .ok (.iconst 0, 1) := by decide +kernel
theorem dX3_clear_23 : decode cX3_clear 23 = .ok (.putfield 21, 3) := by decide +kernel
theorem dX3_clear_26 : decode cX3_clear 26 = .ok (.aload_n 0, 1) := by decide +kernel
theorem dX3_clear_27 : decode cX3_clear 27 = .ok (.iconst 0, 1) := by decide +kernel
theorem dX3_clear_28 : decode cX3_clear 28 = .ok (.putfield 25, 3) := by decide +kernel
theorem dX3_clear_31 : decode cX3_clear 31 = .ok (.aload_n 0, 1) := by decide +kernel
theorem dX3_clear_32 : decode cX3_clear 32 = .ok (.iconst 0, 1) := by decide +kernel
theorem dX3_clear_33 : decode cX3_clear 33 = .ok (.putfield 28, 3) := by decide +kernel
theorem dX3_clear_36 : decode cX3_clear 36 = .ok (.aload_n 0, 1) := by decide +kernel
theorem dX3_clear_37 : decode cX3_clear 37 = .ok (.iconst 0, 1) := by decide +kernel
theorem dX3_clear_38 : decode cX3_clear 38 = .ok (.putfield 31, 3) := by decide +kernel
theorem dX3_clear_41 : decode cX3_clear 41 = .ok (.return_, 1) := by decide +kernel
set_option maxHeartbeats 4000000 in
set_option maxRecDepth 100000 in
theorem c_X3_clear {P : PP} {a : Nat} (ok : ∀ a, a ∈ pL P → xOk P a) (ha : a ∈ pL P) (haK : pK P a = 3) : CtrV yX3_clear cX3_clear 2 none ({ frames := 1, cells := 0, slots := 0, locals := 64 } : Room) 0 0 P [.ref a] (fun P2 => Kp [3, 13] P P2) := by
  refine enV (lv := [(0, .ref a)]) (by decide) (Nat.le_of_ble_eq_true rfl) rfl (fun E D cy C Ci0 ret => ?_)
  refine g_iconst (v := 0) C dX3_clear_0 (by decide) ?_
  refine g_istore_n (lv' := [(1, .int 0), (0, .ref a)]) C dX3_clear_1 rfl (by decide) rfl ?_
  have lp150 : ∀ (n152 i145 : Nat), i145 + n152 = 21 → ∀ (I146 : Nat → Nat → Int32), (Kp [3, 13] P (pWI P I146 (pJ P))) → G E ({ frames := 1, cells := 0, slots := 0, locals := 64 } : Room) D cy 2 (pWI P I146 (pJ P)) 0 0 2 [(1, .int (nI i145)), (0, .ref a)] [] := by
    intro n152
    induction n152 with
    | zero =>
      intro i145 hi147 I146 hv148
      have ei149 : (nI i145).toInt = (i145 : Int) := ti_nI (by omega)
      refine g_iload_n C dX3_clear_2 rfl 0 rfl ?_
      refine g_bipush (v := 20) C dX3_clear_3 (by decide) ?_
      refine b_icmp_gt C 21 dX3_clear_5 (by decide) (fun h153 => ?_) (fun h153 => ?_)
      · have h153 : 20 < (nI i145).toInt := h153
        refine g_aload_n C dX3_clear_21 rfl 1 rfl ?_
        refine g_iconst (v := 0) C dX3_clear_22 (by decide) ?_
        refine g_putI C fi_X3_21 rfl ha haK dX3_clear_23 ?_
        have k154 := hv148.set (k := 2) (v := 0) (by rw [show pK P a = 3 from haK]; decide)
        refine g_aload_n C dX3_clear_26 rfl 1 rfl ?_
        refine g_iconst (v := 0) C dX3_clear_27 (by decide) ?_
        refine g_putI C fi_X3_25 rfl ha haK dX3_clear_28 ?_
        have k155 := k154.set (k := 3) (v := 0) (by rw [show pK P a = 3 from haK]; decide)
        refine g_aload_n C dX3_clear_31 rfl 1 rfl ?_
        refine g_iconst (v := 0) C dX3_clear_32 (by decide) ?_
        refine g_putI C fi_X3_28 rfl ha haK dX3_clear_33 ?_
        have k156 := k155.set (k := 4) (v := 0) (by rw [show pK P a = 3 from haK]; decide)
        refine g_aload_n C dX3_clear_36 rfl 1 rfl ?_
        refine g_iconst (v := 0) C dX3_clear_37 (by decide) ?_
        refine g_putI C fi_X3_31 rfl ha haK dX3_clear_38 ?_
        have k157 := k156.set (k := 5) (v := 0) (by rw [show pK P a = 3 from haK]; decide)
        exact ret _ _ _ _ _ dX3_clear_41 (by decide) (by decide) (k157)
      · have h153 : (nI i145).toInt ≤ 20 := h153
        omega
    | succ n152 ih151 =>
      intro i145 hi147 I146 hv148
      have ei149 : (nI i145).toInt = (i145 : Int) := ti_nI (by omega)
      refine g_iload_n C dX3_clear_2 rfl 0 rfl ?_
      refine g_bipush (v := 20) C dX3_clear_3 (by decide) ?_
      refine b_icmp_gt C 21 dX3_clear_5 (by decide) (fun h158 => ?_) (fun h158 => ?_)
      · have h158 : 20 < (nI i145).toInt := h158
        omega
      · have h158 : (nI i145).toInt ≤ 20 := h158
        refine g_aload_n C dX3_clear_8 rfl 1 rfl ?_
        obtain ⟨b159, h160⟩ := xFd.at (ok a ha) haK 0 13 21 rfl
        refine g_getR C fi_X3_9 rfl h160.1 ha haK dX3_clear_9 ?_
        refine g_iload_n C dX3_clear_12 rfl 0 rfl ?_
        refine g_iconst (v := (-1)) C dX3_clear_13 (by decide) ?_
        refine g_iast (j := i145) C h160.2.1 h160.2.2.1 (IX.inn h160.2.2.2 (by omega) (by decide)) dX3_clear_14 ?_
        have k161 := hv148.set (k := i145) (v := (-1)) (by rw [show pK P b159 = 13 from h160.2.2.1]; decide)
        refine g_iinc (v := (nI (i145 + 1))) (lv' := [(1, .int (nI (i145 + 1))), (0, .ref a)]) C dX3_clear_15 0 rfl (nI_1 _) (by decide) rfl ?_
        refine g_goto C 2 dX3_clear_18 (by decide) ?_
        exact ih151 (i145 + 1) (by omega) _ (k161)
  exact lp150 21 0 rfl _ ((Kp.rf (ks := [3, 13]) (P := P)))
theorem dX1_forgetDrawn_0 : decode cX1_forgetDrawn 0 = .ok (.iconst 0, 1) := by decide +kernel
theorem dX1_forgetDrawn_1 : decode cX1_forgetDrawn 1 = .ok (.istore_n 1, 1) := by decide +kernel
theorem dX1_forgetDrawn_2 : decode cX1_forgetDrawn 2 = .ok (.iload_n 1, 1) := by decide +kernel
theorem dX1_forgetDrawn_3 : decode cX1_forgetDrawn 3 = .ok (.bipush 60, 2) := by decide +kernel
theorem dX1_forgetDrawn_5 : decode cX1_forgetDrawn 5 = .ok (.if_icmp .ge 16, 3) := by decide +kernel
theorem dX1_forgetDrawn_8 : decode cX1_forgetDrawn 8 = .ok (.aload_n 0, 1) := by decide +kernel
theorem dX1_forgetDrawn_9 : decode cX1_forgetDrawn 9 = .ok (.getfield 22, 3) := by decide +kernel
theorem dX1_forgetDrawn_12 : decode cX1_forgetDrawn 12 = .ok (.iload_n 1, 1) := by decide +kernel
theorem dX1_forgetDrawn_13 : decode cX1_forgetDrawn 13 = .ok (.iconst 0, 1) := by decide +kernel
theorem dX1_forgetDrawn_14 : decode cX1_forgetDrawn 14 = .ok (.iastore, 1) := by decide +kernel
theorem dX1_forgetDrawn_15 : decode cX1_forgetDrawn 15 = .ok (.iinc 1 1, 3) := by decide +kernel
theorem dX1_forgetDrawn_18 : decode cX1_forgetDrawn 18 = .ok (.goto (-16), 3) := by decide +kernel
theorem dX1_forgetDrawn_21 : decode cX1_forgetDrawn 21 = .ok (.return_, 1) := by decide +kernel
set_option maxHeartbeats 4000000 in
set_option maxRecDepth 100000 in
theorem c_X1_forgetDrawn {P : PP} {a : Nat} (ok : ∀ a, a ∈ pL P → xOk P a) (ha : a ∈ pL P) (haK : pK P a = 1) : CtrV yX1_forgetDrawn cX1_forgetDrawn 2 none ({ frames := 1, cells := 0, slots := 0, locals := 64 } : Room) 0 0 P [.ref a] (fun P2 => Kp [13] P P2) := by
  refine enV (lv := [(0, .ref a)]) (by decide) (Nat.le_of_ble_eq_true rfl) rfl (fun E D cy C Ci0 ret => ?_)
  refine g_iconst (v := 0) C dX1_forgetDrawn_0 (by decide) ?_
  refine g_istore_n (lv' := [(1, .int 0), (0, .ref a)]) C dX1_forgetDrawn_1 rfl (by decide) rfl ?_
  have lp167 : ∀ (n169 i162 : Nat), i162 + n169 = 60 → ∀ (I163 : Nat → Nat → Int32), (Kp [13] P (pWI P I163 (pJ P))) → G E ({ frames := 1, cells := 0, slots := 0, locals := 64 } : Room) D cy 2 (pWI P I163 (pJ P)) 0 0 2 [(1, .int (nI i162)), (0, .ref a)] [] := by
    intro n169
    induction n169 with
    | zero =>
      intro i162 hi164 I163 hv165
      have ei166 : (nI i162).toInt = (i162 : Int) := ti_nI (by omega)
      refine g_iload_n C dX1_forgetDrawn_2 rfl 0 rfl ?_
      refine g_bipush (v := 60) C dX1_forgetDrawn_3 (by decide) ?_
      refine b_icmp_ge C 21 dX1_forgetDrawn_5 (by decide) (fun h170 => ?_) (fun h170 => ?_)
      · have h170 : 60 ≤ (nI i162).toInt := h170
        exact ret _ _ _ _ _ dX1_forgetDrawn_21 (by decide) (by decide) (hv165)
      · have h170 : (nI i162).toInt < 60 := h170
        omega
    | succ n169 ih168 =>
      intro i162 hi164 I163 hv165
      have ei166 : (nI i162).toInt = (i162 : Int) := ti_nI (by omega)
      refine g_iload_n C dX1_forgetDrawn_2 rfl 0 rfl ?_
      refine g_bipush (v := 60) C dX1_forgetDrawn_3 (by decide) ?_
      refine b_icmp_ge C 21 dX1_forgetDrawn_5 (by decide) (fun h171 => ?_) (fun h171 => ?_)
      · have h171 : 60 ≤ (nI i162).toInt := h171
        omega
      · have h171 : (nI i162).toInt < 60 := h171
        refine g_aload_n C dX1_forgetDrawn_8 rfl 1 rfl ?_
        obtain ⟨b172, h173⟩ := xFd.at (ok a ha) haK 3 13 60 rfl
        refine g_getR C fi_X1_22 rfl h173.1 ha haK dX1_forgetDrawn_9 ?_
        refine g_iload_n C dX1_forgetDrawn_12 rfl 0 rfl ?_
        refine g_iconst (v := 0) C dX1_forgetDrawn_13 (by decide) ?_
        refine g_iast (j := i162) C h173.2.1 h173.2.2.1 (IX.inn h173.2.2.2 (by omega) (by decide)) dX1_forgetDrawn_14 ?_
        have k174 := hv165.set (k := i162) (v := 0) (by rw [show pK P b172 = 13 from h173.2.2.1]; decide)
        refine g_iinc (v := (nI (i162 + 1))) (lv' := [(1, .int (nI (i162 + 1))), (0, .ref a)]) C dX1_forgetDrawn_15 0 rfl (nI_1 _) (by decide) rfl ?_
        refine g_goto C 2 dX1_forgetDrawn_18 (by decide) ?_
        exact ih168 (i162 + 1) (by omega) _ (k174)
  exact lp167 60 0 rfl _ ((Kp.rf (ks := [13]) (P := P)))
theorem dX1_tell_0 : decode cX1_tell 0 = .ok (.aload_n 0, 1) := by decide +kernel
theorem dX1_tell_1 : decode cX1_tell 1 = .ok (.iconst 1, 1) := by decide +kernel
theorem dX1_tell_2 : decode cX1_tell 2 = .ok (.putfield 29, 3) := by decide +kernel
theorem dX1_tell_5 : decode cX1_tell 5 = .ok (.aload_n 0, 1) := by decide +kernel
theorem dX1_tell_6 : decode cX1_tell 6 = .ok (.iload_n 1, 1) := by decide +kernel
theorem dX1_tell_7 : decode cX1_tell 7 = .ok (.putfield 33, 3) := by decide +kernel
theorem dX1_tell_10 : decode cX1_tell 10 = .ok (.iconst 0, 1) := by decide +kernel
theorem dX1_tell_11 : decode cX1_tell 11 = .ok (.istore_n 2, 1) := by decide +kernel
theorem dX1_tell_12 : decode cX1_tell 12 = .ok (.iload_n 2, 1) := by decide +kernel
theorem dX1_tell_13 : decode cX1_tell 13 = .ok (.bipush 16, 2) := by decide +kernel
theorem dX1_tell_15 : decode cX1_tell 15 = .ok (.if_icmp .ge 16, 3) := by decide +kernel
theorem dX1_tell_18 : decode cX1_tell 18 = .ok (.aload_n 0, 1) := by decide +kernel
theorem dX1_tell_19 : decode cX1_tell 19 = .ok (.getfield 9, 3) := by decide +kernel
theorem dX1_tell_22 : decode cX1_tell 22 = .ok (.iload_n 2, 1) := by decide +kernel
theorem dX1_tell_23 : decode cX1_tell 23 = .ok (.iconst 0, 1) := by decide +kernel
theorem dX1_tell_24 : decode cX1_tell 24 = .ok (.iastore, 1) := by decide +kernel
theorem dX1_tell_25 : decode cX1_tell 25 = .ok (.iinc 2 1, 3) := by decide +kernel
theorem dX1_tell_28 : decode cX1_tell 28 = .ok (.goto (-16), 3) := by decide +kernel
theorem dX1_tell_31 : decode cX1_tell 31 = .ok (.aload_n 0, 1) := by decide +kernel
theorem dX1_tell_32 : decode cX1_tell 32 = .ok (.getfield 18, 3) := by decide +kernel
theorem dX1_tell_35 : decode cX1_tell 35 = .ok (.invokevirtual 36, 3) := by decide +kernel
theorem dX1_tell_38 : decode cX1_tell 38 = .ok (.aload_n 0, 1) := by decide +kernel
theorem dX1_tell_39 : decode cX1_tell 39 = .ok (.invokevirtual 39, 3) := by decide +kernel
theorem dX1_tell_42 : decode cX1_tell 42 = .ok (.return_, 1) := by decide +kernel
set_option maxHeartbeats 4000000 in
set_option maxRecDepth 100000 in
theorem c_X1_tell {P : PP} {a : Nat} {n : Int32} (ok : ∀ a, a ∈ pL P → xOk P a) (ha : a ∈ pL P) (haK : pK P a = 1) : CtrV yX1_tell cX1_tell 3 none ({ frames := 2, cells := 0, slots := 0, locals := 128 } : Room) 0 0 P [.ref a, .int n] (fun P2 => Kp [1, 3, 13] P P2) := by
  refine enV (lv := [(0, .ref a), (1, .int n)]) (by decide) (Nat.le_of_ble_eq_true rfl) rfl (fun E D cy C Ci0 ret => ?_)
  refine g_aload_n C dX1_tell_0 rfl 0 rfl ?_
  refine g_iconst (v := 1) C dX1_tell_1 (by decide) ?_
  refine g_putZ C fi_X1_29 rfl (Or.inr rfl) ha haK dX1_tell_2 ?_
  have k175 := (Kp.rf (ks := [1, 3, 13]) (P := P)).set (k := 4) (v := 1) (by rw [show pK P a = 1 from haK]; decide)
  refine g_aload_n C dX1_tell_5 rfl 0 rfl ?_
  refine g_iload_n C dX1_tell_6 rfl 1 rfl ?_
  refine g_putI C fi_X1_33 rfl ha haK dX1_tell_7 ?_
  have k176 := k175.set (k := 5) (v := n) (by rw [show pK P a = 1 from haK]; decide)
  refine g_iconst (v := 0) C dX1_tell_10 (by decide) ?_
  refine g_istore_n (lv' := [(2, .int 0), (0, .ref a), (1, .int n)]) C dX1_tell_11 rfl (by decide) rfl ?_
  have lp182 : ∀ (n184 i177 : Nat), i177 + n184 = 16 → ∀ (I178 : Nat → Nat → Int32), (Kp [1, 3, 13] P (pWI P I178 (pJ P))) → G E ({ frames := 2, cells := 0, slots := 0, locals := 128 } : Room) D cy 3 (pWI P I178 (pJ P)) 0 0 12 [(2, .int (nI i177)), (0, .ref a), (1, .int n)] [] := by
    intro n184
    induction n184 with
    | zero =>
      intro i177 hi179 I178 hv180
      have ei181 : (nI i177).toInt = (i177 : Int) := ti_nI (by omega)
      refine g_iload_n C dX1_tell_12 rfl 0 rfl ?_
      refine g_bipush (v := 16) C dX1_tell_13 (by decide) ?_
      refine b_icmp_ge C 31 dX1_tell_15 (by decide) (fun h185 => ?_) (fun h185 => ?_)
      · have h185 : 16 ≤ (nI i177).toInt := h185
        refine g_aload_n C dX1_tell_31 rfl 1 rfl ?_
        obtain ⟨b186, h187⟩ := xFd.at (ok a ha) haK 2 3 0 rfl
        refine g_getR C fi_X1_18 rfl h187.1 ha haK dX1_tell_32 ?_
        refine g_callVV (rest := []) C mv_X1_36 [] (c_X3_clear ok h187.2.1 h187.2.2.1) h187.2.1 h187.2.2.1 rfl rfl (by decide) (Nat.le_of_ble_eq_true rfl) (by decide) dX1_tell_35 (fun Q189 h190 => ?_)
        have k191 := hv180.tr h190 (by decide)
        obtain ⟨I192, rfl, -⟩ := h190
        refine g_aload_n C dX1_tell_38 rfl 1 rfl ?_
        refine g_callVV (rest := []) C mv_X1_39 [] (c_X1_forgetDrawn ok ha haK) ha haK rfl rfl (by decide) (Nat.le_of_ble_eq_true rfl) (by decide) dX1_tell_39 (fun Q194 h195 => ?_)
        have k196 := k191.tr h195 (by decide)
        obtain ⟨I197, rfl, -⟩ := h195
        exact ret _ _ _ _ _ dX1_tell_42 (by decide) (by decide) (k196)
      · have h185 : (nI i177).toInt < 16 := h185
        omega
    | succ n184 ih183 =>
      intro i177 hi179 I178 hv180
      have ei181 : (nI i177).toInt = (i177 : Int) := ti_nI (by omega)
      refine g_iload_n C dX1_tell_12 rfl 0 rfl ?_
      refine g_bipush (v := 16) C dX1_tell_13 (by decide) ?_
      refine b_icmp_ge C 31 dX1_tell_15 (by decide) (fun h198 => ?_) (fun h198 => ?_)
      · have h198 : 16 ≤ (nI i177).toInt := h198
        omega
      · have h198 : (nI i177).toInt < 16 := h198
        refine g_aload_n C dX1_tell_18 rfl 1 rfl ?_
        obtain ⟨b199, h200⟩ := xFd.at (ok a ha) haK 1 13 16 rfl
        refine g_getR C fi_X1_9 rfl h200.1 ha haK dX1_tell_19 ?_
        refine g_iload_n C dX1_tell_22 rfl 0 rfl ?_
        refine g_iconst (v := 0) C dX1_tell_23 (by decide) ?_
        refine g_iast (j := i177) C h200.2.1 h200.2.2.1 (IX.inn h200.2.2.2 (by omega) (by decide)) dX1_tell_24 ?_
        have k201 := hv180.set (k := i177) (v := 0) (by rw [show pK P b199 = 13 from h200.2.2.1]; decide)
        refine g_iinc (v := (nI (i177 + 1))) (lv' := [(2, .int (nI (i177 + 1))), (0, .ref a), (1, .int n)]) C dX1_tell_25 0 rfl (nI_1 _) (by decide) rfl ?_
        refine g_goto C 12 dX1_tell_28 (by decide) ?_
        exact ih183 (i177 + 1) (by omega) _ (k201)
  exact lp182 16 0 rfl _ (k176)
theorem dX6_dropTouching_0 : decode cX6_dropTouching 0 = .ok (.iconst 0, 1) := by decide +kernel
theorem dX6_dropTouching_1 : decode cX6_dropTouching 1 = .ok (.istore_n 2, 1) := by decide +kernel
theorem dX6_dropTouching_2 : decode cX6_dropTouching 2 = .ok (.iconst 0, 1) := by decide +kernel
theorem dX6_dropTouching_3 : decode cX6_dropTouching 3 = .ok (.istore_n 3, 1) := by decide +kernel
theorem dX6_dropTouching_4 : decode cX6_dropTouching 4 = .ok (.iload_n 3, 1) := by decide +kernel
theorem dX6_dropTouching_5 : decode cX6_dropTouching 5 = .ok (.aload_n 0, 1) := by decide +kernel
theorem dX6_dropTouching_6 : decode cX6_dropTouching 6 = .ok (.getfield 17, 3) := by decide +kernel
theorem dX6_dropTouching_9 : decode cX6_dropTouching 9 = .ok (.if_icmp .ge 37, 3) := by decide +kernel
theorem dX6_dropTouching_46 : decode cX6_dropTouching 46 = .ok (.aload_n 0, 1) := by decide +kernel
theorem dX6_dropTouching_47 : decode cX6_dropTouching 47 = .ok (.iload_n 2, 1) := by decide +kernel
theorem dX6_dropTouching_48 : decode cX6_dropTouching 48 = .ok (.putfield 17, 3) := by decide +kernel
theorem dX6_dropTouching_51 : decode cX6_dropTouching 51 = .ok (.return_, 1) := by decide +kernel
set_option maxHeartbeats 4000000 in
set_option maxRecDepth 100000 in
theorem c_X6_dropTouching {P : PP} {a : Nat} {n : Int32} (ok : ∀ a, a ∈ pL P → xOk P a) (z6 : ∀ b, b ∈ pL P → pK P b = 6 → pI P b 1 = 0) (ha : a ∈ pL P) (haK : pK P a = 6) : CtrV yX6_dropTouching cX6_dropTouching 4 none ({ frames := 1, cells := 0, slots := 0, locals := 64 } : Room) 0 0 P [.ref a, .int n] (fun P2 => Z6 P P2) := by
  refine enV (lv := [(0, .ref a), (1, .int n)]) (by decide) (Nat.le_of_ble_eq_true rfl) rfl (fun E D cy C Ci0 ret => ?_)
  refine g_iconst (v := 0) C dX6_dropTouching_0 (by decide) ?_
  refine g_istore_n (lv' := [(2, .int 0), (0, .ref a), (1, .int n)]) C dX6_dropTouching_1 rfl (by decide) rfl ?_
  refine g_iconst (v := 0) C dX6_dropTouching_2 (by decide) ?_
  refine g_istore_n (lv' := [(3, .int 0), (2, .int 0), (0, .ref a), (1, .int n)]) C dX6_dropTouching_3 rfl (by decide) rfl ?_
  refine g_iload_n C dX6_dropTouching_4 rfl 0 rfl ?_
  refine g_aload_n C dX6_dropTouching_5 rfl 2 rfl ?_
  refine g_getI C fi_X6_17 (by decide) ha haK dX6_dropTouching_6 ?_
  rw [show pI P a 1 = 0 from z6 a ha haK]
  refine b_icmp_ge C 46 dX6_dropTouching_9 (by decide) (fun _ => ?_) (fun h => absurd h (by decide))
  refine g_aload_n C dX6_dropTouching_46 rfl 2 rfl ?_
  refine g_iload_n C dX6_dropTouching_47 rfl 1 rfl ?_
  refine g_putI C fi_X6_17 rfl ha haK dX6_dropTouching_48 ?_
  exact ret _ _ _ _ _ dX6_dropTouching_51 (by decide) (by decide) (⟨_, rfl, fun b hb hk => by by_cases e : b = a <;> simp [va_up, e, z6 b hb hk]⟩)
theorem dX6_copy_0 : decode cX6_copy 0 = .ok (.iconst 0, 1) := by decide +kernel
theorem dX6_copy_1 : decode cX6_copy 1 = .ok (.istore_n 2, 1) := by decide +kernel
theorem dX6_copy_2 : decode cX6_copy 2 = .ok (.iload_n 2, 1) := by decide +kernel
theorem dX6_copy_3 : decode cX6_copy 3 = .ok (.aload_n 1, 1) := by decide +kernel
theorem dX6_copy_4 : decode cX6_copy 4 = .ok (.getfield 17, 3) := by decide +kernel
theorem dX6_copy_7 : decode cX6_copy 7 = .ok (.if_icmp .ge 21, 3) := by decide +kernel
theorem dX6_copy_28 : decode cX6_copy 28 = .ok (.aload_n 0, 1) := by decide +kernel
theorem dX6_copy_29 : decode cX6_copy 29 = .ok (.aload_n 1, 1) := by decide +kernel
theorem dX6_copy_30 : decode cX6_copy 30 = .ok (.getfield 17, 3) := by decide +kernel
theorem dX6_copy_33 : decode cX6_copy 33 = .ok (.putfield 17, 3) := by decide +kernel
theorem dX6_copy_36 : decode cX6_copy 36 = .ok (.return_, 1) := by decide +kernel
set_option maxHeartbeats 4000000 in
set_option maxRecDepth 100000 in
theorem c_X6_copy {P : PP} {a : Nat} {o : Nat} (ok : ∀ a, a ∈ pL P → xOk P a) (z6 : ∀ b, b ∈ pL P → pK P b = 6 → pI P b 1 = 0) (ha : a ∈ pL P) (haK : pK P a = 6) (ho : o ∈ pL P) (hoK : pK P o = 6) : CtrV yX6_copy cX6_copy 3 none ({ frames := 1, cells := 0, slots := 0, locals := 64 } : Room) 0 0 P [.ref a, .ref o] (fun P2 => Z6 P P2) := by
  refine enV (lv := [(0, .ref a), (1, .ref o)]) (by decide) (Nat.le_of_ble_eq_true rfl) rfl (fun E D cy C Ci0 ret => ?_)
  refine g_iconst (v := 0) C dX6_copy_0 (by decide) ?_
  refine g_istore_n (lv' := [(2, .int 0), (0, .ref a), (1, .ref o)]) C dX6_copy_1 rfl (by decide) rfl ?_
  refine g_iload_n C dX6_copy_2 rfl 0 rfl ?_
  refine g_aload_n C dX6_copy_3 rfl 2 rfl ?_
  refine g_getI C fi_X6_17 (by decide) ho hoK dX6_copy_4 ?_
  rw [show pI P o 1 = 0 from z6 o ho hoK]
  refine b_icmp_ge C 28 dX6_copy_7 (by decide) (fun _ => ?_) (fun h => absurd h (by decide))
  refine g_aload_n C dX6_copy_28 rfl 1 rfl ?_
  refine g_aload_n C dX6_copy_29 rfl 2 rfl ?_
  refine g_getI C fi_X6_17 (by decide) ho hoK dX6_copy_30 ?_
  rw [show pI P o 1 = 0 from z6 o ho hoK]
  refine g_putI C fi_X6_17 rfl ha haK dX6_copy_33 ?_
  exact ret _ _ _ _ _ dX6_copy_36 (by decide) (by decide) (⟨_, rfl, fun b hb hk => by by_cases e : b = a <;> simp [va_up, e, z6 b hb hk]⟩)
theorem dX11_forgetMarks_0 : decode cX11_forgetMarks 0 = .ok (.iconst 0, 1) := by decide +kernel
theorem dX11_forgetMarks_1 : decode cX11_forgetMarks 1 = .ok (.istore_n 1, 1) := by decide +kernel
theorem dX11_forgetMarks_2 : decode cX11_forgetMarks 2 = .ok (.iload_n 1, 1) := by decide +kernel
theorem dX11_forgetMarks_3 : decode cX11_forgetMarks 3 = .ok (.iconst 4, 1) := by decide +kernel
theorem dX11_forgetMarks_4 : decode cX11_forgetMarks 4 = .ok (.if_icmp .ge 16, 3) := by decide +kernel
theorem dX11_forgetMarks_7 : decode cX11_forgetMarks 7 = .ok (.aload_n 0, 1) := by decide +kernel
theorem dX11_forgetMarks_8 : decode cX11_forgetMarks 8 = .ok (.getfield 24, 3) := by decide +kernel
theorem dX11_forgetMarks_11 : decode cX11_forgetMarks 11 = .ok (.iload_n 1, 1) := by decide +kernel
theorem dX11_forgetMarks_12 : decode cX11_forgetMarks 12 = .ok (.iconst 0, 1) := by decide +kernel
theorem dX11_forgetMarks_13 : decode cX11_forgetMarks 13 = .ok (.bastore, 1) := by decide +kernel
theorem dX11_forgetMarks_14 : decode cX11_forgetMarks 14 = .ok (.iinc 1 1, 3) := by decide +kernel
theorem dX11_forgetMarks_17 : decode cX11_forgetMarks 17 = .ok (.goto (-15), 3) := by decide +kernel
theorem dX11_forgetMarks_20 : decode cX11_forgetMarks 20 = .ok (.return_, 1) := by decide +kernel
set_option maxHeartbeats 4000000 in
set_option maxRecDepth 100000 in
theorem c_X11_forgetMarks {P : PP} {a : Nat} (ok : ∀ a, a ∈ pL P → xOk P a) (ha : a ∈ pL P) (haK : pK P a = 11) : CtrV yX11_forgetMarks cX11_forgetMarks 2 none ({ frames := 1, cells := 0, slots := 0, locals := 64 } : Room) 0 0 P [.ref a] (fun P2 => Kp [15] P P2) := by
  refine enV (lv := [(0, .ref a)]) (by decide) (Nat.le_of_ble_eq_true rfl) rfl (fun E D cy C Ci0 ret => ?_)
  refine g_iconst (v := 0) C dX11_forgetMarks_0 (by decide) ?_
  refine g_istore_n (lv' := [(1, .int 0), (0, .ref a)]) C dX11_forgetMarks_1 rfl (by decide) rfl ?_
  have lp207 : ∀ (n209 i202 : Nat), i202 + n209 = 4 → ∀ (I203 : Nat → Nat → Int32), (Kp [15] P (pWI P I203 (pJ P))) → G E ({ frames := 1, cells := 0, slots := 0, locals := 64 } : Room) D cy 2 (pWI P I203 (pJ P)) 0 0 2 [(1, .int (nI i202)), (0, .ref a)] [] := by
    intro n209
    induction n209 with
    | zero =>
      intro i202 hi204 I203 hv205
      have ei206 : (nI i202).toInt = (i202 : Int) := ti_nI (by omega)
      refine g_iload_n C dX11_forgetMarks_2 rfl 0 rfl ?_
      refine g_iconst (v := 4) C dX11_forgetMarks_3 (by decide) ?_
      refine b_icmp_ge C 20 dX11_forgetMarks_4 (by decide) (fun h210 => ?_) (fun h210 => ?_)
      · have h210 : 4 ≤ (nI i202).toInt := h210
        exact ret _ _ _ _ _ dX11_forgetMarks_20 (by decide) (by decide) (hv205)
      · have h210 : (nI i202).toInt < 4 := h210
        omega
    | succ n209 ih208 =>
      intro i202 hi204 I203 hv205
      have ei206 : (nI i202).toInt = (i202 : Int) := ti_nI (by omega)
      refine g_iload_n C dX11_forgetMarks_2 rfl 0 rfl ?_
      refine g_iconst (v := 4) C dX11_forgetMarks_3 (by decide) ?_
      refine b_icmp_ge C 20 dX11_forgetMarks_4 (by decide) (fun h211 => ?_) (fun h211 => ?_)
      · have h211 : 4 ≤ (nI i202).toInt := h211
        omega
      · have h211 : (nI i202).toInt < 4 := h211
        refine g_aload_n C dX11_forgetMarks_7 rfl 1 rfl ?_
        obtain ⟨b212, h213⟩ := xFd.at (ok a ha) haK 3 15 4 rfl
        refine g_getR C fi_X11_24 rfl h213.1 ha haK dX11_forgetMarks_8 ?_
        refine g_iload_n C dX11_forgetMarks_11 rfl 0 rfl ?_
        refine g_iconst (v := 0) C dX11_forgetMarks_12 (by decide) ?_
        refine g_zast (j := i202) C h213.2.1 h213.2.2.1 (IX.inn h213.2.2.2 (by omega) (by decide)) (Or.inl rfl) dX11_forgetMarks_13 ?_
        have k214 := hv205.set (k := i202) (v := 0) (by rw [show pK P b212 = 15 from h213.2.2.1]; decide)
        refine g_iinc (v := (nI (i202 + 1))) (lv' := [(1, .int (nI (i202 + 1))), (0, .ref a)]) C dX11_forgetMarks_14 0 rfl (nI_1 _) (by decide) rfl ?_
        refine g_goto C 2 dX11_forgetMarks_17 (by decide) ?_
        exact ih208 (i202 + 1) (by omega) _ (k214)
  exact lp207 4 0 rfl _ ((Kp.rf (ks := [15]) (P := P)))
theorem dX11_book_0 : decode cX11_book 0 = .ok (.iload_n 1, 1) := by decide +kernel
theorem dX11_book_1 : decode cX11_book 1 = .ok (.invokestatic 84, 3) := by decide +kernel
theorem dX11_book_4 : decode cX11_book 4 = .ok (.ifCond .eq 14, 3) := by decide +kernel
theorem dX11_book_7 : decode cX11_book 7 = .ok (.iload_n 2, 1) := by decide +kernel
theorem dX11_book_8 : decode cX11_book 8 = .ok (.iconst 1, 1) := by decide +kernel
theorem dX11_book_9 : decode cX11_book 9 = .ok (.if_icmp .lt 9, 3) := by decide +kernel
theorem dX11_book_12 : decode cX11_book 12 = .ok (.iload_n 2, 1) := by decide +kernel
theorem dX11_book_13 : decode cX11_book 13 = .ok (.bipush 16, 2) := by decide +kernel
theorem dX11_book_15 : decode cX11_book 15 = .ok (.if_icmp .le 5, 3) := by decide +kernel
theorem dX11_book_18 : decode cX11_book 18 = .ok (.iconst 0, 1) := by decide +kernel
theorem dX11_book_19 : decode cX11_book 19 = .ok (.ireturn, 1) := by decide +kernel
theorem dX11_book_20 : decode cX11_book 20 = .ok (.aload_n 0, 1) := by decide +kernel
theorem dX11_book_21 : decode cX11_book 21 = .ok (.getfield 11, 3) := by decide +kernel
theorem dX11_book_24 : decode cX11_book 24 = .ok (.iload_n 1, 1) := by decide +kernel
theorem dX11_book_25 : decode cX11_book 25 = .ok (.aaload, 1) := by decide +kernel
theorem dX11_book_26 : decode cX11_book 26 = .ok (.iload_n 2, 1) := by decide +kernel
theorem dX11_book_27 : decode cX11_book 27 = .ok (.invokevirtual 88, 3) := by decide +kernel
theorem dX11_book_30 : decode cX11_book 30 = .ok (.iconst 0, 1) := by decide +kernel
theorem dX11_book_31 : decode cX11_book 31 = .ok (.istore_n 3, 1) := by decide +kernel
theorem dX11_book_32 : decode cX11_book 32 = .ok (.iload_n 3, 1) := by decide +kernel
theorem dX11_book_33 : decode cX11_book 33 = .ok (.iconst 4, 1) := by decide +kernel
theorem dX11_book_34 : decode cX11_book 34 = .ok (.if_icmp .ge 19, 3) := by decide +kernel
theorem dX11_book_37 : decode cX11_book 37 = .ok (.aload_n 0, 1) := by decide +kernel
theorem dX11_book_38 : decode cX11_book 38 = .ok (.getfield 17, 3) := by decide +kernel
theorem dX11_book_41 : decode cX11_book 41 = .ok (.iload_n 3, 1) := by decide +kernel
theorem dX11_book_42 : decode cX11_book 42 = .ok (.aaload, 1) := by decide +kernel
theorem dX11_book_43 : decode cX11_book 43 = .ok (.iload_n 1, 1) := by decide +kernel
theorem dX11_book_44 : decode cX11_book 44 = .ok (.invokevirtual 91, 3) := by decide +kernel
theorem dX11_book_47 : decode cX11_book 47 = .ok (.iinc 3 1, 3) := by decide +kernel
theorem dX11_book_50 : decode cX11_book 50 = .ok (.goto (-18), 3) := by decide +kernel
theorem dX11_book_53 : decode cX11_book 53 = .ok (.aload_n 0, 1) := by decide +kernel
theorem dX11_book_54 : decode cX11_book 54 = .ok (.invokevirtual 94, 3) := by decide +kernel
theorem dX11_book_57 : decode cX11_book 57 = .ok (.iconst 1, 1) := by decide +kernel
theorem dX11_book_58 : decode cX11_book 58 = .ok (.ireturn, 1) := by decide +kernel
set_option maxHeartbeats 4000000 in
set_option maxRecDepth 100000 in
theorem c_X11_book {P : PP} {x : Nat} {b : Int32} {n : Int32} (F : FC P x) : CtrI yX11_book cX11_book 4 (some Jvm.ClassFile.FieldType.boolean) ({ frames := 3, cells := 0, slots := 0, locals := 192 } : Room) 0 0 P [.ref x, .int b, .int n] (fun r _ => (r = 1 ∧ (0 ≤ b.toInt ∧ b.toInt < 2 ∧ 1 ≤ n.toInt ∧ n.toInt ≤ 16)) ∨ (r = 0 ∧ ¬ (0 ≤ b.toInt ∧ b.toInt < 2 ∧ 1 ≤ n.toInt ∧ n.toInt ≤ 16))) := by
  obtain ⟨hx, hxK, ok, z1, z6, z9, zt, zh, zm⟩ := F
  refine enI (lv := [(0, .ref x), (1, .int b), (2, .int n)]) (by decide) (Nat.le_of_ble_eq_true rfl) rfl (fun E D cy C Ci0 ret => ?_)
  refine g_iload_n C dX11_book_0 rfl 1 rfl ?_
  refine g_callSI (b := 0) (ci := 0) (rest := []) C ms_X11_84 [.int b] (c_X11_isBook) rfl rfl (by decide) (Nat.le_of_ble_eq_true rfl) (by decide) dX11_book_1 (fun r215 Q216 h217 => ?_)
  obtain ⟨rfl, h217⟩ := h217
  rcases h217 with ⟨rfl, h217⟩ | ⟨rfl, h217⟩
  · refine b_if_eq C 18 dX11_book_4 (by decide) (fun h => absurd h (by decide)) (fun _ => ?_)
    refine g_iload_n C dX11_book_7 rfl 2 rfl ?_
    refine g_iconst (v := 1) C dX11_book_8 (by decide) ?_
    refine b_icmp_lt C 18 dX11_book_9 (by decide) (fun h218 => ?_) (fun h218 => ?_)
    · have h218 : n.toInt < 1 := h218
      refine g_iconst (v := 0) C dX11_book_18 (by decide) ?_
      exact ret _ _ _ _ _ _ dX11_book_19 rfl (by decide) (by decide) (Or.inr ⟨rfl, by first | omega | (intro h9; omega)⟩)
    · have h218 : 1 ≤ n.toInt := h218
      refine g_iload_n C dX11_book_12 rfl 2 rfl ?_
      refine g_bipush (v := 16) C dX11_book_13 (by decide) ?_
      refine b_icmp_le C 20 dX11_book_15 (by decide) (fun h219 => ?_) (fun h219 => ?_)
      · have h219 : n.toInt ≤ 16 := h219
        refine g_aload_n C dX11_book_20 rfl 0 rfl ?_
        obtain ⟨b220, h221⟩ := xFd.at (ok x hx) hxK 0 17 2 rfl
        refine g_getR C fi_X11_11 rfl h221.1 hx hxK dX11_book_21 ?_
        refine g_iload_n C dX11_book_24 rfl 1 rfl ?_
        obtain ⟨b222, h223⟩ := xAr.at (ok b220 h221.2.1) h221.2.2.1 (by decide) (b.toInt.toNat) (lt_n h221.2.2.2 (by omega))
        refine g_aldR C h221.2.1 h221.2.2.1 (by decide) (IX.intn (i := b) h221.2.2.2 (by omega) (by omega)) h223.1 dX11_book_25 ?_
        refine g_iload_n C dX11_book_26 rfl 2 rfl ?_
        refine g_callVV (rest := []) C mv_X11_88 [.int n] (c_X1_tell ok h223.2.1 h223.2.2) h223.2.1 h223.2.2 rfl rfl (by decide) (Nat.le_of_ble_eq_true rfl) (by decide) dX11_book_27 (fun Q225 h226 => ?_)
        obtain ⟨I227, rfl, h226⟩ := h226
        refine g_iconst (v := 0) C dX11_book_30 (by decide) ?_
        refine g_istore_n (lv' := [(3, .int 0), (0, .ref x), (1, .int b), (2, .int n)]) C dX11_book_31 rfl (by decide) rfl ?_
        have lp233 : ∀ (n235 i228 : Nat), i228 + n235 = 4 → ∀ (I229 : Nat → Nat → Int32), (∀ b, b ∈ pL P → pK P b = 6 → I229 b 1 = 0) → G E ({ frames := 3, cells := 0, slots := 0, locals := 192 } : Room) D cy 4 (pWI P I229 (pJ P)) 0 0 32 [(3, .int (nI i228)), (0, .ref x), (1, .int b), (2, .int n)] [] := by
          intro n235
          induction n235 with
          | zero =>
            intro i228 hi230 I229 hv231
            have ei232 : (nI i228).toInt = (i228 : Int) := ti_nI (by omega)
            refine g_iload_n C dX11_book_32 rfl 0 rfl ?_
            refine g_iconst (v := 4) C dX11_book_33 (by decide) ?_
            refine b_icmp_ge C 53 dX11_book_34 (by decide) (fun h236 => ?_) (fun h236 => ?_)
            · have h236 : 4 ≤ (nI i228).toInt := h236
              refine g_aload_n C dX11_book_53 rfl 1 rfl ?_
              refine g_callVV (rest := []) C mv_X11_94 [] (c_X11_forgetMarks ok hx hxK) hx hxK rfl rfl (by decide) (Nat.le_of_ble_eq_true rfl) (by decide) dX11_book_54 (fun Q238 h239 => ?_)
              obtain ⟨I240, rfl, -⟩ := h239
              refine g_iconst (v := 1) C dX11_book_57 (by decide) ?_
              exact ret _ _ _ _ _ _ dX11_book_58 rfl (by decide) (by decide) (Or.inl ⟨rfl, by first | omega | (intro h9; omega)⟩)
            · have h236 : (nI i228).toInt < 4 := h236
              omega
          | succ n235 ih234 =>
            intro i228 hi230 I229 hv231
            have ei232 : (nI i228).toInt = (i228 : Int) := ti_nI (by omega)
            refine g_iload_n C dX11_book_32 rfl 0 rfl ?_
            refine g_iconst (v := 4) C dX11_book_33 (by decide) ?_
            refine b_icmp_ge C 53 dX11_book_34 (by decide) (fun h241 => ?_) (fun h241 => ?_)
            · have h241 : 4 ≤ (nI i228).toInt := h241
              omega
            · have h241 : (nI i228).toInt < 4 := h241
              refine g_aload_n C dX11_book_37 rfl 1 rfl ?_
              obtain ⟨b242, h243⟩ := xFd.at (ok x hx) hxK 1 19 4 rfl
              refine g_getR C fi_X11_17 rfl h243.1 hx hxK dX11_book_38 ?_
              refine g_iload_n C dX11_book_41 rfl 0 rfl ?_
              obtain ⟨b244, h245⟩ := xAr.at (ok b242 h243.2.1) h243.2.2.1 (by decide) i228 (lt_n h243.2.2.2 (by omega))
              refine g_aldR C h243.2.1 h243.2.2.1 (by decide) (IX.inn h243.2.2.2 (by omega) (by decide)) h245.1 dX11_book_42 ?_
              refine g_iload_n C dX11_book_43 rfl 2 rfl ?_
              refine g_callVV (rest := []) C mv_X11_91 [.int b] (c_X6_dropTouching ok hv231 h245.2.1 h245.2.2) h245.2.1 h245.2.2 rfl rfl (by decide) (Nat.le_of_ble_eq_true rfl) (by decide) dX11_book_44 (fun Q247 h248 => ?_)
              obtain ⟨I249, rfl, h248⟩ := h248
              refine g_iinc (v := (nI (i228 + 1))) (lv' := [(3, .int (nI (i228 + 1))), (0, .ref x), (1, .int b), (2, .int n)]) C dX11_book_47 0 rfl (nI_1 _) (by decide) rfl ?_
              refine g_goto C 32 dX11_book_50 (by decide) ?_
              exact ih234 (i228 + 1) (by omega) _ (h248)
        exact lp233 4 0 rfl _ (fun b hb hk => by rw [h226 b (by rw [hk]; decide)]; exact z6 b hb hk)
      · have h219 : 16 < n.toInt := h219
        refine g_iconst (v := 0) C dX11_book_18 (by decide) ?_
        exact ret _ _ _ _ _ _ dX11_book_19 rfl (by decide) (by decide) (Or.inr ⟨rfl, by first | omega | (intro h9; omega)⟩)
  · refine b_if_eq C 18 dX11_book_4 (by decide) (fun _ => ?_) (fun h => absurd h (by decide))
    refine g_iconst (v := 0) C dX11_book_18 (by decide) ?_
    exact ret _ _ _ _ _ _ dX11_book_19 rfl (by decide) (by decide) (Or.inr ⟨rfl, by first | omega | (intro h9; omega)⟩)
theorem dX11_quarter_0 : decode cX11_quarter 0 = .ok (.iload_n 1, 1) := by decide +kernel
theorem dX11_quarter_1 : decode cX11_quarter 1 = .ok (.invokestatic 158, 3) := by decide +kernel
theorem dX11_quarter_4 : decode cX11_quarter 4 = .ok (.ifCond .eq 24, 3) := by decide +kernel
theorem dX11_quarter_7 : decode cX11_quarter 7 = .ok (.iload_n 2, 1) := by decide +kernel
theorem dX11_quarter_8 : decode cX11_quarter 8 = .ok (.ifCond .lt 20, 3) := by decide +kernel
theorem dX11_quarter_11 : decode cX11_quarter 11 = .ok (.iload_n 2, 1) := by decide +kernel
theorem dX11_quarter_12 : decode cX11_quarter 12 = .ok (.bipush 100, 2) := by decide +kernel
theorem dX11_quarter_14 : decode cX11_quarter 14 = .ok (.if_icmp .gt 14, 3) := by decide +kernel
theorem dX11_quarter_17 : decode cX11_quarter 17 = .ok (.iload_n 3, 1) := by decide +kernel
theorem dX11_quarter_18 : decode cX11_quarter 18 = .ok (.ifCond .lt 10, 3) := by decide +kernel
theorem dX11_quarter_21 : decode cX11_quarter 21 = .ok (.iload_n 3, 1) := by decide +kernel
theorem dX11_quarter_22 : decode cX11_quarter 22 = .ok (.sipush 999, 3) := by decide +kernel
theorem dX11_quarter_25 : decode cX11_quarter 25 = .ok (.if_icmp .le 5, 3) := by decide +kernel
theorem dX11_quarter_28 : decode cX11_quarter 28 = .ok (.iconst 0, 1) := by decide +kernel
theorem dX11_quarter_29 : decode cX11_quarter 29 = .ok (.ireturn, 1) := by decide +kernel
theorem dX11_quarter_30 : decode cX11_quarter 30 = .ok (.aload_n 0, 1) := by decide +kernel
theorem dX11_quarter_31 : decode cX11_quarter 31 = .ok (.getfield 28, 3) := by decide +kernel
theorem dX11_quarter_34 : decode cX11_quarter 34 = .ok (.iload_n 1, 1) := by decide +kernel
theorem dX11_quarter_35 : decode cX11_quarter 35 = .ok (.iload_n 2, 1) := by decide +kernel
theorem dX11_quarter_36 : decode cX11_quarter 36 = .ok (.iastore, 1) := by decide +kernel
theorem dX11_quarter_37 : decode cX11_quarter 37 = .ok (.aload_n 0, 1) := by decide +kernel
theorem dX11_quarter_38 : decode cX11_quarter 38 = .ok (.getfield 32, 3) := by decide +kernel
theorem dX11_quarter_41 : decode cX11_quarter 41 = .ok (.iload_n 1, 1) := by decide +kernel
theorem dX11_quarter_42 : decode cX11_quarter 42 = .ok (.iload_n 3, 1) := by decide +kernel
theorem dX11_quarter_43 : decode cX11_quarter 43 = .ok (.iastore, 1) := by decide +kernel
theorem dX11_quarter_44 : decode cX11_quarter 44 = .ok (.iconst 1, 1) := by decide +kernel
theorem dX11_quarter_45 : decode cX11_quarter 45 = .ok (.ireturn, 1) := by decide +kernel
set_option maxHeartbeats 4000000 in
set_option maxRecDepth 100000 in
theorem c_X11_quarter {P : PP} {x : Nat} {q : Int32} {b : Int32} {n : Int32} (F : FC P x) : CtrI yX11_quarter cX11_quarter 4 (some Jvm.ClassFile.FieldType.boolean) ({ frames := 3, cells := 0, slots := 0, locals := 192 } : Room) 0 0 P [.ref x, .int q, .int b, .int n] (fun r _ => (r = 1 ∧ (0 ≤ q.toInt ∧ q.toInt < 4 ∧ 0 ≤ b.toInt ∧ b.toInt ≤ 100 ∧ 0 ≤ n.toInt ∧ n.toInt ≤ 999)) ∨ (r = 0 ∧ ¬ (0 ≤ q.toInt ∧ q.toInt < 4 ∧ 0 ≤ b.toInt ∧ b.toInt ≤ 100 ∧ 0 ≤ n.toInt ∧ n.toInt ≤ 999))) := by
  obtain ⟨hx, hxK, ok, z1, z6, z9, zt, zh, zm⟩ := F
  refine enI (lv := [(0, .ref x), (1, .int q), (2, .int b), (3, .int n)]) (by decide) (Nat.le_of_ble_eq_true rfl) rfl (fun E D cy C Ci0 ret => ?_)
  refine g_iload_n C dX11_quarter_0 rfl 1 rfl ?_
  refine g_callSI (b := 0) (ci := 0) (rest := []) C ms_X11_158 [.int q] (c_X11_isQuarter) rfl rfl (by decide) (Nat.le_of_ble_eq_true rfl) (by decide) dX11_quarter_1 (fun r250 Q251 h252 => ?_)
  obtain ⟨rfl, h252⟩ := h252
  rcases h252 with ⟨rfl, h252⟩ | ⟨rfl, h252⟩
  · refine b_if_eq C 28 dX11_quarter_4 (by decide) (fun h => absurd h (by decide)) (fun _ => ?_)
    refine g_iload_n C dX11_quarter_7 rfl 2 rfl ?_
    refine b_if_lt C 28 dX11_quarter_8 (by decide) (fun h253 => ?_) (fun h253 => ?_)
    · have h253 : b.toInt < 0 := h253
      refine g_iconst (v := 0) C dX11_quarter_28 (by decide) ?_
      exact ret _ _ _ _ _ _ dX11_quarter_29 rfl (by decide) (by decide) (Or.inr ⟨rfl, by first | omega | (intro h9; omega)⟩)
    · have h253 : 0 ≤ b.toInt := h253
      refine g_iload_n C dX11_quarter_11 rfl 2 rfl ?_
      refine g_bipush (v := 100) C dX11_quarter_12 (by decide) ?_
      refine b_icmp_gt C 28 dX11_quarter_14 (by decide) (fun h254 => ?_) (fun h254 => ?_)
      · have h254 : 100 < b.toInt := h254
        refine g_iconst (v := 0) C dX11_quarter_28 (by decide) ?_
        exact ret _ _ _ _ _ _ dX11_quarter_29 rfl (by decide) (by decide) (Or.inr ⟨rfl, by first | omega | (intro h9; omega)⟩)
      · have h254 : b.toInt ≤ 100 := h254
        refine g_iload_n C dX11_quarter_17 rfl 3 rfl ?_
        refine b_if_lt C 28 dX11_quarter_18 (by decide) (fun h255 => ?_) (fun h255 => ?_)
        · have h255 : n.toInt < 0 := h255
          refine g_iconst (v := 0) C dX11_quarter_28 (by decide) ?_
          exact ret _ _ _ _ _ _ dX11_quarter_29 rfl (by decide) (by decide) (Or.inr ⟨rfl, by first | omega | (intro h9; omega)⟩)
        · have h255 : 0 ≤ n.toInt := h255
          refine g_iload_n C dX11_quarter_21 rfl 3 rfl ?_
          refine g_sipush (v := 999) C dX11_quarter_22 (by decide) ?_
          refine b_icmp_le C 30 dX11_quarter_25 (by decide) (fun h256 => ?_) (fun h256 => ?_)
          · have h256 : n.toInt ≤ 999 := h256
            refine g_aload_n C dX11_quarter_30 rfl 0 rfl ?_
            obtain ⟨b257, h258⟩ := xFd.at (ok x hx) hxK 4 13 4 rfl
            refine g_getR C fi_X11_28 rfl h258.1 hx hxK dX11_quarter_31 ?_
            refine g_iload_n C dX11_quarter_34 rfl 1 rfl ?_
            refine g_iload_n C dX11_quarter_35 rfl 2 rfl ?_
            refine g_iast (j := (q.toInt.toNat)) C h258.2.1 h258.2.2.1 (IX.intn (i := q) h258.2.2.2 (by omega) (by omega)) dX11_quarter_36 ?_
            refine g_aload_n C dX11_quarter_37 rfl 0 rfl ?_
            obtain ⟨b259, h260⟩ := xFd.at (ok x hx) hxK 5 13 4 rfl
            refine g_getR C fi_X11_32 rfl h260.1 hx hxK dX11_quarter_38 ?_
            refine g_iload_n C dX11_quarter_41 rfl 1 rfl ?_
            refine g_iload_n C dX11_quarter_42 rfl 3 rfl ?_
            refine g_iast (j := (q.toInt.toNat)) C h260.2.1 h260.2.2.1 (IX.intn (i := q) h260.2.2.2 (by omega) (by omega)) dX11_quarter_43 ?_
            refine g_iconst (v := 1) C dX11_quarter_44 (by decide) ?_
            exact ret _ _ _ _ _ _ dX11_quarter_45 rfl (by decide) (by decide) (Or.inl ⟨rfl, by first | omega | (intro h9; omega)⟩)
          · have h256 : 999 < n.toInt := h256
            refine g_iconst (v := 0) C dX11_quarter_28 (by decide) ?_
            exact ret _ _ _ _ _ _ dX11_quarter_29 rfl (by decide) (by decide) (Or.inr ⟨rfl, by first | omega | (intro h9; omega)⟩)
  · refine b_if_eq C 28 dX11_quarter_4 (by decide) (fun _ => ?_) (fun h => absurd h (by decide))
    refine g_iconst (v := 0) C dX11_quarter_28 (by decide) ?_
    exact ret _ _ _ _ _ _ dX11_quarter_29 rfl (by decide) (by decide) (Or.inr ⟨rfl, by first | omega | (intro h9; omega)⟩)
theorem dX11_draw_0 : decode cX11_draw 0 = .ok (.iconst (-1), 1) := by decide +kernel
theorem dX11_draw_1 : decode cX11_draw 1 = .ok (.istore_n 2, 1) := by decide +kernel
theorem dX11_draw_2 : decode cX11_draw 2 = .ok (.aload_n 0, 1) := by decide +kernel
theorem dX11_draw_3 : decode cX11_draw 3 = .ok (.iload_n 1, 1) := by decide +kernel
theorem dX11_draw_4 : decode cX11_draw 4 = .ok (.invokevirtual 97, 3) := by decide +kernel
theorem dX11_draw_7 : decode cX11_draw 7 = .ok (.ifCond .eq 52, 3) := by decide +kernel
theorem dX11_draw_59 : decode cX11_draw 59 = .ok (.aload_n 0, 1) := by decide +kernel
theorem dX11_draw_60 : decode cX11_draw 60 = .ok (.getfield 41, 3) := by decide +kernel
theorem dX11_draw_63 : decode cX11_draw 63 = .ok (.getfield 111, 3) := by decide +kernel
theorem dX11_draw_66 : decode cX11_draw 66 = .ok (.iconst 0, 1) := by decide +kernel
theorem dX11_draw_67 : decode cX11_draw 67 = .ok (.putfield 121, 3) := by decide +kernel
theorem dX11_draw_70 : decode cX11_draw 70 = .ok (.iload_n 2, 1) := by decide +kernel
theorem dX11_draw_71 : decode cX11_draw 71 = .ok (.ireturn, 1) := by decide +kernel
set_option maxHeartbeats 4000000 in
set_option maxRecDepth 100000 in
theorem c_X11_draw {P : PP} {x : Nat} {b : Int32} (F : FC P x) : CtrI yX11_draw cX11_draw 3 (some Jvm.ClassFile.FieldType.int) ({ frames := 4, cells := 0, slots := 0, locals := 256 } : Room) 0 0 P [.ref x, .int b] (fun r _ => r = -1) := by
  obtain ⟨hx, hxK, ok, z1, z6, z9, zt, zh, zm⟩ := F
  refine enI (lv := [(0, .ref x), (1, .int b)]) (by decide) (Nat.le_of_ble_eq_true rfl) rfl (fun E D cy C Ci0 ret => ?_)
  refine g_iconst (v := (-1)) C dX11_draw_0 (by decide) ?_
  refine g_istore_n (lv' := [(2, .int (-1)), (0, .ref x), (1, .int b)]) C dX11_draw_1 rfl (by decide) rfl ?_
  refine g_aload_n C dX11_draw_2 rfl 1 rfl ?_
  refine g_iload_n C dX11_draw_3 rfl 2 rfl ?_
  refine g_callVI (rest := []) C mv_X11_97 [.int b] (c_X11_isTold ⟨hx, hxK, ok, z1, z6, z9, zt, zh, zm⟩) hx hxK rfl rfl (by decide) (Nat.le_of_ble_eq_true rfl) (by decide) dX11_draw_4 (fun r261 Q262 h263 => ?_)
  obtain ⟨rfl, rfl⟩ := h263
  refine b_if_eq C 59 dX11_draw_7 (by decide) (fun _ => ?_) (fun h => absurd h (by decide))
  refine g_aload_n C dX11_draw_59 rfl 1 rfl ?_
  obtain ⟨b264, h265⟩ := xFd.at (ok x hx) hxK 7 4 0 rfl
  refine g_getR C fi_X11_41 rfl h265.1 hx hxK dX11_draw_60 ?_
  obtain ⟨b266, h267⟩ := xFd.at (ok b264 h265.2.1) h265.2.2.1 0 9 0 rfl
  refine g_getR C fi_X11_111 rfl h267.1 h265.2.1 h265.2.2.1 dX11_draw_63 ?_
  refine g_iconst (v := 0) C dX11_draw_66 (by decide) ?_
  refine g_putI C fi_X11_121 rfl h267.2.1 h267.2.2.1 dX11_draw_67 ?_
  refine g_iload_n C dX11_draw_70 rfl 0 rfl ?_
  exact ret _ _ _ _ _ _ dX11_draw_71 rfl (by decide) (by decide) (rfl)
theorem dX11_swap_0 : decode cX11_swap 0 = .ok (.iload_n 1, 1) := by decide +kernel
theorem dX11_swap_1 : decode cX11_swap 1 = .ok (.invokestatic 158, 3) := by decide +kernel
theorem dX11_swap_4 : decode cX11_swap 4 = .ok (.ifCond .eq 25, 3) := by decide +kernel
theorem dX11_swap_7 : decode cX11_swap 7 = .ok (.iload_n 2, 1) := by decide +kernel
theorem dX11_swap_8 : decode cX11_swap 8 = .ok (.invokestatic 158, 3) := by decide +kernel
theorem dX11_swap_11 : decode cX11_swap 11 = .ok (.ifCond .eq 18, 3) := by decide +kernel
theorem dX11_swap_14 : decode cX11_swap 14 = .ok (.iload_n 1, 1) := by decide +kernel
theorem dX11_swap_15 : decode cX11_swap 15 = .ok (.iload_n 2, 1) := by decide +kernel
theorem dX11_swap_16 : decode cX11_swap 16 = .ok (.if_icmp .eq 13, 3) := by decide +kernel
theorem dX11_swap_19 : decode cX11_swap 19 = .ok (.iload_n 3, 1) := by decide +kernel
theorem dX11_swap_20 : decode cX11_swap 20 = .ok (.ifCond .lt 9, 3) := by decide +kernel
theorem dX11_swap_23 : decode cX11_swap 23 = .ok (.iload_n 3, 1) := by decide +kernel
theorem dX11_swap_24 : decode cX11_swap 24 = .ok (.bipush 40, 2) := by decide +kernel
theorem dX11_swap_26 : decode cX11_swap 26 = .ok (.if_icmp .le 5, 3) := by decide +kernel
theorem dX11_swap_29 : decode cX11_swap 29 = .ok (.iconst (-1), 1) := by decide +kernel
theorem dX11_swap_30 : decode cX11_swap 30 = .ok (.ireturn, 1) := by decide +kernel
theorem dX11_swap_31 : decode cX11_swap 31 = .ok (.aload_n 0, 1) := by decide +kernel
theorem dX11_swap_32 : decode cX11_swap 32 = .ok (.getfield 17, 3) := by decide +kernel
theorem dX11_swap_35 : decode cX11_swap 35 = .ok (.iload_n 1, 1) := by decide +kernel
theorem dX11_swap_36 : decode cX11_swap 36 = .ok (.aaload, 1) := by decide +kernel
theorem dX11_swap_37 : decode cX11_swap 37 = .ok (.astore 4, 2) := by decide +kernel
theorem dX11_swap_39 : decode cX11_swap 39 = .ok (.aload_n 0, 1) := by decide +kernel
theorem dX11_swap_40 : decode cX11_swap 40 = .ok (.getfield 17, 3) := by decide +kernel
theorem dX11_swap_43 : decode cX11_swap 43 = .ok (.iload_n 2, 1) := by decide +kernel
theorem dX11_swap_44 : decode cX11_swap 44 = .ok (.aaload, 1) := by decide +kernel
theorem dX11_swap_45 : decode cX11_swap 45 = .ok (.astore 5, 2) := by decide +kernel
theorem dX11_swap_47 : decode cX11_swap 47 = .ok (.iconst 0, 1) := by decide +kernel
theorem dX11_swap_48 : decode cX11_swap 48 = .ok (.istore 6, 2) := by decide +kernel
theorem dX11_swap_50 : decode cX11_swap 50 = .ok (.iconst 0, 1) := by decide +kernel
theorem dX11_swap_51 : decode cX11_swap 51 = .ok (.istore 7, 2) := by decide +kernel
theorem dX11_swap_53 : decode cX11_swap 53 = .ok (.iload 7, 2) := by decide +kernel
theorem dX11_swap_55 : decode cX11_swap 55 = .ok (.aload 4, 2) := by decide +kernel
theorem dX11_swap_57 : decode cX11_swap 57 = .ok (.getfield 336, 3) := by decide +kernel
theorem dX11_swap_60 : decode cX11_swap 60 = .ok (.if_icmp .ge 53, 3) := by decide +kernel
theorem dX11_swap_113 : decode cX11_swap 113 = .ok (.iload 6, 2) := by decide +kernel
theorem dX11_swap_115 : decode cX11_swap 115 = .ok (.ireturn, 1) := by decide +kernel
set_option maxHeartbeats 4000000 in
set_option maxRecDepth 100000 in
theorem c_X11_swap {P : PP} {x : Nat} {f : Int32} {t : Int32} {k : Int32} (F : FC P x) : CtrI yX11_swap cX11_swap 9 (some Jvm.ClassFile.FieldType.int) ({ frames := 3, cells := 0, slots := 0, locals := 192 } : Room) 0 0 P [.ref x, .int f, .int t, .int k] (fun r _ => (r = 0 ∧ (0 ≤ f.toInt ∧ f.toInt < 4 ∧ 0 ≤ t.toInt ∧ t.toInt < 4 ∧ f ≠ t ∧ 0 ≤ k.toInt ∧ k.toInt ≤ 40)) ∨ (r = -1 ∧ ¬ (0 ≤ f.toInt ∧ f.toInt < 4 ∧ 0 ≤ t.toInt ∧ t.toInt < 4 ∧ f ≠ t ∧ 0 ≤ k.toInt ∧ k.toInt ≤ 40))) := by
  obtain ⟨hx, hxK, ok, z1, z6, z9, zt, zh, zm⟩ := F
  refine enI (lv := [(0, .ref x), (1, .int f), (2, .int t), (3, .int k)]) (by decide) (Nat.le_of_ble_eq_true rfl) rfl (fun E D cy C Ci0 ret => ?_)
  refine g_iload_n C dX11_swap_0 rfl 1 rfl ?_
  refine g_callSI (b := 0) (ci := 0) (rest := []) C ms_X11_158 [.int f] (c_X11_isQuarter) rfl rfl (by decide) (Nat.le_of_ble_eq_true rfl) (by decide) dX11_swap_1 (fun r268 Q269 h270 => ?_)
  obtain ⟨rfl, h270⟩ := h270
  rcases h270 with ⟨rfl, h270⟩ | ⟨rfl, h270⟩
  · refine b_if_eq C 29 dX11_swap_4 (by decide) (fun h => absurd h (by decide)) (fun _ => ?_)
    refine g_iload_n C dX11_swap_7 rfl 2 rfl ?_
    refine g_callSI (b := 0) (ci := 0) (rest := []) C ms_X11_158 [.int t] (c_X11_isQuarter) rfl rfl (by decide) (Nat.le_of_ble_eq_true rfl) (by decide) dX11_swap_8 (fun r271 Q272 h273 => ?_)
    obtain ⟨rfl, h273⟩ := h273
    rcases h273 with ⟨rfl, h273⟩ | ⟨rfl, h273⟩
    · refine b_if_eq C 29 dX11_swap_11 (by decide) (fun h => absurd h (by decide)) (fun _ => ?_)
      refine g_iload_n C dX11_swap_14 rfl 1 rfl ?_
      refine g_iload_n C dX11_swap_15 rfl 2 rfl ?_
      refine b_icmp_eq C 29 dX11_swap_16 (by decide) (fun h274 => ?_) (fun h274 => ?_)
      · have h274 : f = t := h274
        refine g_iconst (v := (-1)) C dX11_swap_29 (by decide) ?_
        exact ret _ _ _ _ _ _ dX11_swap_30 rfl (by decide) (by decide) (Or.inr ⟨rfl, fun h9 => by first | omega | (obtain ⟨_, _, _, _, h8, _, _⟩ := h9; exact h8 (by assumption))⟩)
      · have h274 : ¬ f = t := h274
        refine g_iload_n C dX11_swap_19 rfl 3 rfl ?_
        refine b_if_lt C 29 dX11_swap_20 (by decide) (fun h275 => ?_) (fun h275 => ?_)
        · have h275 : k.toInt < 0 := h275
          refine g_iconst (v := (-1)) C dX11_swap_29 (by decide) ?_
          exact ret _ _ _ _ _ _ dX11_swap_30 rfl (by decide) (by decide) (Or.inr ⟨rfl, fun h9 => by first | omega | (obtain ⟨_, _, _, _, h8, _, _⟩ := h9; exact h8 (by assumption))⟩)
        · have h275 : 0 ≤ k.toInt := h275
          refine g_iload_n C dX11_swap_23 rfl 3 rfl ?_
          refine g_bipush (v := 40) C dX11_swap_24 (by decide) ?_
          refine b_icmp_le C 31 dX11_swap_26 (by decide) (fun h276 => ?_) (fun h276 => ?_)
          · have h276 : k.toInt ≤ 40 := h276
            refine g_aload_n C dX11_swap_31 rfl 0 rfl ?_
            obtain ⟨b277, h278⟩ := xFd.at (ok x hx) hxK 1 19 4 rfl
            refine g_getR C fi_X11_17 rfl h278.1 hx hxK dX11_swap_32 ?_
            refine g_iload_n C dX11_swap_35 rfl 1 rfl ?_
            obtain ⟨b279, h280⟩ := xAr.at (ok b277 h278.2.1) h278.2.2.1 (by decide) (f.toInt.toNat) (lt_n h278.2.2.2 (by omega))
            refine g_aldR C h278.2.1 h278.2.2.1 (by decide) (IX.intn (i := f) h278.2.2.2 (by omega) (by omega)) h280.1 dX11_swap_36 ?_
            refine g_astore (lv' := [(4, .ref b279), (0, .ref x), (1, .int f), (2, .int t), (3, .int k)]) C dX11_swap_37 (by decide) rfl ?_
            refine g_aload_n C dX11_swap_39 rfl 1 rfl ?_
            refine g_getR C fi_X11_17 rfl (h278.1) hx hxK dX11_swap_40 ?_
            refine g_iload_n C dX11_swap_43 rfl 3 rfl ?_
            obtain ⟨b281, h282⟩ := xAr.at (ok b277 h278.2.1) h278.2.2.1 (by decide) (t.toInt.toNat) (lt_n h278.2.2.2 (by omega))
            refine g_aldR C h278.2.1 h278.2.2.1 (by decide) (IX.intn (i := t) h278.2.2.2 (by omega) (by omega)) h282.1 dX11_swap_44 ?_
            refine g_astore (lv' := [(5, .ref b281), (4, .ref b279), (0, .ref x), (1, .int f), (2, .int t), (3, .int k)]) C dX11_swap_45 (by decide) rfl ?_
            refine g_iconst (v := 0) C dX11_swap_47 (by decide) ?_
            refine g_istore (lv' := [(6, .int 0), (5, .ref b281), (4, .ref b279), (0, .ref x), (1, .int f), (2, .int t), (3, .int k)]) C dX11_swap_48 (by decide) rfl ?_
            refine g_iconst (v := 0) C dX11_swap_50 (by decide) ?_
            refine g_istore (lv' := [(7, .int 0), (6, .int 0), (5, .ref b281), (4, .ref b279), (0, .ref x), (1, .int f), (2, .int t), (3, .int k)]) C dX11_swap_51 (by decide) rfl ?_
            refine g_iload C dX11_swap_53 0 rfl ?_
            refine g_aload C dX11_swap_55 3 rfl ?_
            refine g_getI C fi_X11_336 (by decide) h280.2.1 h280.2.2 dX11_swap_57 ?_
            rw [show pI P b279 1 = 0 from z6 b279 h280.2.1 h280.2.2]
            refine b_icmp_ge C 113 dX11_swap_60 (by decide) (fun _ => ?_) (fun h => absurd h (by decide))
            refine g_iload C dX11_swap_113 1 rfl ?_
            exact ret _ _ _ _ _ _ dX11_swap_115 rfl (by decide) (by decide) (Or.inl ⟨rfl, by refine ⟨?_, ?_, ?_, ?_, ?_, ?_, ?_⟩ <;> first | assumption | omega⟩)
          · have h276 : 40 < k.toInt := h276
            refine g_iconst (v := (-1)) C dX11_swap_29 (by decide) ?_
            exact ret _ _ _ _ _ _ dX11_swap_30 rfl (by decide) (by decide) (Or.inr ⟨rfl, fun h9 => by first | omega | (obtain ⟨_, _, _, _, h8, _, _⟩ := h9; exact h8 (by assumption))⟩)
    · refine b_if_eq C 29 dX11_swap_11 (by decide) (fun _ => ?_) (fun h => absurd h (by decide))
      refine g_iconst (v := (-1)) C dX11_swap_29 (by decide) ?_
      exact ret _ _ _ _ _ _ dX11_swap_30 rfl (by decide) (by decide) (Or.inr ⟨rfl, fun h9 => by first | omega | (obtain ⟨_, _, _, _, h8, _, _⟩ := h9; exact h8 (by assumption))⟩)
  · refine b_if_eq C 29 dX11_swap_4 (by decide) (fun _ => ?_) (fun h => absurd h (by decide))
    refine g_iconst (v := (-1)) C dX11_swap_29 (by decide) ?_
    exact ret _ _ _ _ _ _ dX11_swap_30 rfl (by decide) (by decide) (Or.inr ⟨rfl, fun h9 => by first | omega | (obtain ⟨_, _, _, _, h8, _, _⟩ := h9; exact h8 (by assumption))⟩)
theorem dX1_all_0 : decode cX1_all 0 = .ok (.aload_n 0, 1) := by decide +kernel
theorem dX1_all_1 : decode cX1_all 1 = .ok (.getfield 29, 3) := by decide +kernel
theorem dX1_all_4 : decode cX1_all 4 = .ok (.ifCond .eq 18, 3) := by decide +kernel
theorem dX1_all_22 : decode cX1_all 22 = .ok (.iconst 0, 1) := by decide +kernel
theorem dX1_all_23 : decode cX1_all 23 = .ok (.ireturn, 1) := by decide +kernel
set_option maxHeartbeats 4000000 in
set_option maxRecDepth 100000 in
theorem c_X1_all {P : PP} {a : Nat} (ha : a ∈ pL P) (haK : pK P a = 1) (z : pI P a 4 = 0) : CtrI yX1_all cX1_all 1 (some Jvm.ClassFile.FieldType.int) ({ frames := 1, cells := 0, slots := 0, locals := 64 } : Room) 0 0 P [.ref a] (fun r P2 => P = P2 ∧ r = 0) := by
  refine enI (lv := [(0, .ref a)]) (by decide) (Nat.le_of_ble_eq_true rfl) rfl (fun E D cy C Ci0 ret => ?_)
  refine g_aload_n C dX1_all_0 rfl 0 rfl ?_
  refine g_getI C fi_X1_29 (by decide) ha haK dX1_all_1 ?_
  rw [show pI P a 4 = 0 from z]
  refine b_if_eq C 22 dX1_all_4 (by decide) (fun _ => ?_) (fun h => absurd h (by decide))
  refine g_iconst (v := 0) C dX1_all_22 (by decide) ?_
  exact ret _ _ _ _ _ _ dX1_all_23 rfl (by decide) (by decide) (⟨rfl, rfl⟩)
theorem dX11_allHouses_0 : decode cX11_allHouses 0 = .ok (.iconst 0, 1) := by decide +kernel
theorem dX11_allHouses_1 : decode cX11_allHouses 1 = .ok (.istore_n 1, 1) := by decide +kernel
theorem dX11_allHouses_2 : decode cX11_allHouses 2 = .ok (.iconst 0, 1) := by decide +kernel
theorem dX11_allHouses_3 : decode cX11_allHouses 3 = .ok (.istore_n 2, 1) := by decide +kernel
theorem dX11_allHouses_4 : decode cX11_allHouses 4 = .ok (.iload_n 2, 1) := by decide +kernel
theorem dX11_allHouses_5 : decode cX11_allHouses 5 = .ok (.iconst 4, 1) := by decide +kernel
theorem dX11_allHouses_6 : decode cX11_allHouses 6 = .ok (.if_icmp .ge 18, 3) := by decide +kernel
theorem dX11_allHouses_9 : decode cX11_allHouses 9 = .ok (.iload_n 1, 1) := by decide +kernel
theorem dX11_allHouses_10 : decode cX11_allHouses 10 = .ok (.aload_n 0, 1) := by decide +kernel
theorem dX11_allHouses_11 : decode cX11_allHouses 11 = .ok (.getfield 32, 3) := by decide +kernel
theorem dX11_allHouses_14 : decode cX11_allHouses 14 = .ok (.iload_n 2, 1) := by decide +kernel
theorem dX11_allHouses_15 : decode cX11_allHouses 15 = .ok (.iaload, 1) := by decide +kernel
theorem dX11_allHouses_16 : decode cX11_allHouses 16 = .ok (.iadd, 1) := by decide +kernel
theorem dX11_allHouses_17 : decode cX11_allHouses 17 = .ok (.istore_n 1, 1) := by decide +kernel
theorem dX11_allHouses_18 : decode cX11_allHouses 18 = .ok (.iinc 2 1, 3) := by decide +kernel
theorem dX11_allHouses_21 : decode cX11_allHouses 21 = .ok (.goto (-17), 3) := by decide +kernel
theorem dX11_allHouses_24 : decode cX11_allHouses 24 = .ok (.iload_n 1, 1) := by decide +kernel
theorem dX11_allHouses_25 : decode cX11_allHouses 25 = .ok (.ireturn, 1) := by decide +kernel
set_option maxHeartbeats 4000000 in
set_option maxRecDepth 100000 in
theorem c_X11_allHouses {P : PP} {x : Nat} (F : FC P x) : CtrI yX11_allHouses cX11_allHouses 3 (some Jvm.ClassFile.FieldType.int) ({ frames := 1, cells := 0, slots := 0, locals := 64 } : Room) 0 0 P [.ref x] (fun r P2 => r = 4) := by
  obtain ⟨hx, hxK, ok, z1, z6, z9, zt, zh, zm⟩ := F
  refine enI (lv := [(0, .ref x)]) (by decide) (Nat.le_of_ble_eq_true rfl) rfl (fun E D cy C Ci0 ret => ?_)
  refine g_iconst (v := 0) C dX11_allHouses_0 (by decide) ?_
  refine g_istore_n (lv' := [(1, .int 0), (0, .ref x)]) C dX11_allHouses_1 rfl (by decide) rfl ?_
  refine g_iconst (v := 0) C dX11_allHouses_2 (by decide) ?_
  refine g_istore_n (lv' := [(2, .int 0), (1, .int 0), (0, .ref x)]) C dX11_allHouses_3 rfl (by decide) rfl ?_
  have lp288 : ∀ (n290 i283 : Nat), i283 + n290 = 4 → ∀ (I284 : Nat → Nat → Int32), (I284 = pI P) → G E ({ frames := 1, cells := 0, slots := 0, locals := 64 } : Room) D cy 3 (pWI P I284 (pJ P)) 0 0 4 [(2, .int (nI i283)), (1, .int (nI i283)), (0, .ref x)] [] := by
    intro n290
    induction n290 with
    | zero =>
      intro i283 hi285 I284 hv286
      have ei287 : (nI i283).toInt = (i283 : Int) := ti_nI (by omega)
      refine g_iload_n C dX11_allHouses_4 rfl 0 rfl ?_
      refine g_iconst (v := 4) C dX11_allHouses_5 (by decide) ?_
      refine b_icmp_ge C 24 dX11_allHouses_6 (by decide) (fun h291 => ?_) (fun h291 => ?_)
      · have h291 : 4 ≤ (nI i283).toInt := h291
        refine g_iload_n C dX11_allHouses_24 rfl 1 rfl ?_
        exact ret _ _ _ _ _ _ dX11_allHouses_25 rfl (by decide) (by decide) (by rw [show i283 = 4 by omega]; rfl)
      · have h291 : (nI i283).toInt < 4 := h291
        omega
    | succ n290 ih289 =>
      intro i283 hi285 I284 hv286
      have ei287 : (nI i283).toInt = (i283 : Int) := ti_nI (by omega)
      refine g_iload_n C dX11_allHouses_4 rfl 0 rfl ?_
      refine g_iconst (v := 4) C dX11_allHouses_5 (by decide) ?_
      refine b_icmp_ge C 24 dX11_allHouses_6 (by decide) (fun h292 => ?_) (fun h292 => ?_)
      · have h292 : 4 ≤ (nI i283).toInt := h292
        omega
      · have h292 : (nI i283).toInt < 4 := h292
        refine g_iload_n C dX11_allHouses_9 rfl 1 rfl ?_
        refine g_aload_n C dX11_allHouses_10 rfl 2 rfl ?_
        obtain ⟨b293, h294⟩ := xFd.at (ok x hx) hxK 5 13 4 rfl
        refine g_getR C fi_X11_32 rfl h294.1 hx hxK dX11_allHouses_11 ?_
        refine g_iload_n C dX11_allHouses_14 rfl 0 rfl ?_
        refine g_iald (j := i283) C h294.2.1 h294.2.2.1 (IX.inn h294.2.2.2 (by omega) (by decide)) dX11_allHouses_15 ?_
        rw [show pI (pWI P I284 (pJ P)) b293 i283 = 1 from by rw [show pI (pWI P I284 (pJ P)) b293 = pI P b293 from congrFun hv286 b293]; exact zh _ h294.1 _ (by omega)]
        refine g_iadd C dX11_allHouses_16 ?_
        rw [nI_1]
        refine g_istore_n (lv' := [(1, .int (nI (i283 + 1))), (2, .int (nI i283)), (0, .ref x)]) C dX11_allHouses_17 rfl (by decide) rfl ?_
        refine g_iinc (v := (nI (i283 + 1))) (lv' := [(2, .int (nI (i283 + 1))), (1, .int (nI (i283 + 1))), (0, .ref x)]) C dX11_allHouses_18 1 rfl (nI_1 _) (by decide) rfl ?_
        refine g_goto C 4 dX11_allHouses_21 (by decide) ?_
        exact ih289 (i283 + 1) (by omega) _ (hv286)
  exact lp288 4 0 rfl _ (rfl)
theorem dX11_count_0 : decode cX11_count 0 = .ok (.iload_n 1, 1) := by decide +kernel
theorem dX11_count_1 : decode cX11_count 1 = .ok (.invokestatic 158, 3) := by decide +kernel
theorem dX11_count_4 : decode cX11_count 4 = .ok (.ifCond .eq 13, 3) := by decide +kernel
theorem dX11_count_7 : decode cX11_count 7 = .ok (.aload_n 0, 1) := by decide +kernel
theorem dX11_count_8 : decode cX11_count 8 = .ok (.getfield 17, 3) := by decide +kernel
theorem dX11_count_11 : decode cX11_count 11 = .ok (.iload_n 1, 1) := by decide +kernel
theorem dX11_count_12 : decode cX11_count 12 = .ok (.aaload, 1) := by decide +kernel
theorem dX11_count_13 : decode cX11_count 13 = .ok (.getfield 336, 3) := by decide +kernel
theorem dX11_count_16 : decode cX11_count 16 = .ok (.ireturn, 1) := by decide +kernel
theorem dX11_count_17 : decode cX11_count 17 = .ok (.iload_n 1, 1) := by decide +kernel
theorem dX11_count_18 : decode cX11_count 18 = .ok (.tableswitch 75 4 8 #[34, 44, 54, 65, 70], 34) := by decide +kernel
theorem dX11_count_52 : decode cX11_count 52 = .ok (.aload_n 0, 1) := by decide +kernel
theorem dX11_count_53 : decode cX11_count 53 = .ok (.getfield 11, 3) := by decide +kernel
theorem dX11_count_56 : decode cX11_count 56 = .ok (.iconst 0, 1) := by decide +kernel
theorem dX11_count_57 : decode cX11_count 57 = .ok (.aaload, 1) := by decide +kernel
theorem dX11_count_58 : decode cX11_count 58 = .ok (.invokevirtual 233, 3) := by decide +kernel
theorem dX11_count_61 : decode cX11_count 61 = .ok (.ireturn, 1) := by decide +kernel
theorem dX11_count_62 : decode cX11_count 62 = .ok (.aload_n 0, 1) := by decide +kernel
theorem dX11_count_63 : decode cX11_count 63 = .ok (.getfield 11, 3) := by decide +kernel
theorem dX11_count_66 : decode cX11_count 66 = .ok (.iconst 1, 1) := by decide +kernel
theorem dX11_count_67 : decode cX11_count 67 = .ok (.aaload, 1) := by decide +kernel
theorem dX11_count_68 : decode cX11_count 68 = .ok (.invokevirtual 233, 3) := by decide +kernel
theorem dX11_count_71 : decode cX11_count 71 = .ok (.ireturn, 1) := by decide +kernel
theorem dX11_count_72 : decode cX11_count 72 = .ok (.aload_n 0, 1) := by decide +kernel
theorem dX11_count_73 : decode cX11_count 73 = .ok (.getfield 41, 3) := by decide +kernel
theorem dX11_count_76 : decode cX11_count 76 = .ok (.getfield 111, 3) := by decide +kernel
theorem dX11_count_79 : decode cX11_count 79 = .ok (.getfield 121, 3) := by decide +kernel
theorem dX11_count_82 : decode cX11_count 82 = .ok (.ireturn, 1) := by decide +kernel
theorem dX11_count_83 : decode cX11_count 83 = .ok (.aload_n 0, 1) := by decide +kernel
theorem dX11_count_84 : decode cX11_count 84 = .ok (.getfield 348, 3) := by decide +kernel
theorem dX11_count_87 : decode cX11_count 87 = .ok (.ireturn, 1) := by decide +kernel
theorem dX11_count_88 : decode cX11_count 88 = .ok (.aload_n 0, 1) := by decide +kernel
theorem dX11_count_89 : decode cX11_count 89 = .ok (.invokevirtual 330, 3) := by decide +kernel
theorem dX11_count_92 : decode cX11_count 92 = .ok (.ireturn, 1) := by decide +kernel
theorem dX11_count_93 : decode cX11_count 93 = .ok (.iconst (-1), 1) := by decide +kernel
theorem dX11_count_94 : decode cX11_count 94 = .ok (.ireturn, 1) := by decide +kernel
set_option maxHeartbeats 4000000 in
set_option maxRecDepth 100000 in
theorem c_X11_count {P : PP} {x : Nat} {w : Int32} (F : FC P x) : CtrI yX11_count cX11_count 2 (some Jvm.ClassFile.FieldType.int) ({ frames := 2, cells := 0, slots := 0, locals := 128 } : Room) 0 0 P [.ref x, .int w] (fun r _ => (0 ≤ w.toInt ∧ w.toInt ≤ 7 ∧ r = 0) ∨ (w.toInt = 8 ∧ r = 4) ∨ ((w.toInt < 0 ∨ 8 < w.toInt) ∧ r = -1)) := by
  obtain ⟨hx, hxK, ok, z1, z6, z9, zt, zh, zm⟩ := F
  refine enI (lv := [(0, .ref x), (1, .int w)]) (by decide) (Nat.le_of_ble_eq_true rfl) rfl (fun E D cy C Ci0 ret => ?_)
  refine g_iload_n C dX11_count_0 rfl 1 rfl ?_
  refine g_callSI (b := 0) (ci := 0) (rest := []) C ms_X11_158 [.int w] (c_X11_isQuarter) rfl rfl (by decide) (Nat.le_of_ble_eq_true rfl) (by decide) dX11_count_1 (fun r295 Q296 h297 => ?_)
  obtain ⟨rfl, h297⟩ := h297
  rcases h297 with ⟨rfl, h297⟩ | ⟨rfl, h297⟩
  · refine b_if_eq C 17 dX11_count_4 (by decide) (fun h => absurd h (by decide)) (fun _ => ?_)
    refine g_aload_n C dX11_count_7 rfl 0 rfl ?_
    obtain ⟨b298, h299⟩ := xFd.at (ok x hx) hxK 1 19 4 rfl
    refine g_getR C fi_X11_17 rfl h299.1 hx hxK dX11_count_8 ?_
    refine g_iload_n C dX11_count_11 rfl 1 rfl ?_
    obtain ⟨b300, h301⟩ := xAr.at (ok b298 h299.2.1) h299.2.2.1 (by decide) (w.toInt.toNat) (lt_n h299.2.2.2 (by omega))
    refine g_aldR C h299.2.1 h299.2.2.1 (by decide) (IX.intn (i := w) h299.2.2.2 (by omega) (by omega)) h301.1 dX11_count_12 ?_
    refine g_getI C fi_X11_336 (by decide) h301.2.1 h301.2.2 dX11_count_13 ?_
    rw [show pI P b300 1 = 0 from z6 b300 h301.2.1 h301.2.2]
    exact ret _ _ _ _ _ _ dX11_count_16 rfl (by decide) (by decide) (Or.inl ⟨by omega, by omega, rfl⟩)
  · refine b_if_eq C 17 dX11_count_4 (by decide) (fun _ => ?_) (fun h => absurd h (by decide))
    refine g_iload_n C dX11_count_17 rfl 1 rfl ?_
    by_cases h302 : w.toInt < 4 ∨ 8 < w.toInt
    · refine g_tableOut C 93 dX11_count_18 h302 (by decide) ?_
      refine g_iconst (v := (-1)) C dX11_count_93 (by decide) ?_
      exact ret _ _ _ _ _ _ dX11_count_94 rfl (by decide) (by decide) (Or.inr (Or.inr ⟨by omega, rfl⟩))
    · rcases (show w.toInt = 4 ∨ w.toInt = 5 ∨ w.toInt = 6 ∨ w.toInt = 7 ∨ w.toInt = 8 by omega) with h303 | h303 | h303 | h303 | h303
      · refine g_tableIn C 52 dX11_count_18 (by omega) (by omega) (by rw [h303]; rfl) (by decide) ?_
        refine g_aload_n C dX11_count_52 rfl 0 rfl ?_
        obtain ⟨b304, h305⟩ := xFd.at (ok x hx) hxK 0 17 2 rfl
        refine g_getR C fi_X11_11 rfl h305.1 hx hxK dX11_count_53 ?_
        refine g_iconst (v := 0) C dX11_count_56 (by decide) ?_
        obtain ⟨b306, h307⟩ := xAr.at (ok b304 h305.2.1) h305.2.2.1 (by decide) 0 (lt_n h305.2.2.2 (by omega))
        refine g_aldR C h305.2.1 h305.2.2.1 (by decide) (IX.litn (j := 0) h305.2.2.2 rfl (by decide) (by decide)) h307.1 dX11_count_57 ?_
        refine g_callVI (rest := []) C mv_X11_233 [] (c_X1_all h307.2.1 h307.2.2 (z1 _ h307.2.1 h307.2.2)) h307.2.1 h307.2.2 rfl rfl (by decide) (Nat.le_of_ble_eq_true rfl) (by decide) dX11_count_58 (fun r308 Q309 h310 => ?_)
        obtain ⟨rfl, rfl⟩ := h310
        exact ret _ _ _ _ _ _ dX11_count_61 rfl (by decide) (by decide) (Or.inl ⟨by omega, by omega, rfl⟩)
      · refine g_tableIn C 62 dX11_count_18 (by omega) (by omega) (by rw [h303]; rfl) (by decide) ?_
        refine g_aload_n C dX11_count_62 rfl 0 rfl ?_
        obtain ⟨b311, h312⟩ := xFd.at (ok x hx) hxK 0 17 2 rfl
        refine g_getR C fi_X11_11 rfl h312.1 hx hxK dX11_count_63 ?_
        refine g_iconst (v := 1) C dX11_count_66 (by decide) ?_
        obtain ⟨b313, h314⟩ := xAr.at (ok b311 h312.2.1) h312.2.2.1 (by decide) 1 (lt_n h312.2.2.2 (by omega))
        refine g_aldR C h312.2.1 h312.2.2.1 (by decide) (IX.litn (j := 1) h312.2.2.2 rfl (by decide) (by decide)) h314.1 dX11_count_67 ?_
        refine g_callVI (rest := []) C mv_X11_233 [] (c_X1_all h314.2.1 h314.2.2 (z1 _ h314.2.1 h314.2.2)) h314.2.1 h314.2.2 rfl rfl (by decide) (Nat.le_of_ble_eq_true rfl) (by decide) dX11_count_68 (fun r315 Q316 h317 => ?_)
        obtain ⟨rfl, rfl⟩ := h317
        exact ret _ _ _ _ _ _ dX11_count_71 rfl (by decide) (by decide) (Or.inl ⟨by omega, by omega, rfl⟩)
      · refine g_tableIn C 72 dX11_count_18 (by omega) (by omega) (by rw [h303]; rfl) (by decide) ?_
        refine g_aload_n C dX11_count_72 rfl 0 rfl ?_
        obtain ⟨b318, h319⟩ := xFd.at (ok x hx) hxK 7 4 0 rfl
        refine g_getR C fi_X11_41 rfl h319.1 hx hxK dX11_count_73 ?_
        obtain ⟨b320, h321⟩ := xFd.at (ok b318 h319.2.1) h319.2.2.1 0 9 0 rfl
        refine g_getR C fi_X11_111 rfl h321.1 h319.2.1 h319.2.2.1 dX11_count_76 ?_
        refine g_getI C fi_X11_121 (by decide) h321.2.1 h321.2.2.1 dX11_count_79 ?_
        rw [show pI P b320 1 = 0 from z9 b320 h321.2.1 h321.2.2.1]
        exact ret _ _ _ _ _ _ dX11_count_82 rfl (by decide) (by decide) (Or.inl ⟨by omega, by omega, rfl⟩)
      · refine g_tableIn C 83 dX11_count_18 (by omega) (by omega) (by rw [h303]; rfl) (by decide) ?_
        refine g_aload_n C dX11_count_83 rfl 0 rfl ?_
        refine g_getI C fi_X11_348 (by decide) hx hxK dX11_count_84 ?_
        rw [show pI P x 13 = 0 from zt]
        exact ret _ _ _ _ _ _ dX11_count_87 rfl (by decide) (by decide) (Or.inl ⟨by omega, by omega, rfl⟩)
      · refine g_tableIn C 88 dX11_count_18 (by omega) (by omega) (by rw [h303]; rfl) (by decide) ?_
        refine g_aload_n C dX11_count_88 rfl 0 rfl ?_
        refine g_callVI (rest := []) C mv_X11_330 [] (c_X11_allHouses ⟨hx, hxK, ok, z1, z6, z9, zt, zh, zm⟩) hx hxK rfl rfl (by decide) (Nat.le_of_ble_eq_true rfl) (by decide) dX11_count_89 (fun r322 Q323 h324 => ?_)
        subst h324
        exact ret _ _ _ _ _ _ dX11_count_92 rfl (by decide) (by decide) (Or.inr (Or.inl ⟨by omega, rfl⟩))
theorem dX11_mark_0 : decode cX11_mark 0 = .ok (.iload_n 1, 1) := by decide +kernel
theorem dX11_mark_1 : decode cX11_mark 1 = .ok (.ifCond .lt 21, 3) := by decide +kernel
theorem dX11_mark_4 : decode cX11_mark 4 = .ok (.iload_n 1, 1) := by decide +kernel
theorem dX11_mark_5 : decode cX11_mark 5 = .ok (.iconst 4, 1) := by decide +kernel
theorem dX11_mark_6 : decode cX11_mark 6 = .ok (.if_icmp .ge 16, 3) := by decide +kernel
theorem dX11_mark_9 : decode cX11_mark 9 = .ok (.iload_n 2, 1) := by decide +kernel
theorem dX11_mark_10 : decode cX11_mark 10 = .ok (.ifCond .eq 14, 3) := by decide +kernel
theorem dX11_mark_22 : decode cX11_mark 22 = .ok (.iconst 0, 1) := by decide +kernel
theorem dX11_mark_23 : decode cX11_mark 23 = .ok (.ireturn, 1) := by decide +kernel
theorem dX11_mark_24 : decode cX11_mark 24 = .ok (.iconst 0, 1) := by decide +kernel
theorem dX11_mark_25 : decode cX11_mark 25 = .ok (.istore_n 3, 1) := by decide +kernel
theorem dX11_mark_26 : decode cX11_mark 26 = .ok (.iload_n 3, 1) := by decide +kernel
theorem dX11_mark_27 : decode cX11_mark 27 = .ok (.iconst 4, 1) := by decide +kernel
theorem dX11_mark_28 : decode cX11_mark 28 = .ok (.if_icmp .ge 50, 3) := by decide +kernel
theorem dX11_mark_31 : decode cX11_mark 31 = .ok (.aload_n 0, 1) := by decide +kernel
theorem dX11_mark_32 : decode cX11_mark 32 = .ok (.getfield 21, 3) := by decide +kernel
theorem dX11_mark_35 : decode cX11_mark 35 = .ok (.iload_n 1, 1) := by decide +kernel
theorem dX11_mark_36 : decode cX11_mark 36 = .ok (.iconst 4, 1) := by decide +kernel
theorem dX11_mark_37 : decode cX11_mark 37 = .ok (.imul, 1) := by decide +kernel
theorem dX11_mark_38 : decode cX11_mark 38 = .ok (.iload_n 3, 1) := by decide +kernel
theorem dX11_mark_39 : decode cX11_mark 39 = .ok (.iadd, 1) := by decide +kernel
theorem dX11_mark_40 : decode cX11_mark 40 = .ok (.aaload, 1) := by decide +kernel
theorem dX11_mark_41 : decode cX11_mark 41 = .ok (.astore 4, 2) := by decide +kernel
theorem dX11_mark_43 : decode cX11_mark 43 = .ok (.iload_n 2, 1) := by decide +kernel
theorem dX11_mark_44 : decode cX11_mark 44 = .ok (.ifCond .eq 17, 3) := by decide +kernel
theorem dX11_mark_61 : decode cX11_mark 61 = .ok (.aload 4, 2) := by decide +kernel
theorem dX11_mark_63 : decode cX11_mark 63 = .ok (.aload_n 0, 1) := by decide +kernel
theorem dX11_mark_64 : decode cX11_mark 64 = .ok (.getfield 17, 3) := by decide +kernel
theorem dX11_mark_67 : decode cX11_mark 67 = .ok (.iload_n 3, 1) := by decide +kernel
theorem dX11_mark_68 : decode cX11_mark 68 = .ok (.aaload, 1) := by decide +kernel
theorem dX11_mark_69 : decode cX11_mark 69 = .ok (.invokevirtual 345, 3) := by decide +kernel
theorem dX11_mark_72 : decode cX11_mark 72 = .ok (.iinc 3 1, 3) := by decide +kernel
theorem dX11_mark_75 : decode cX11_mark 75 = .ok (.goto (-49), 3) := by decide +kernel
theorem dX11_mark_78 : decode cX11_mark 78 = .ok (.aload_n 0, 1) := by decide +kernel
theorem dX11_mark_79 : decode cX11_mark 79 = .ok (.getfield 24, 3) := by decide +kernel
theorem dX11_mark_82 : decode cX11_mark 82 = .ok (.iload_n 1, 1) := by decide +kernel
theorem dX11_mark_83 : decode cX11_mark 83 = .ok (.iconst 1, 1) := by decide +kernel
theorem dX11_mark_84 : decode cX11_mark 84 = .ok (.bastore, 1) := by decide +kernel
theorem dX11_mark_85 : decode cX11_mark 85 = .ok (.iconst 1, 1) := by decide +kernel
theorem dX11_mark_86 : decode cX11_mark 86 = .ok (.ireturn, 1) := by decide +kernel
set_option maxHeartbeats 4000000 in
set_option maxRecDepth 100000 in
theorem c_X11_mark0 {P : PP} {x : Nat} {b : Int32} (F : FC P x) : CtrI yX11_mark cX11_mark 5 (some Jvm.ClassFile.FieldType.boolean) ({ frames := 3, cells := 0, slots := 0, locals := 192 } : Room) 0 0 P [.ref x, .int b, .int 0] (fun r _ => (r = 1 ∧ (0 ≤ b.toInt ∧ b.toInt < 4)) ∨ (r = 0 ∧ ¬ (0 ≤ b.toInt ∧ b.toInt < 4))) := by
  obtain ⟨hx, hxK, ok, z1, z6, z9, zt, zh, zm⟩ := F
  refine enI (lv := [(0, .ref x), (1, .int b), (2, .int 0)]) (by decide) (Nat.le_of_ble_eq_true rfl) rfl (fun E D cy C Ci0 ret => ?_)
  refine g_iload_n C dX11_mark_0 rfl 1 rfl ?_
  refine b_if_lt C 22 dX11_mark_1 (by decide) (fun h325 => ?_) (fun h325 => ?_)
  · have h325 : b.toInt < 0 := h325
    refine g_iconst (v := 0) C dX11_mark_22 (by decide) ?_
    exact ret _ _ _ _ _ _ dX11_mark_23 rfl (by decide) (by decide) (Or.inr ⟨rfl, by first | omega | (intro h9; omega)⟩)
  · have h325 : 0 ≤ b.toInt := h325
    refine g_iload_n C dX11_mark_4 rfl 1 rfl ?_
    refine g_iconst (v := 4) C dX11_mark_5 (by decide) ?_
    refine b_icmp_ge C 22 dX11_mark_6 (by decide) (fun h326 => ?_) (fun h326 => ?_)
    · have h326 : 4 ≤ b.toInt := h326
      refine g_iconst (v := 0) C dX11_mark_22 (by decide) ?_
      exact ret _ _ _ _ _ _ dX11_mark_23 rfl (by decide) (by decide) (Or.inr ⟨rfl, by first | omega | (intro h9; omega)⟩)
    · have h326 : b.toInt < 4 := h326
      refine g_iload_n C dX11_mark_9 rfl 2 rfl ?_
      refine b_if_eq C 24 dX11_mark_10 (by decide) (fun _ => ?_) (fun h => absurd h (by decide))
      refine g_iconst (v := 0) C dX11_mark_24 (by decide) ?_
      refine g_istore_n (lv' := [(3, .int 0), (0, .ref x), (1, .int b), (2, .int 0)]) C dX11_mark_25 rfl (by decide) rfl ?_
      obtain ⟨j327, h328, rfl⟩ := ix_of (x := b) (n := 4) (by omega) (by omega) (by decide)
      have ej327 : (nI j327).toInt = (j327 : Int) := ti_nI (by omega)
      have lp334 : ∀ (n336 i329 : Nat), i329 + n336 = 4 → ∀ (I330 : Nat → Nat → Int32), (∀ b, b ∈ pL P → pK P b = 6 → I330 b 1 = 0) → G E ({ frames := 3, cells := 0, slots := 0, locals := 192 } : Room) D cy 5 (pWI P I330 (pJ P)) 0 0 26 [(3, .int (nI i329)), (0, .ref x), (1, .int (nI j327)), (2, .int 0)] [] := by
        intro n336
        induction n336 with
        | zero =>
          intro i329 hi331 I330 hv332
          have ei333 : (nI i329).toInt = (i329 : Int) := ti_nI (by omega)
          refine g_iload_n C dX11_mark_26 rfl 0 rfl ?_
          refine g_iconst (v := 4) C dX11_mark_27 (by decide) ?_
          refine b_icmp_ge C 78 dX11_mark_28 (by decide) (fun h337 => ?_) (fun h337 => ?_)
          · have h337 : 4 ≤ (nI i329).toInt := h337
            refine g_aload_n C dX11_mark_78 rfl 1 rfl ?_
            obtain ⟨b338, h339⟩ := xFd.at (ok x hx) hxK 3 15 4 rfl
            refine g_getR C fi_X11_24 rfl h339.1 hx hxK dX11_mark_79 ?_
            refine g_iload_n C dX11_mark_82 rfl 2 rfl ?_
            refine g_iconst (v := 1) C dX11_mark_83 (by decide) ?_
            refine g_zast (j := j327) C h339.2.1 h339.2.2.1 (IX.inn h339.2.2.2 (by omega) (by decide)) (Or.inr rfl) dX11_mark_84 ?_
            refine g_iconst (v := 1) C dX11_mark_85 (by decide) ?_
            exact ret _ _ _ _ _ _ dX11_mark_86 rfl (by decide) (by decide) (Or.inl ⟨rfl, by first | omega | (intro h9; omega)⟩)
          · have h337 : (nI i329).toInt < 4 := h337
            omega
        | succ n336 ih335 =>
          intro i329 hi331 I330 hv332
          have ei333 : (nI i329).toInt = (i329 : Int) := ti_nI (by omega)
          refine g_iload_n C dX11_mark_26 rfl 0 rfl ?_
          refine g_iconst (v := 4) C dX11_mark_27 (by decide) ?_
          refine b_icmp_ge C 78 dX11_mark_28 (by decide) (fun h340 => ?_) (fun h340 => ?_)
          · have h340 : 4 ≤ (nI i329).toInt := h340
            omega
          · have h340 : (nI i329).toInt < 4 := h340
            refine g_aload_n C dX11_mark_31 rfl 1 rfl ?_
            obtain ⟨b341, h342⟩ := xFd.at (ok x hx) hxK 2 19 16 rfl
            refine g_getR C fi_X11_21 rfl h342.1 hx hxK dX11_mark_32 ?_
            refine g_iload_n C dX11_mark_35 rfl 2 rfl ?_
            refine g_iconst (v := 4) C dX11_mark_36 (by decide) ?_
            refine g_imul C dX11_mark_37 ?_
            refine g_iload_n C dX11_mark_38 rfl 0 rfl ?_
            refine g_iadd C dX11_mark_39 ?_
            obtain ⟨b343, h344⟩ := xAr.at (ok b341 h342.2.1) h342.2.2.1 (by decide) (j327 * 4 + i329) (lt_n h342.2.2.2 (by omega))
            refine g_aldR C h342.2.1 h342.2.2.1 (by decide) (IX.litn (j := (j327 * 4 + i329)) h342.2.2.2 (ix_4 j327 i329) (by omega) (by decide)) h344.1 dX11_mark_40 ?_
            refine g_astore (lv' := [(4, .ref b343), (3, .int (nI i329)), (0, .ref x), (1, .int (nI j327)), (2, .int 0)]) C dX11_mark_41 (by decide) rfl ?_
            refine g_iload_n C dX11_mark_43 rfl 4 rfl ?_
            refine b_if_eq C 61 dX11_mark_44 (by decide) (fun _ => ?_) (fun h => absurd h (by decide))
            refine g_aload C dX11_mark_61 0 rfl ?_
            refine g_aload_n C dX11_mark_63 rfl 2 rfl ?_
            obtain ⟨b345, h346⟩ := xFd.at (ok x hx) hxK 1 19 4 rfl
            refine g_getR C fi_X11_17 rfl h346.1 hx hxK dX11_mark_64 ?_
            refine g_iload_n C dX11_mark_67 rfl 1 rfl ?_
            obtain ⟨b347, h348⟩ := xAr.at (ok b345 h346.2.1) h346.2.2.1 (by decide) i329 (lt_n h346.2.2.2 (by omega))
            refine g_aldR C h346.2.1 h346.2.2.1 (by decide) (IX.inn h346.2.2.2 (by omega) (by decide)) h348.1 dX11_mark_68 ?_
            refine g_callVV (rest := []) C mv_X11_345 [.ref b347] (c_X6_copy ok hv332 h344.2.1 h344.2.2 h348.2.1 h348.2.2) h344.2.1 h344.2.2 rfl rfl (by decide) (Nat.le_of_ble_eq_true rfl) (by decide) dX11_mark_69 (fun Q350 h351 => ?_)
            obtain ⟨I352, rfl, h351⟩ := h351
            refine g_iinc (v := (nI (i329 + 1))) (lv' := [(3, .int (nI (i329 + 1))), (4, .ref b343), (0, .ref x), (1, .int (nI j327)), (2, .int 0)]) C dX11_mark_72 1 rfl (nI_1 _) (by decide) rfl ?_
            refine g_goto C 26 dX11_mark_75 (by decide) ?_
            refine g_lv (lv' := [(3, .int (nI (i329 + 1))), (0, .ref x), (1, .int (nI j327)), (2, .int 0)]) [0, 2, 3, 4] rfl ?_
            exact ih335 (i329 + 1) (by omega) _ (h351)
      exact lp334 4 0 rfl _ (fun b hb hk => z6 b hb hk)
theorem dX11_mark_13 : decode cX11_mark 13 = .ok (.aload_n 0, 1) := by decide +kernel
theorem dX11_mark_14 : decode cX11_mark 14 = .ok (.getfield 24, 3) := by decide +kernel
theorem dX11_mark_17 : decode cX11_mark 17 = .ok (.iload_n 1, 1) := by decide +kernel
theorem dX11_mark_18 : decode cX11_mark 18 = .ok (.baload, 1) := by decide +kernel
theorem dX11_mark_19 : decode cX11_mark 19 = .ok (.ifCond .ne 5, 3) := by decide +kernel
set_option maxHeartbeats 4000000 in
set_option maxRecDepth 100000 in
theorem c_X11_mark1 {P : PP} {x : Nat} {b : Int32} (F : FC P x) : CtrI yX11_mark cX11_mark 5 (some Jvm.ClassFile.FieldType.boolean) ({ frames := 3, cells := 0, slots := 0, locals := 192 } : Room) 0 0 P [.ref x, .int b, .int 1] (fun r _ => r = 0) := by
  obtain ⟨hx, hxK, ok, z1, z6, z9, zt, zh, zm⟩ := F
  refine enI (lv := [(0, .ref x), (1, .int b), (2, .int 1)]) (by decide) (Nat.le_of_ble_eq_true rfl) rfl (fun E D cy C Ci0 ret => ?_)
  refine g_iload_n C dX11_mark_0 rfl 1 rfl ?_
  refine b_if_lt C 22 dX11_mark_1 (by decide) (fun h353 => ?_) (fun h353 => ?_)
  · have h353 : b.toInt < 0 := h353
    refine g_iconst (v := 0) C dX11_mark_22 (by decide) ?_
    exact ret _ _ _ _ _ _ dX11_mark_23 rfl (by decide) (by decide) (rfl)
  · have h353 : 0 ≤ b.toInt := h353
    refine g_iload_n C dX11_mark_4 rfl 1 rfl ?_
    refine g_iconst (v := 4) C dX11_mark_5 (by decide) ?_
    refine b_icmp_ge C 22 dX11_mark_6 (by decide) (fun h354 => ?_) (fun h354 => ?_)
    · have h354 : 4 ≤ b.toInt := h354
      refine g_iconst (v := 0) C dX11_mark_22 (by decide) ?_
      exact ret _ _ _ _ _ _ dX11_mark_23 rfl (by decide) (by decide) (rfl)
    · have h354 : b.toInt < 4 := h354
      refine g_iload_n C dX11_mark_9 rfl 2 rfl ?_
      refine b_if_eq C 24 dX11_mark_10 (by decide) (fun h => absurd h (by decide)) (fun _ => ?_)
      refine g_aload_n C dX11_mark_13 rfl 0 rfl ?_
      obtain ⟨b355, h356⟩ := xFd.at (ok x hx) hxK 3 15 4 rfl
      refine g_getR C fi_X11_24 rfl h356.1 hx hxK dX11_mark_14 ?_
      refine g_iload_n C dX11_mark_17 rfl 1 rfl ?_
      refine g_zald (j := (b.toInt.toNat)) C h356.2.1 h356.2.2.1 (IX.intn (i := b) h356.2.2.2 (by omega) (by omega)) dX11_mark_18 ?_
      rw [show pI P b355 ((b.toInt.toNat)) = 0 from zm _ h356.1 _ (by omega)]
      refine b_if_ne C 24 dX11_mark_19 (by decide) (fun h => absurd h (by decide)) (fun _ => ?_)
      refine g_iconst (v := 0) C dX11_mark_22 (by decide) ?_
      exact ret _ _ _ _ _ _ dX11_mark_23 rfl (by decide) (by decide) (rfl)
theorem dX7_init_0 : decode cX7_init 0 = .ok (.aload_n 0, 1) := by decide +kernel
theorem dX7_init_1 : decode cX7_init 1 = .ok (.invokespecial 3, 3) := by decide +kernel
theorem dX7_init_4 : decode cX7_init 4 = .ok (.aload_n 0, 1) := by decide +kernel
theorem dX7_init_5 : decode cX7_init 5 = .ok (.iload_n 1, 1) := by decide +kernel
theorem dX7_init_6 : decode cX7_init 6 = .ok (.putfield 9, 3) := by decide +kernel
theorem dX7_init_9 : decode cX7_init 9 = .ok (.aload_n 0, 1) := by decide +kernel
theorem dX7_init_10 : decode cX7_init 10 = .ok (.iload_n 2, 1) := by decide +kernel
theorem dX7_init_11 : decode cX7_init 11 = .ok (.putfield 15, 3) := by decide +kernel
theorem dX7_init_14 : decode cX7_init 14 = .ok (.aload_n 0, 1) := by decide +kernel
theorem dX7_init_15 : decode cX7_init 15 = .ok (.iload_n 3, 1) := by decide +kernel
theorem dX7_init_16 : decode cX7_init 16 = .ok (.putfield 18, 3) := by decide +kernel
theorem dX7_init_19 : decode cX7_init 19 = .ok (.aload_n 0, 1) := by decide +kernel
theorem dX7_init_20 : decode cX7_init 20 = .ok (.iload 4, 2) := by decide +kernel
theorem dX7_init_22 : decode cX7_init 22 = .ok (.putfield 21, 3) := by decide +kernel
theorem dX7_init_25 : decode cX7_init 25 = .ok (.aload_n 0, 1) := by decide +kernel
theorem dX7_init_26 : decode cX7_init 26 = .ok (.iload 5, 2) := by decide +kernel
theorem dX7_init_28 : decode cX7_init 28 = .ok (.putfield 24, 3) := by decide +kernel
theorem dX7_init_31 : decode cX7_init 31 = .ok (.aload_n 0, 1) := by decide +kernel
theorem dX7_init_32 : decode cX7_init 32 = .ok (.iload 6, 2) := by decide +kernel
theorem dX7_init_34 : decode cX7_init 34 = .ok (.putfield 27, 3) := by decide +kernel
theorem dX7_init_37 : decode cX7_init 37 = .ok (.aload_n 0, 1) := by decide +kernel
theorem dX7_init_38 : decode cX7_init 38 = .ok (.iload 7, 2) := by decide +kernel
theorem dX7_init_40 : decode cX7_init 40 = .ok (.putfield 30, 3) := by decide +kernel
theorem dX7_init_43 : decode cX7_init 43 = .ok (.return_, 1) := by decide +kernel
set_option maxHeartbeats 4000000 in
set_option maxRecDepth 100000 in
theorem c_X7_init {P : PP} {a : Nat} {p0 : Int32} {p1 : Int32} {p2 : Int32} {p3 : Int32} {p4 : Int32} {p5 : Int32} {p6 : Int32} (ha : a ∈ pL P) (haK : pK P a = 7) : CtrV yX7_init cX7_init 8 none ({ frames := 2, cells := 0, slots := 0, locals := 128 } : Room) 0 0 P [.ref a, .int p0, .int p1, .int p2, .int p3, .int p4, .int p5, .int p6] (fun P2 => ∃ I2, P2 = pWI P I2 (pJ P) ∧ I2 a 0 = p0 ∧ ∀ b, b ≠ a → I2 b = pI P b) := by
  refine enV (lv := [(0, .ref a), (1, .int p0), (2, .int p1), (3, .int p2), (4, .int p3), (5, .int p4), (6, .int p5), (7, .int p6)]) (by decide) (Nat.le_of_ble_eq_true rfl) rfl (fun E D cy C Ci0 ret => ?_)
  have Ci9 := Ci0 rfl
  refine g_aload_n C dX7_init_0 rfl 0 rfl ?_
  refine g_objInit C oi_X7_3 oi_inst oi_code (by decide) (by decide) (Nat.le_of_ble_eq_true rfl) dX7_init_1 ?_
  refine g_aload_n C dX7_init_4 rfl 0 rfl ?_
  refine g_iload_n C dX7_init_5 rfl 1 rfl ?_
  refine g_putFI C fi_X7_9 Ci9 ⟨_, rfl, rfl⟩ rfl ha haK dX7_init_6 ?_
  obtain ⟨I357, eI357⟩ : ∃ I9, I9 = va_up (pI P) a (va_up ((pI P) a) 0 p0) := ⟨_, rfl⟩
  rw [show (pSI P a 0 p0) = pWI P I357 (pJ P) by rw [eI357]; rfl]
  refine g_aload_n C dX7_init_9 rfl 0 rfl ?_
  refine g_iload_n C dX7_init_10 rfl 2 rfl ?_
  refine g_putFI C fi_X7_15 Ci9 ⟨_, rfl, rfl⟩ rfl ha haK dX7_init_11 ?_
  obtain ⟨I358, eI358⟩ : ∃ I9, I9 = va_up (I357) a (va_up ((I357) a) 1 p1) := ⟨_, rfl⟩
  rw [show (pSI (pWI P I357 (pJ P)) a 1 p1) = pWI P I358 (pJ P) by rw [eI358]; rfl]
  refine g_aload_n C dX7_init_14 rfl 0 rfl ?_
  refine g_iload_n C dX7_init_15 rfl 3 rfl ?_
  refine g_putFI C fi_X7_18 Ci9 ⟨_, rfl, rfl⟩ rfl ha haK dX7_init_16 ?_
  obtain ⟨I359, eI359⟩ : ∃ I9, I9 = va_up (I358) a (va_up ((I358) a) 2 p2) := ⟨_, rfl⟩
  rw [show (pSI (pWI P I358 (pJ P)) a 2 p2) = pWI P I359 (pJ P) by rw [eI359]; rfl]
  refine g_aload_n C dX7_init_19 rfl 0 rfl ?_
  refine g_iload C dX7_init_20 4 rfl ?_
  refine g_putFI C fi_X7_21 Ci9 ⟨_, rfl, rfl⟩ rfl ha haK dX7_init_22 ?_
  obtain ⟨I360, eI360⟩ : ∃ I9, I9 = va_up (I359) a (va_up ((I359) a) 3 p3) := ⟨_, rfl⟩
  rw [show (pSI (pWI P I359 (pJ P)) a 3 p3) = pWI P I360 (pJ P) by rw [eI360]; rfl]
  refine g_aload_n C dX7_init_25 rfl 0 rfl ?_
  refine g_iload C dX7_init_26 5 rfl ?_
  refine g_putFI C fi_X7_24 Ci9 ⟨_, rfl, rfl⟩ rfl ha haK dX7_init_28 ?_
  obtain ⟨I361, eI361⟩ : ∃ I9, I9 = va_up (I360) a (va_up ((I360) a) 4 p4) := ⟨_, rfl⟩
  rw [show (pSI (pWI P I360 (pJ P)) a 4 p4) = pWI P I361 (pJ P) by rw [eI361]; rfl]
  refine g_aload_n C dX7_init_31 rfl 0 rfl ?_
  refine g_iload C dX7_init_32 6 rfl ?_
  refine g_putFI C fi_X7_27 Ci9 ⟨_, rfl, rfl⟩ rfl ha haK dX7_init_34 ?_
  obtain ⟨I362, eI362⟩ : ∃ I9, I9 = va_up (I361) a (va_up ((I361) a) 5 p5) := ⟨_, rfl⟩
  rw [show (pSI (pWI P I361 (pJ P)) a 5 p5) = pWI P I362 (pJ P) by rw [eI362]; rfl]
  refine g_aload_n C dX7_init_37 rfl 0 rfl ?_
  refine g_iload C dX7_init_38 7 rfl ?_
  refine g_putFI C fi_X7_30 Ci9 ⟨_, rfl, rfl⟩ rfl ha haK dX7_init_40 ?_
  obtain ⟨I363, eI363⟩ : ∃ I9, I9 = va_up (I362) a (va_up ((I362) a) 6 p6) := ⟨_, rfl⟩
  rw [show (pSI (pWI P I362 (pJ P)) a 6 p6) = pWI P I363 (pJ P) by rw [eI363]; rfl]
  exact ret _ _ _ _ _ dX7_init_43 (by decide) (by decide) (⟨_, rfl, by simp [eI363, eI362, eI361, eI360, eI359, eI358, eI357, va_up], fun b hb => by simp [eI363, eI362, eI361, eI360, eI359, eI358, eI357, va_up, hb]⟩)
theorem dX6_unnamed_0 : decode cX6_unnamed 0 = .ok (.iconst 0, 1) := by decide +kernel
theorem dX6_unnamed_1 : decode cX6_unnamed 1 = .ok (.istore_n 1, 1) := by decide +kernel
theorem dX6_unnamed_2 : decode cX6_unnamed 2 = .ok (.iconst 0, 1) := by decide +kernel
theorem dX6_unnamed_3 : decode cX6_unnamed 3 = .ok (.istore_n 2, 1) := by decide +kernel
theorem dX6_unnamed_4 : decode cX6_unnamed 4 = .ok (.iload_n 2, 1) := by decide +kernel
theorem dX6_unnamed_5 : decode cX6_unnamed 5 = .ok (.aload_n 0, 1) := by decide +kernel
theorem dX6_unnamed_6 : decode cX6_unnamed 6 = .ok (.getfield 17, 3) := by decide +kernel
theorem dX6_unnamed_9 : decode cX6_unnamed 9 = .ok (.if_icmp .ge 31, 3) := by decide +kernel
theorem dX6_unnamed_40 : decode cX6_unnamed 40 = .ok (.iload_n 1, 1) := by decide +kernel
theorem dX6_unnamed_41 : decode cX6_unnamed 41 = .ok (.ireturn, 1) := by decide +kernel
set_option maxHeartbeats 4000000 in
set_option maxRecDepth 100000 in
theorem c_X6_unnamed {P : PP} {a : Nat} (ha : a ∈ pL P) (haK : pK P a = 6) (z : pI P a 1 = 0) : CtrI yX6_unnamed cX6_unnamed 4 (some Jvm.ClassFile.FieldType.int) ({ frames := 1, cells := 0, slots := 0, locals := 64 } : Room) 0 0 P [.ref a] (fun r P2 => P = P2 ∧ r = 0) := by
  refine enI (lv := [(0, .ref a)]) (by decide) (Nat.le_of_ble_eq_true rfl) rfl (fun E D cy C Ci0 ret => ?_)
  refine g_iconst (v := 0) C dX6_unnamed_0 (by decide) ?_
  refine g_istore_n (lv' := [(1, .int 0), (0, .ref a)]) C dX6_unnamed_1 rfl (by decide) rfl ?_
  refine g_iconst (v := 0) C dX6_unnamed_2 (by decide) ?_
  refine g_istore_n (lv' := [(2, .int 0), (1, .int 0), (0, .ref a)]) C dX6_unnamed_3 rfl (by decide) rfl ?_
  refine g_iload_n C dX6_unnamed_4 rfl 0 rfl ?_
  refine g_aload_n C dX6_unnamed_5 rfl 2 rfl ?_
  refine g_getI C fi_X6_17 (by decide) ha haK dX6_unnamed_6 ?_
  rw [show pI P a 1 = 0 from z]
  refine b_icmp_ge C 40 dX6_unnamed_9 (by decide) (fun _ => ?_) (fun h => absurd h (by decide))
  refine g_iload_n C dX6_unnamed_40 rfl 1 rfl ?_
  exact ret _ _ _ _ _ _ dX6_unnamed_41 rfl (by decide) (by decide) (⟨rfl, rfl⟩)
theorem dX6_put_0 : decode cX6_put 0 = .ok (.aload_n 0, 1) := by decide +kernel
theorem dX6_put_1 : decode cX6_put 1 = .ok (.getfield 17, 3) := by decide +kernel
theorem dX6_put_4 : decode cX6_put 4 = .ok (.bipush 40, 2) := by decide +kernel
theorem dX6_put_6 : decode cX6_put 6 = .ok (.if_icmp .ge 20, 3) := by decide +kernel
theorem dX6_put_9 : decode cX6_put 9 = .ok (.aload_n 1, 1) := by decide +kernel
theorem dX6_put_10 : decode cX6_put 10 = .ok (.getfield 21, 3) := by decide +kernel
theorem dX6_put_13 : decode cX6_put 13 = .ok (.iconst (-1), 1) := by decide +kernel
theorem dX6_put_14 : decode cX6_put 14 = .ok (.if_icmp .ne 14, 3) := by decide +kernel
theorem dX6_put_17 : decode cX6_put 17 = .ok (.aload_n 0, 1) := by decide +kernel
theorem dX6_put_18 : decode cX6_put 18 = .ok (.invokevirtual 24, 3) := by decide +kernel
theorem dX6_put_21 : decode cX6_put 21 = .ok (.bipush 6, 2) := by decide +kernel
theorem dX6_put_23 : decode cX6_put 23 = .ok (.if_icmp .lt 5, 3) := by decide +kernel
theorem dX6_put_28 : decode cX6_put 28 = .ok (.aload_n 0, 1) := by decide +kernel
theorem dX6_put_29 : decode cX6_put 29 = .ok (.getfield 11, 3) := by decide +kernel
theorem dX6_put_32 : decode cX6_put 32 = .ok (.aload_n 0, 1) := by decide +kernel
theorem dX6_put_33 : decode cX6_put 33 = .ok (.getfield 17, 3) := by decide +kernel
theorem dX6_put_36 : decode cX6_put 36 = .ok (.aload_n 1, 1) := by decide +kernel
theorem dX6_put_37 : decode cX6_put 37 = .ok (.aastore, 1) := by decide +kernel
theorem dX6_put_38 : decode cX6_put 38 = .ok (.aload_n 0, 1) := by decide +kernel
theorem dX6_put_39 : decode cX6_put 39 = .ok (.dup, 1) := by decide +kernel
theorem dX6_put_40 : decode cX6_put 40 = .ok (.getfield 17, 3) := by decide +kernel
theorem dX6_put_43 : decode cX6_put 43 = .ok (.iconst 1, 1) := by decide +kernel
theorem dX6_put_44 : decode cX6_put 44 = .ok (.iadd, 1) := by decide +kernel
theorem dX6_put_45 : decode cX6_put 45 = .ok (.putfield 17, 3) := by decide +kernel
theorem dX6_put_48 : decode cX6_put 48 = .ok (.aload_n 0, 1) := by decide +kernel
theorem dX6_put_49 : decode cX6_put 49 = .ok (.getfield 17, 3) := by decide +kernel
theorem dX6_put_52 : decode cX6_put 52 = .ok (.iconst 1, 1) := by decide +kernel
theorem dX6_put_53 : decode cX6_put 53 = .ok (.isub, 1) := by decide +kernel
theorem dX6_put_54 : decode cX6_put 54 = .ok (.ireturn, 1) := by decide +kernel
set_option maxHeartbeats 4000000 in
set_option maxRecDepth 100000 in
theorem c_X6_put {P : PP} {a : Nat} {v : Nat} (ha : a ∈ pL P) (haK : pK P a = 6) (oka : xOk P a) (z : pI P a 1 = 0) (hv : v ∈ pL P) (hvK : pK P v = 7) (hb : pI P v 0 = -1) : CtrI yX6_put cX6_put 2 (some Jvm.ClassFile.FieldType.int) ({ frames := 2, cells := 0, slots := 0, locals := 128 } : Room) 0 0 P [.ref a, .ref v] (fun r _ => r = 0) := by
  refine enI (lv := [(0, .ref a), (1, .ref v)]) (by decide) (Nat.le_of_ble_eq_true rfl) rfl (fun E D cy C Ci0 ret => ?_)
  refine g_aload_n C dX6_put_0 rfl 0 rfl ?_
  refine g_getI C fi_X6_17 (by decide) ha haK dX6_put_1 ?_
  rw [show pI P a 1 = 0 from z]
  refine g_bipush (v := 40) C dX6_put_4 (by decide) ?_
  refine b_icmp_ge C 26 dX6_put_6 (by decide) (fun h => absurd h (by decide)) (fun _ => ?_)
  refine g_aload_n C dX6_put_9 rfl 1 rfl ?_
  refine g_getI C fi_X6_21 (by decide) hv hvK dX6_put_10 ?_
  rw [show pI P v 0 = (-1) from hb]
  refine g_iconst (v := (-1)) C dX6_put_13 (by decide) ?_
  refine b_icmp_ne C 28 dX6_put_14 (by decide) (fun h => absurd h (by decide)) (fun _ => ?_)
  refine g_aload_n C dX6_put_17 rfl 0 rfl ?_
  refine g_callVI (rest := []) C mv_X6_24 [] (c_X6_unnamed ha haK z) ha haK rfl rfl (by decide) (Nat.le_of_ble_eq_true rfl) (by decide) dX6_put_18 (fun r364 Q365 h366 => ?_)
  obtain ⟨rfl, rfl⟩ := h366
  refine g_bipush (v := 6) C dX6_put_21 (by decide) ?_
  refine b_icmp_lt C 28 dX6_put_23 (by decide) (fun _ => ?_) (fun h => absurd h (by decide))
  refine g_aload_n C dX6_put_28 rfl 0 rfl ?_
  obtain ⟨b367, h368⟩ := xFd.at (oka) haK 0 20 40 rfl
  refine g_getR C fi_X6_11 rfl h368.1 ha haK dX6_put_29 ?_
  refine g_aload_n C dX6_put_32 rfl 0 rfl ?_
  refine g_getI C fi_X6_17 (by decide) ha haK dX6_put_33 ?_
  rw [show pI P a 1 = 0 from z]
  refine g_aload_n C dX6_put_36 rfl 1 rfl ?_
  refine g_astR (j := 0) C h368.2.1 h368.2.2.1 (by decide) (IX.litn (j := 0) h368.2.2.2 rfl (by decide) (by decide)) hv hvK (by decide) rfl rfl dX6_put_37 ?_
  refine g_aload_n C dX6_put_38 rfl 0 rfl ?_
  refine g_dup C dX6_put_39 rfl ?_
  refine g_getI C fi_X6_17 (by decide) ha haK dX6_put_40 ?_
  rw [show pI (pSR P b367 0 (some v)) a 1 = 0 from z]
  refine g_iconst (v := 1) C dX6_put_43 (by decide) ?_
  refine g_iadd C dX6_put_44 ?_
  rw [show ((0 : Int32) + 1) = 1 from rfl]
  refine g_putI C fi_X6_17 rfl ha haK dX6_put_45 ?_
  refine g_aload_n C dX6_put_48 rfl 0 rfl ?_
  refine g_getI C fi_X6_17 (by decide) ha haK dX6_put_49 ?_
  rw [show pI (pSI (pSR P b367 0 (some v)) a 1 1) a 1 = 1 from by simp [pSI, pI, va_up]]
  refine g_iconst (v := 1) C dX6_put_52 (by decide) ?_
  refine g_isub C dX6_put_53 ?_
  rw [show ((1 : Int32) - 1) = 0 from rfl]
  exact ret _ _ _ _ _ _ dX6_put_54 rfl (by decide) (by decide) (rfl)
theorem dX11_nameless_0 : decode cX11_nameless 0 = .ok (.iload_n 1, 1) := by decide +kernel
theorem dX11_nameless_1 : decode cX11_nameless 1 = .ok (.invokestatic 158, 3) := by decide +kernel
theorem dX11_nameless_4 : decode cX11_nameless 4 = .ok (.ifCond .eq 20, 3) := by decide +kernel
theorem dX11_nameless_7 : decode cX11_nameless 7 = .ok (.iload_n 2, 1) := by decide +kernel
theorem dX11_nameless_8 : decode cX11_nameless 8 = .ok (.invokestatic 173, 3) := by decide +kernel
theorem dX11_nameless_11 : decode cX11_nameless 11 = .ok (.ifCond .eq 13, 3) := by decide +kernel
theorem dX11_nameless_14 : decode cX11_nameless 14 = .ok (.iload_n 3, 1) := by decide +kernel
theorem dX11_nameless_15 : decode cX11_nameless 15 = .ok (.ifCond .lt 9, 3) := by decide +kernel
theorem dX11_nameless_18 : decode cX11_nameless 18 = .ok (.iload_n 3, 1) := by decide +kernel
theorem dX11_nameless_19 : decode cX11_nameless 19 = .ok (.ldc 104, 2) := by decide +kernel
theorem dX11_nameless_21 : decode cX11_nameless 21 = .ok (.if_icmp .le 5, 3) := by decide +kernel
theorem dX11_nameless_24 : decode cX11_nameless 24 = .ok (.iconst (-1), 1) := by decide +kernel
theorem dX11_nameless_25 : decode cX11_nameless 25 = .ok (.ireturn, 1) := by decide +kernel
theorem dX11_nameless_26 : decode cX11_nameless 26 = .ok (.aload_n 0, 1) := by decide +kernel
theorem dX11_nameless_27 : decode cX11_nameless 27 = .ok (.getfield 11, 3) := by decide +kernel
theorem dX11_nameless_30 : decode cX11_nameless 30 = .ok (.iconst 0, 1) := by decide +kernel
theorem dX11_nameless_31 : decode cX11_nameless 31 = .ok (.aaload, 1) := by decide +kernel
theorem dX11_nameless_32 : decode cX11_nameless 32 = .ok (.getfield 176, 3) := by decide +kernel
theorem dX11_nameless_35 : decode cX11_nameless 35 = .ok (.ifCond .eq 16, 3) := by decide +kernel
theorem dX11_nameless_51 : decode cX11_nameless 51 = .ok (.iconst 0, 1) := by decide +kernel
theorem dX11_nameless_52 : decode cX11_nameless 52 = .ok (.istore 4, 2) := by decide +kernel
theorem dX11_nameless_54 : decode cX11_nameless 54 = .ok (.aload_n 0, 1) := by decide +kernel
theorem dX11_nameless_55 : decode cX11_nameless 55 = .ok (.getfield 11, 3) := by decide +kernel
theorem dX11_nameless_58 : decode cX11_nameless 58 = .ok (.iconst 1, 1) := by decide +kernel
theorem dX11_nameless_59 : decode cX11_nameless 59 = .ok (.aaload, 1) := by decide +kernel
theorem dX11_nameless_60 : decode cX11_nameless 60 = .ok (.getfield 176, 3) := by decide +kernel
theorem dX11_nameless_63 : decode cX11_nameless 63 = .ok (.ifCond .eq 16, 3) := by decide +kernel
theorem dX11_nameless_79 : decode cX11_nameless 79 = .ok (.iconst 0, 1) := by decide +kernel
theorem dX11_nameless_80 : decode cX11_nameless 80 = .ok (.istore 5, 2) := by decide +kernel
theorem dX11_nameless_82 : decode cX11_nameless 82 = .ok (.aload_n 0, 1) := by decide +kernel
theorem dX11_nameless_83 : decode cX11_nameless 83 = .ok (.getfield 17, 3) := by decide +kernel
theorem dX11_nameless_86 : decode cX11_nameless 86 = .ok (.iload_n 1, 1) := by decide +kernel
theorem dX11_nameless_87 : decode cX11_nameless 87 = .ok (.aaload, 1) := by decide +kernel
theorem dX11_nameless_88 : decode cX11_nameless 88 = .ok (.new 180, 3) := by decide +kernel
theorem dX11_nameless_91 : decode cX11_nameless 91 = .ok (.dup, 1) := by decide +kernel
theorem dX11_nameless_92 : decode cX11_nameless 92 = .ok (.iconst (-1), 1) := by decide +kernel
theorem dX11_nameless_93 : decode cX11_nameless 93 = .ok (.iload_n 2, 1) := by decide +kernel
theorem dX11_nameless_94 : decode cX11_nameless 94 = .ok (.iload_n 3, 1) := by decide +kernel
theorem dX11_nameless_95 : decode cX11_nameless 95 = .ok (.iconst 3, 1) := by decide +kernel
theorem dX11_nameless_96 : decode cX11_nameless 96 = .ok (.iconst 0, 1) := by decide +kernel
theorem dX11_nameless_97 : decode cX11_nameless 97 = .ok (.iload 4, 2) := by decide +kernel
theorem dX11_nameless_99 : decode cX11_nameless 99 = .ok (.iload 5, 2) := by decide +kernel
theorem dX11_nameless_101 : decode cX11_nameless 101 = .ok (.invokespecial 182, 3) := by decide +kernel
theorem dX11_nameless_104 : decode cX11_nameless 104 = .ok (.invokevirtual 165, 3) := by decide +kernel
theorem dX11_nameless_107 : decode cX11_nameless 107 = .ok (.ireturn, 1) := by decide +kernel
set_option maxHeartbeats 4000000 in
set_option maxRecDepth 100000 in
theorem c_X11_nameless {P : PP} {x : Nat} {q : Int32} {n : Int32} {m : Int32} (F : FC P x) : CtrI yX11_nameless cX11_nameless 6 (some Jvm.ClassFile.FieldType.int) ({ frames := 4, cells := 1, slots := 7, locals := 256 } : Room) 1 7 P [.ref x, .int q, .int n, .int m] (fun r _ => (r = 0 ∧ (0 ≤ q.toInt ∧ q.toInt < 4 ∧ 0 ≤ n.toInt ∧ n.toInt ≤ 9999 ∧ 0 ≤ m.toInt ∧ m.toInt ≤ 65535)) ∨ (r = -1 ∧ ¬ (0 ≤ q.toInt ∧ q.toInt < 4 ∧ 0 ≤ n.toInt ∧ n.toInt ≤ 9999 ∧ 0 ≤ m.toInt ∧ m.toInt ≤ 65535))) := by
  obtain ⟨hx, hxK, ok, z1, z6, z9, zt, zh, zm⟩ := F
  refine enI (lv := [(0, .ref x), (1, .int q), (2, .int n), (3, .int m)]) (by decide) (Nat.le_of_ble_eq_true rfl) rfl (fun E D cy C Ci0 ret => ?_)
  refine g_iload_n C dX11_nameless_0 rfl 1 rfl ?_
  refine g_callSI (b := 0) (ci := 0) (rest := []) C ms_X11_158 [.int q] (c_X11_isQuarter) rfl rfl (by decide) (Nat.le_of_ble_eq_true rfl) (by decide) dX11_nameless_1 (fun r369 Q370 h371 => ?_)
  obtain ⟨rfl, h371⟩ := h371
  rcases h371 with ⟨rfl, h371⟩ | ⟨rfl, h371⟩
  · refine b_if_eq C 24 dX11_nameless_4 (by decide) (fun h => absurd h (by decide)) (fun _ => ?_)
    refine g_iload_n C dX11_nameless_7 rfl 2 rfl ?_
    refine g_callSI (b := 0) (ci := 0) (rest := []) C ms_X11_173 [.int n] (c_X11_isNumber) rfl rfl (by decide) (Nat.le_of_ble_eq_true rfl) (by decide) dX11_nameless_8 (fun r372 Q373 h374 => ?_)
    obtain ⟨rfl, h374⟩ := h374
    rcases h374 with ⟨rfl, h374⟩ | ⟨rfl, h374⟩
    · refine b_if_eq C 24 dX11_nameless_11 (by decide) (fun h => absurd h (by decide)) (fun _ => ?_)
      refine g_iload_n C dX11_nameless_14 rfl 3 rfl ?_
      refine b_if_lt C 24 dX11_nameless_15 (by decide) (fun h375 => ?_) (fun h375 => ?_)
      · have h375 : m.toInt < 0 := h375
        refine g_iconst (v := (-1)) C dX11_nameless_24 (by decide) ?_
        exact ret _ _ _ _ _ _ dX11_nameless_25 rfl (by decide) (by decide) (Or.inr ⟨rfl, by first | omega | (intro h9; omega)⟩)
      · have h375 : 0 ≤ m.toInt := h375
        refine g_iload_n C dX11_nameless_18 rfl 3 rfl ?_
        refine g_ldc (v := 65535) C kc_X11_104 dX11_nameless_19 ?_
        refine b_icmp_le C 26 dX11_nameless_21 (by decide) (fun h376 => ?_) (fun h376 => ?_)
        · have h376 : m.toInt ≤ 65535 := h376
          refine g_aload_n C dX11_nameless_26 rfl 0 rfl ?_
          obtain ⟨b377, h378⟩ := xFd.at (ok x hx) hxK 0 17 2 rfl
          refine g_getR C fi_X11_11 rfl h378.1 hx hxK dX11_nameless_27 ?_
          refine g_iconst (v := 0) C dX11_nameless_30 (by decide) ?_
          obtain ⟨b379, h380⟩ := xAr.at (ok b377 h378.2.1) h378.2.2.1 (by decide) 0 (lt_n h378.2.2.2 (by omega))
          refine g_aldR C h378.2.1 h378.2.2.1 (by decide) (IX.litn (j := 0) h378.2.2.2 rfl (by decide) (by decide)) h380.1 dX11_nameless_31 ?_
          refine g_getI C fi_X11_176 (by decide) h380.2.1 h380.2.2 dX11_nameless_32 ?_
          rw [show pI P b379 4 = 0 from z1 b379 h380.2.1 h380.2.2]
          refine b_if_eq C 51 dX11_nameless_35 (by decide) (fun _ => ?_) (fun h => absurd h (by decide))
          refine g_iconst (v := 0) C dX11_nameless_51 (by decide) ?_
          refine g_istore (lv' := [(4, .int 0), (0, .ref x), (1, .int q), (2, .int n), (3, .int m)]) C dX11_nameless_52 (by decide) rfl ?_
          refine g_aload_n C dX11_nameless_54 rfl 1 rfl ?_
          refine g_getR C fi_X11_11 rfl (h378.1) hx hxK dX11_nameless_55 ?_
          refine g_iconst (v := 1) C dX11_nameless_58 (by decide) ?_
          obtain ⟨b381, h382⟩ := xAr.at (ok b377 h378.2.1) h378.2.2.1 (by decide) 1 (lt_n h378.2.2.2 (by omega))
          refine g_aldR C h378.2.1 h378.2.2.1 (by decide) (IX.litn (j := 1) h378.2.2.2 rfl (by decide) (by decide)) h382.1 dX11_nameless_59 ?_
          refine g_getI C fi_X11_176 (by decide) h382.2.1 h382.2.2 dX11_nameless_60 ?_
          rw [show pI P b381 4 = 0 from z1 b381 h382.2.1 h382.2.2]
          refine b_if_eq C 79 dX11_nameless_63 (by decide) (fun _ => ?_) (fun h => absurd h (by decide))
          refine g_iconst (v := 0) C dX11_nameless_79 (by decide) ?_
          refine g_istore (lv' := [(5, .int 0), (4, .int 0), (0, .ref x), (1, .int q), (2, .int n), (3, .int m)]) C dX11_nameless_80 (by decide) rfl ?_
          refine g_aload_n C dX11_nameless_82 rfl 2 rfl ?_
          obtain ⟨b383, h384⟩ := xFd.at (ok x hx) hxK 1 19 4 rfl
          refine g_getR C fi_X11_17 rfl h384.1 hx hxK dX11_nameless_83 ?_
          refine g_iload_n C dX11_nameless_86 rfl 3 rfl ?_
          obtain ⟨b385, h386⟩ := xAr.at (ok b383 h384.2.1) h384.2.2.1 (by decide) (q.toInt.toNat) (lt_n h384.2.2.2 (by omega))
          refine g_aldR C h384.2.1 h384.2.2.1 (by decide) (IX.intn (i := q) h384.2.2.2 (by omega) (by omega)) h386.1 dX11_nameless_87 ?_
          refine g_new C ni_X11_180 (by decide) (by decide) dX11_nameless_88 (fun q387 h388 => ?_)
          have x389 : xExt [] P (pNw P q387 7 0) := xExt.new h388
          refine g_dup C dX11_nameless_91 rfl ?_
          refine g_iconst (v := (-1)) C dX11_nameless_92 (by decide) ?_
          refine g_iload_n C dX11_nameless_93 rfl 4 rfl ?_
          refine g_iload_n C dX11_nameless_94 rfl 5 rfl ?_
          refine g_iconst (v := 3) C dX11_nameless_95 (by decide) ?_
          refine g_iconst (v := 0) C dX11_nameless_96 (by decide) ?_
          refine g_iload C dX11_nameless_97 1 rfl ?_
          refine g_iload C dX11_nameless_99 0 rfl ?_
          refine g_callCV (ci := 0) (ret := none) (rest := [.ref q387, .ref b385]) C mi_X11_182 [.int (-1), .int n, .int m, .int 3, .int 0, .int 0, .int 0] (c_X7_init in_new K_new) rfl rfl (by decide) (Nat.le_of_ble_eq_true rfl) (by decide) dX11_nameless_101 (fun Q391 h392 => ?_)
          obtain ⟨I393, rfl, h392⟩ := h392
          refine g_callVI (rest := []) C mv_X11_165 [.ref q387] (c_X6_put (x389.1 _ h386.2.1).1 ((x389.1 _ h386.2.1).2.1.trans h386.2.2) (show xOk (pNw P q387 7 0) b385 from (ok _ h386.2.1).ext x389 h386.2.1 (x389.2 _ h386.2.1 List.not_mem_nil).2.1) (by show I393 b385 1 = 0; rw [h392.2 b385 (fun e9 => h388 (e9 ▸ h386.2.1)), (x389.2 _ h386.2.1 List.not_mem_nil).1]; exact z6 _ h386.2.1 h386.2.2) (in_new (P := P) (kd := 7) (n := 0)) (K_new (P := P) (kd := 7) (n := 0)) h392.1) (x389.1 _ h386.2.1).1 ((x389.1 _ h386.2.1).2.1.trans h386.2.2) rfl rfl (by decide) (Nat.le_of_ble_eq_true rfl) (by decide) dX11_nameless_104 (fun r394 Q395 h396 => ?_)
          subst h396
          exact ret _ _ _ _ _ _ dX11_nameless_107 rfl (by decide) (by decide) (Or.inl ⟨rfl, by first | omega | (intro h9; omega)⟩)
        · have h376 : 65535 < m.toInt := h376
          refine g_iconst (v := (-1)) C dX11_nameless_24 (by decide) ?_
          exact ret _ _ _ _ _ _ dX11_nameless_25 rfl (by decide) (by decide) (Or.inr ⟨rfl, by first | omega | (intro h9; omega)⟩)
    · refine b_if_eq C 24 dX11_nameless_11 (by decide) (fun _ => ?_) (fun h => absurd h (by decide))
      refine g_iconst (v := (-1)) C dX11_nameless_24 (by decide) ?_
      exact ret _ _ _ _ _ _ dX11_nameless_25 rfl (by decide) (by decide) (Or.inr ⟨rfl, by first | omega | (intro h9; omega)⟩)
  · refine b_if_eq C 24 dX11_nameless_4 (by decide) (fun _ => ?_) (fun h => absurd h (by decide))
    refine g_iconst (v := (-1)) C dX11_nameless_24 (by decide) ?_
    exact ret _ _ _ _ _ _ dX11_nameless_25 rfl (by decide) (by decide) (Or.inr ⟨rfl, by first | omega | (intro h9; omega)⟩)
