/-- only numbers have changed, in cells of the kinds ks alone -/
def Kp (ks : List Nat) (P P2 : PP) : Prop := ∃ I2 : Nat → Nat → Int32, P2 = pWI P I2 (pJ P) ∧ ∀ b, pK P b ∉ ks → I2 b = pI P b
theorem Kp.rf {ks : List Nat} {P : PP} : Kp ks P P := ⟨_, rfl, fun _ _ => rfl⟩
theorem Kp.set {ks : List Nat} {P P2 : PP} {a k : Nat} {v : Int32} (h : Kp ks P P2) (ha : pK P a ∈ ks) : Kp ks P (pSI P2 a k v) := by
  obtain ⟨I2, rfl, h⟩ := h
  refine ⟨va_up I2 a (va_up (I2 a) k v), rfl, fun b hb => ?_⟩
  have hne : b ≠ a := fun e => hb (e ▸ ha)
  rw [up_ne hne]; exact h b hb
theorem Kp.tr {ks ks2 : List Nat} {P P2 P3 : PP} (h : Kp ks P P2) (h2 : Kp ks2 P2 P3) (hs : ∀ k, k ∈ ks2 → k ∈ ks) : Kp ks P P3 := by
  obtain ⟨I2, rfl, h⟩ := h
  obtain ⟨I3, rfl, h2⟩ := h2
  exact ⟨I3, rfl, fun b hb => (h2 b (fun q => hb (hs _ q))).trans (h b hb)⟩
def Z6 (P P2 : PP) : Prop := ∃ I2 : Nat → Nat → Int32, P2 = pWI P I2 (pJ P) ∧ ∀ b, b ∈ pL P → pK P b = 6 → I2 b 1 = 0
theorem dX3_clear_0 : decode cX3_clear 0 = .ok (.iconst 0, 1) := by decide +kernel
theorem dX3_clear_1 : decode cX3_clear 1 = .ok (.istore_n 1, 1) := by decide +kernel
theorem dX3_clear_2 : decode cX3_clear 2 = .ok (.iload_n 1, 1) := by decide +kernel
theorem dX3_clear_3 : decode cX3_clear 3 = .ok (.bipush 20, 2) := by decide +kernel
theorem dX3_clear_5 : decode cX3_clear 5 = .ok (.if_icmp .gt 16, 3) := by decide +kernel
theorem dX3_clear_8 : decode cX3_clear 8 = .ok (.aload_n 0, 1) := by decide +kernel
theorem dX3_clear_9 : decode cX3_clear 9 = .ok (.getfield 9, 3) := by decide +kernel
theorem dX3_clear_12 : decode cX3_clear 12 = .ok (.iload_n 1, 1) := by decide +kernel
theorem dX3_clear_13 : decode cX3_clear 13 = .ok (.iconst (-1), 1) := by decide +kernel
theorem dX3_clear_14 : decode cX3_clear 14 = .ok (.iastore, 1) := by decide +kernel
theorem dX3_clear_15 : decode cX3_clear 15 = .ok (.iinc 1 1, 3) := by decide +kernel
theorem dX3_clear_18 : decode cX3_clear 18 = .ok (.goto (-16), 3) := by decide +kernel
theorem dX3_clear_21 : decode cX3_clear 21 = .ok (.aload_n 0, 1) := by decide +kernel
theorem dX3_clear_22 : decode cX3_clear 22 = .ok (.iconst 0, 1) := by decide +kernel
theorem dX3_clear_23 : decode cX3_clear 23 = .ok (.putfield 21, 3) := by decide +kernel
theorem dX3_clear_26 : decode cX3_clear 26 = .ok (.aload_n 0, 1) := by decide +kernel
theorem dX3_clear_27 : decode cX3_clear 27 = .ok (.iconst 0, 1) := by decide +kernel
theorem dX3_clear_28 : decode cX3_clear 28 = .ok (.putfield 25, 3) := by decide +kernel
theorem dX3_clear_31 : decode cX3_clear 31 = .ok (.aload_n 0, 1) := by decide +kernel
theorem dX3_clear_32 : decode cX3_clear 32 = .ok (.iconst 0, 1) := by decide +kernel
theorem dX3_clear_33 : decode cX3_clear 33 = .ok (.putfield 28, 3) := by decide +kernel
theorem dX3_clear_36 : decode cX3_clear 36 = .ok (.aload_n 0, 1) := by decide +kernel
theorem dX3_clear_37 : decode cX3_clear 37 = .ok (.iconst 0, 1) := by decide +kernel
theorem dX3_clear_38 : decode cX3_clear 38 = .ok (.putfield 31, 3) := by decide +kernel
theorem dX3_clear_41 : decode cX3_clear 41 = .ok (.return_, 1) := by decide +kernel
set_option maxHeartbeats 4000000 in
set_option maxRecDepth 100000 in
theorem c_X3_clear {P : PP} {a : Nat} (ok : ∀ a, a ∈ pL P → xOk P a) (ha : a ∈ pL P) (haK : pK P a = 3) : CtrV yX3_clear cX3_clear 2 none ({ frames := 1, cells := 0, slots := 0, locals := 64 } : Room) 0 0 P [.ref a] (fun P2 => Kp [3, 13] P P2) := by
  refine enV (lv := [(0, .ref a)]) (by decide) (Nat.le_of_ble_eq_true rfl) rfl (fun E D cy C Ci0 ret => ?_)
  refine g_iconst (v := 0) C dX3_clear_0 (by decide) ?_
  refine g_istore_n (lv' := [(1, .int 0), (0, .ref a)]) C dX3_clear_1 rfl (by decide) rfl ?_
  have lp150 : ∀ (n152 i145 : Nat), i145 + n152 = 21 → ∀ (I146 : Nat → Nat → Int32), (Kp [3, 13] P (pWI P I146 (pJ P))) → G E ({ frames := 1, cells := 0, slots := 0, locals := 64 } : Room) D cy 2 (pWI P I146 (pJ P)) 0 0 2 [(1, .int (nI i145)), (0, .ref a)] [] := by
    intro n152
    induction n152 with
    | zero =>
      intro i145 hi147 I146 hv148
      have ei149 : (nI i145).toInt = (i145 : Int) := ti_nI (by omega)
      refine g_iload_n C dX3_clear_2 rfl 0 rfl ?_
      refine g_bipush (v := 20) C dX3_clear_3 (by decide) ?_
      refine b_icmp_gt C 21 dX3_clear_5 (by decide) (fun h153 => ?_) (fun h153 => ?_)
      · have h153 : 20 < (nI i145).toInt := h153
        refine g_aload_n C dX3_clear_21 rfl 1 rfl ?_
        refine g_iconst (v := 0) C dX3_clear_22 (by decide) ?_
        refine g_putI C fi_X3_21 rfl ha haK dX3_clear_23 ?_
        have k154 := hv148.set (k := 2) (v := 0) (by rw [show pK P a = 3 from haK]; decide)
        refine g_aload_n C dX3_clear_26 rfl 1 rfl ?_
        refine g_iconst (v := 0) C dX3_clear_27 (by decide) ?_
        refine g_putI C fi_X3_25 rfl ha haK dX3_clear_28 ?_
        have k155 := k154.set (k := 3) (v := 0) (by rw [show pK P a = 3 from haK]; decide)
        refine g_aload_n C dX3_clear_31 rfl 1 rfl ?_
        refine g_iconst (v := 0) C dX3_clear_32 (by decide) ?_
        refine g_putI C fi_X3_28 rfl ha haK dX3_clear_33 ?_
        have k156 := k155.set (k := 4) (v := 0) (by rw [show pK P a = 3 from haK]; decide)
        refine g_aload_n C dX3_clear_36 rfl 1 rfl ?_
        refine g_iconst (v := 0) C dX3_clear_37 (by decide) ?_
        refine g_putI C fi_X3_31 rfl ha haK dX3_clear_38 ?_
        have k157 := k156.set (k := 5) (v := 0) (by rw [show pK P a = 3 from haK]; decide)
        exact ret _ _ _ _ _ dX3_clear_41 (by decide) (by decide) (k157)
      · have h153 : (nI i145).toInt ≤ 20 := h153
        omega
    | succ n152 ih151 =>
      intro i145 hi147 I146 hv148
      have ei149 : (nI i145).toInt = (i145 : Int) := ti_nI (by omega)
      refine g_iload_n C dX3_clear_2 rfl 0 rfl ?_
      refine g_bipush (v := 20) C dX3_clear_3 (by decide) ?_
      refine b_icmp_gt C 21 dX3_clear_5 (by decide) (fun h158 => ?_) (fun h158 => ?_)
      · have h158 : 20 < (nI i145).toInt := h158
        omega
      · have h158 : (nI i145).toInt ≤ 20 := h158
        refine g_aload_n C dX3_clear_8 rfl 1 rfl ?_
        obtain ⟨b159, h160⟩ := xFd.at (ok a ha) haK 0 13 21 rfl
        refine g_getR C fi_X3_9 rfl h160.1 ha haK dX3_clear_9 ?_
        refine g_iload_n C dX3_clear_12 rfl 0 rfl ?_
        refine g_iconst (v := (-1)) C dX3_clear_13 (by decide) ?_
        refine g_iast (j := i145) C h160.2.1 h160.2.2.1 (IX.inn h160.2.2.2 (by omega) (by decide)) dX3_clear_14 ?_
        have k161 := hv148.set (k := i145) (v := (-1)) (by rw [show pK P b159 = 13 from h160.2.2.1]; decide)
        refine g_iinc (v := (nI (i145 + 1))) (lv' := [(1, .int (nI (i145 + 1))), (0, .ref a)]) C dX3_clear_15 0 rfl (nI_1 _) (by decide) rfl ?_
        refine g_goto C 2 dX3_clear_18 (by decide) ?_
        exact ih151 (i145 + 1) (by omega) _ (k161)
  exact lp150 21 0 rfl _ ((Kp.rf (ks := [3, 13]) (P := P)))
theorem dX1_forgetDrawn_0 : decode cX1_forgetDrawn 0 = .ok (.iconst 0, 1) := by decide +kernel
theorem dX1_forgetDrawn_1 : decode cX1_forgetDrawn 1 = .ok (.istore_n 1, 1) := by decide +kernel
theorem dX1_forgetDrawn_2 : decode cX1_forgetDrawn 2 = .ok (.iload_n 1, 1) := by decide +kernel
theorem dX1_forgetDrawn_3 : decode cX1_forgetDrawn 3 = .ok (.bipush 60, 2) := by decide +kernel
theorem dX1_forgetDrawn_5 : decode cX1_forgetDrawn 5 = .ok (.if_icmp .ge 16, 3) := by decide +kernel
theorem dX1_forgetDrawn_8 : decode cX1_forgetDrawn 8 = .ok (.aload_n 0, 1) := by decide +kernel
theorem dX1_forgetDrawn_9 : decode cX1_forgetDrawn 9 = .ok (.getfield 22, 3) := by decide +kernel
theorem dX1_forgetDrawn_12 : decode cX1_forgetDrawn 12 = .ok (.iload_n 1, 1) := by decide +kernel
theorem dX1_forgetDrawn_13 : decode cX1_forgetDrawn 13 = .ok (.iconst 0, 1) := by decide +kernel
theorem dX1_forgetDrawn_14 : decode cX1_forgetDrawn 14 = .ok (.iastore, 1) := by decide +kernel
theorem dX1_forgetDrawn_15 : decode cX1_forgetDrawn 15 = .ok (.iinc 1 1, 3) := by decide +kernel
theorem dX1_forgetDrawn_18 : decode cX1_forgetDrawn 18 = .ok (.goto (-16), 3) := by decide +kernel
theorem dX1_forgetDrawn_21 : decode cX1_forgetDrawn 21 = .ok (.return_, 1) := by decide +kernel
set_option maxHeartbeats 4000000 in
set_option maxRecDepth 100000 in
theorem c_X1_forgetDrawn {P : PP} {a : Nat} (ok : ∀ a, a ∈ pL P → xOk P a) (ha : a ∈ pL P) (haK : pK P a = 1) : CtrV yX1_forgetDrawn cX1_forgetDrawn 2 none ({ frames := 1, cells := 0, slots := 0, locals := 64 } : Room) 0 0 P [.ref a] (fun P2 => Kp [13] P P2) := by
  refine enV (lv := [(0, .ref a)]) (by decide) (Nat.le_of_ble_eq_true rfl) rfl (fun E D cy C Ci0 ret => ?_)
  refine g_iconst (v := 0) C dX1_forgetDrawn_0 (by decide) ?_
  refine g_istore_n (lv' := [(1, .int 0), (0, .ref a)]) C dX1_forgetDrawn_1 rfl (by decide) rfl ?_
  have lp167 : ∀ (n169 i162 : Nat), i162 + n169 = 60 → ∀ (I163 : Nat → Nat → Int32), (Kp [13] P (pWI P I163 (pJ P))) → G E ({ frames := 1, cells := 0, slots := 0, locals := 64 } : Room) D cy 2 (pWI P I163 (pJ P)) 0 0 2 [(1, .int (nI i162)), (0, .ref a)] [] := by
    intro n169
    induction n169 with
    | zero =>
      intro i162 hi164 I163 hv165
      have ei166 : (nI i162).toInt = (i162 : Int) := ti_nI (by omega)
      refine g_iload_n C dX1_forgetDrawn_2 rfl 0 rfl ?_
      refine g_bipush (v := 60) C dX1_forgetDrawn_3 (by decide) ?_
      refine b_icmp_ge C 21 dX1_forgetDrawn_5 (by decide) (fun h170 => ?_) (fun h170 => ?_)
      · have h170 : 60 ≤ (nI i162).toInt := h170
        exact ret _ _ _ _ _ dX1_forgetDrawn_21 (by decide) (by decide) (hv165)
      · have h170 : (nI i162).toInt < 60 := h170
        omega
    | succ n169 ih168 =>
      intro i162 hi164 I163 hv165
      have ei166 : (nI i162).toInt = (i162 : Int) := ti_nI (by omega)
      refine g_iload_n C dX1_forgetDrawn_2 rfl 0 rfl ?_
      refine g_bipush (v := 60) C dX1_forgetDrawn_3 (by decide) ?_
      refine b_icmp_ge C 21 dX1_forgetDrawn_5 (by decide) (fun h171 => ?_) (fun h171 => ?_)
      · have h171 : 60 ≤ (nI i162).toInt := h171
        omega
      · have h171 : (nI i162).toInt < 60 := h171
        refine g_aload_n C dX1_forgetDrawn_8 rfl 1 rfl ?_
        obtain ⟨b172, h173⟩ := xFd.at (ok a ha) haK 3 13 60 rfl
        refine g_getR C fi_X1_22 rfl h173.1 ha haK dX1_forgetDrawn_9 ?_
        refine g_iload_n C dX1_forgetDrawn_12 rfl 0 rfl ?_
        refine g_iconst (v := 0) C dX1_forgetDrawn_13 (by decide) ?_
        refine g_iast (j := i162) C h173.2.1 h173.2.2.1 (IX.inn h173.2.2.2 (by omega) (by decide)) dX1_forgetDrawn_14 ?_
        have k174 := hv165.set (k := i162) (v := 0) (by rw [show pK P b172 = 13 from h173.2.2.1]; decide)
        refine g_iinc (v := (nI (i162 + 1))) (lv' := [(1, .int (nI (i162 + 1))), (0, .ref a)]) C dX1_forgetDrawn_15 0 rfl (nI_1 _) (by decide) rfl ?_
        refine g_goto C 2 dX1_forgetDrawn_18 (by decide) ?_
        exact ih168 (i162 + 1) (by omega) _ (k174)
  exact lp167 60 0 rfl _ ((Kp.rf (ks := [13]) (P := P)))
theorem dX1_tell_0 : decode cX1_tell 0 = .ok (.aload_n 0, 1) := by decide +kernel
theorem dX1_tell_1 : decode cX1_tell 1 = .ok (.iconst 1, 1) := by decide +kernel
theorem dX1_tell_2 : decode cX1_tell 2 = .ok (.putfield 29, 3) := by decide +kernel
theorem dX1_tell_5 : decode cX1_tell 5 = .ok (.aload_n 0, 1) := by decide +kernel
theorem dX1_tell_6 : decode cX1_tell 6 = .ok (.iload_n 1, 1) := by decide +kernel
theorem dX1_tell_7 : decode cX1_tell 7 = .ok (.putfield 33, 3) := by decide +kernel
theorem dX1_tell_10 : decode cX1_tell 10 = .ok (.iconst 0, 1) := by decide +kernel
theorem dX1_tell_11 : decode cX1_tell 11 = .ok (.istore_n 2, 1) := by decide +kernel
theorem dX1_tell_12 : decode cX1_tell 12 = .ok (.iload_n 2, 1) := by decide +kernel
theorem dX1_tell_13 : decode cX1_tell 13 = .ok (.bipush 16, 2) := by decide +kernel
theorem dX1_tell_15 : decode cX1_tell 15 = .ok (.if_icmp .ge 16, 3) := by decide +kernel
theorem dX1_tell_18 : decode cX1_tell 18 = .ok (.aload_n 0, 1) := by decide +kernel
theorem dX1_tell_19 : decode cX1_tell 19 = .ok (.getfield 9, 3) := by decide +kernel
theorem dX1_tell_22 : decode cX1_tell 22 = .ok (.iload_n 2, 1) := by decide +kernel
theorem dX1_tell_23 : decode cX1_tell 23 = .ok (.iconst 0, 1) := by decide +kernel
theorem dX1_tell_24 : decode cX1_tell 24 = .ok (.iastore, 1) := by decide +kernel
theorem dX1_tell_25 : decode cX1_tell 25 = .ok (.iinc 2 1, 3) := by decide +kernel
theorem dX1_tell_28 : decode cX1_tell 28 = .ok (.goto (-16), 3) := by decide +kernel
theorem dX1_tell_31 : decode cX1_tell 31 = .ok (.aload_n 0, 1) := by decide +kernel
theorem dX1_tell_32 : decode cX1_tell 32 = .ok (.getfield 18, 3) := by decide +kernel
theorem dX1_tell_35 : decode cX1_tell 35 = .ok (.invokevirtual 36, 3) := by decide +kernel
theorem dX1_tell_38 : decode cX1_tell 38 = .ok (.aload_n 0, 1) := by decide +kernel
theorem dX1_tell_39 : decode cX1_tell 39 = .ok (.invokevirtual 39, 3) := by decide +kernel
theorem dX1_tell_42 : decode cX1_tell 42 = .ok (.return_, 1) := by decide +kernel
set_option maxHeartbeats 4000000 in
set_option maxRecDepth 100000 in
theorem c_X1_tell {P : PP} {a : Nat} {n : Int32} (ok : ∀ a, a ∈ pL P → xOk P a) (ha : a ∈ pL P) (haK : pK P a = 1) : CtrV yX1_tell cX1_tell 3 none ({ frames := 2, cells := 0, slots := 0, locals := 128 } : Room) 0 0 P [.ref a, .int n] (fun P2 => Kp [1, 3, 13] P P2) := by
  refine enV (lv := [(0, .ref a), (1, .int n)]) (by decide) (Nat.le_of_ble_eq_true rfl) rfl (fun E D cy C Ci0 ret => ?_)
  refine g_aload_n C dX1_tell_0 rfl 0 rfl ?_
  refine g_iconst (v := 1) C dX1_tell_1 (by decide) ?_
  refine g_putZ C fi_X1_29 rfl (Or.inr rfl) ha haK dX1_tell_2 ?_
  have k175 := (Kp.rf (ks := [1, 3, 13]) (P := P)).set (k := 4) (v := 1) (by rw [show pK P a = 1 from haK]; decide)
  refine g_aload_n C dX1_tell_5 rfl 0 rfl ?_
  refine g_iload_n C dX1_tell_6 rfl 1 rfl ?_
  refine g_putI C fi_X1_33 rfl ha haK dX1_tell_7 ?_
  have k176 := k175.set (k := 5) (v := n) (by rw [show pK P a = 1 from haK]; decide)
  refine g_iconst (v := 0) C dX1_tell_10 (by decide) ?_
  refine g_istore_n (lv' := [(2, .int 0), (0, .ref a), (1, .int n)]) C dX1_tell_11 rfl (by decide) rfl ?_
  have lp182 : ∀ (n184 i177 : Nat), i177 + n184 = 16 → ∀ (I178 : Nat → Nat → Int32), (Kp [1, 3, 13] P (pWI P I178 (pJ P))) → G E ({ frames := 2, cells := 0, slots := 0, locals := 128 } : Room) D cy 3 (pWI P I178 (pJ P)) 0 0 12 [(2, .int (nI i177)), (0, .ref a), (1, .int n)] [] := by
    intro n184
    induction n184 with
    | zero =>
      intro i177 hi179 I178 hv180
      have ei181 : (nI i177).toInt = (i177 : Int) := ti_nI (by omega)
      refine g_iload_n C dX1_tell_12 rfl 0 rfl ?_
      refine g_bipush (v := 16) C dX1_tell_13 (by decide) ?_
      refine b_icmp_ge C 31 dX1_tell_15 (by decide) (fun h185 => ?_) (fun h185 => ?_)
      · have h185 : 16 ≤ (nI i177).toInt := h185
        refine g_aload_n C dX1_tell_31 rfl 1 rfl ?_
        obtain ⟨b186, h187⟩ := xFd.at (ok a ha) haK 2 3 0 rfl
        refine g_getR C fi_X1_18 rfl h187.1 ha haK dX1_tell_32 ?_
        refine g_callVV (rest := []) C mv_X1_36 [] (c_X3_clear ok h187.2.1 h187.2.2.1) h187.2.1 h187.2.2.1 rfl rfl (by decide) (by decide) (by decide) dX1_tell_35 (fun Q189 h190 => ?_)
        have k191 := hv180.tr h190 (by decide)
        obtain ⟨I192, rfl, -⟩ := h190
        refine g_aload_n C dX1_tell_38 rfl 1 rfl ?_
        refine g_callVV (rest := []) C mv_X1_39 [] (c_X1_forgetDrawn ok ha haK) ha haK rfl rfl (by decide) (by decide) (by decide) dX1_tell_39 (fun Q194 h195 => ?_)
        have k196 := k191.tr h195 (by decide)
        obtain ⟨I197, rfl, -⟩ := h195
        exact ret _ _ _ _ _ dX1_tell_42 (by decide) (by decide) (k196)
      · have h185 : (nI i177).toInt < 16 := h185
        omega
    | succ n184 ih183 =>
      intro i177 hi179 I178 hv180
      have ei181 : (nI i177).toInt = (i177 : Int) := ti_nI (by omega)
      refine g_iload_n C dX1_tell_12 rfl 0 rfl ?_
      refine g_bipush (v := 16) C dX1_tell_13 (by decide) ?_
      refine b_icmp_ge C 31 dX1_tell_15 (by decide) (fun h198 => ?_) (fun h198 => ?_)
      · have h198 : 16 ≤ (nI i177).toInt := h198
        omega
      · have h198 : (nI i177).toInt < 16 := h198
        refine g_aload_n C dX1_tell_18 rfl 1 rfl ?_
        obtain ⟨b199, h200⟩ := xFd.at (ok a ha) haK 1 13 16 rfl
        refine g_getR C fi_X1_9 rfl h200.1 ha haK dX1_tell_19 ?_
        refine g_iload_n C dX1_tell_22 rfl 0 rfl ?_
        refine g_iconst (v := 0) C dX1_tell_23 (by decide) ?_
        refine g_iast (j := i177) C h200.2.1 h200.2.2.1 (IX.inn h200.2.2.2 (by omega) (by decide)) dX1_tell_24 ?_
        have k201 := hv180.set (k := i177) (v := 0) (by rw [show pK P b199 = 13 from h200.2.2.1]; decide)
        refine g_iinc (v := (nI (i177 + 1))) (lv' := [(2, .int (nI (i177 + 1))), (0, .ref a), (1, .int n)]) C dX1_tell_25 0 rfl (nI_1 _) (by decide) rfl ?_
        refine g_goto C 12 dX1_tell_28 (by decide) ?_
        exact ih183 (i177 + 1) (by omega) _ (k201)
  exact lp182 16 0 rfl _ (k176)
theorem dX6_dropTouching_0 : decode cX6_dropTouching 0 = .ok (.iconst 0, 1) := by decide +kernel
theorem dX6_dropTouching_1 : decode cX6_dropTouching 1 = .ok (.istore_n 2, 1) := by decide +kernel
theorem dX6_dropTouching_2 : decode cX6_dropTouching 2 = .ok (.iconst 0, 1) := by decide +kernel
theorem dX6_dropTouching_3 : decode cX6_dropTouching 3 = .ok (.istore_n 3, 1) := by decide +kernel
theorem dX6_dropTouching_4 : decode cX6_dropTouching 4 = .ok (.iload_n 3, 1) := by decide +kernel
theorem dX6_dropTouching_5 : decode cX6_dropTouching 5 = .ok (.aload_n 0, 1) := by decide +kernel
theorem dX6_dropTouching_6 : decode cX6_dropTouching 6 = .ok (.getfield 17, 3) := by decide +kernel
theorem dX6_dropTouching_9 : decode cX6_dropTouching 9 = .ok (.if_icmp .ge 37, 3) := by decide +kernel
theorem dX6_dropTouching_46 : decode cX6_dropTouching 46 = .ok (.aload_n 0, 1) := by decide +kernel
theorem dX6_dropTouching_47 : decode cX6_dropTouching 47 = .ok (.iload_n 2, 1) := by decide +kernel
theorem dX6_dropTouching_48 : decode cX6_dropTouching 48 = .ok (.putfield 17, 3) := by decide +kernel
theorem dX6_dropTouching_51 : decode cX6_dropTouching 51 = .ok (.return_, 1) := by decide +kernel
set_option maxHeartbeats 4000000 in
set_option maxRecDepth 100000 in
theorem c_X6_dropTouching {P : PP} {a : Nat} {n : Int32} (ok : ∀ a, a ∈ pL P → xOk P a) (z6 : ∀ b, b ∈ pL P → pK P b = 6 → pI P b 1 = 0) (ha : a ∈ pL P) (haK : pK P a = 6) : CtrV yX6_dropTouching cX6_dropTouching 4 none ({ frames := 1, cells := 0, slots := 0, locals := 64 } : Room) 0 0 P [.ref a, .int n] (fun P2 => Z6 P P2) := by
  refine enV (lv := [(0, .ref a), (1, .int n)]) (by decide) (Nat.le_of_ble_eq_true rfl) rfl (fun E D cy C Ci0 ret => ?_)
  refine g_iconst (v := 0) C dX6_dropTouching_0 (by decide) ?_
  refine g_istore_n (lv' := [(2, .int 0), (0, .ref a), (1, .int n)]) C dX6_dropTouching_1 rfl (by decide) rfl ?_
  refine g_iconst (v := 0) C dX6_dropTouching_2 (by decide) ?_
  refine g_istore_n (lv' := [(3, .int 0), (2, .int 0), (0, .ref a), (1, .int n)]) C dX6_dropTouching_3 rfl (by decide) rfl ?_
  refine g_iload_n C dX6_dropTouching_4 rfl 0 rfl ?_
  refine g_aload_n C dX6_dropTouching_5 rfl 2 rfl ?_
  refine g_getI C fi_X6_17 (by decide) ha haK dX6_dropTouching_6 ?_
  rw [show pI P a 1 = 0 from z6 a ha haK]
  refine b_icmp_ge C 46 dX6_dropTouching_9 (by decide) (fun _ => ?_) (fun h => absurd h (by decide))
  refine g_aload_n C dX6_dropTouching_46 rfl 2 rfl ?_
  refine g_iload_n C dX6_dropTouching_47 rfl 1 rfl ?_
  refine g_putI C fi_X6_17 rfl ha haK dX6_dropTouching_48 ?_
  exact ret _ _ _ _ _ dX6_dropTouching_51 (by decide) (by decide) (⟨_, rfl, fun b hb hk => by by_cases e : b = a <;> simp [va_up, e, z6 b hb hk]⟩)
theorem dX6_copy_0 : decode cX6_copy 0 = .ok (.iconst 0, 1) := by decide +kernel
theorem dX6_copy_1 : decode cX6_copy 1 = .ok (.istore_n 2, 1) := by decide +kernel
theorem dX6_copy_2 : decode cX6_copy 2 = .ok (.iload_n 2, 1) := by decide +kernel
theorem dX6_copy_3 : decode cX6_copy 3 = .ok (.aload_n 1, 1) := by decide +kernel
theorem dX6_copy_4 : decode cX6_copy 4 = .ok (.getfield 17, 3) := by decide +kernel
theorem dX6_copy_7 : decode cX6_copy 7 = .ok (.if_icmp .ge 21, 3) := by decide +kernel
theorem dX6_copy_28 : decode cX6_copy 28 = .ok (.aload_n 0, 1) := by decide +kernel
theorem dX6_copy_29 : decode cX6_copy 29 = .ok (.aload_n 1, 1) := by decide +kernel
theorem dX6_copy_30 : decode cX6_copy 30 = .ok (.getfield 17, 3) := by decide +kernel
theorem dX6_copy_33 : decode cX6_copy 33 = .ok (.putfield 17, 3) := by decide +kernel
theorem dX6_copy_36 : decode cX6_copy 36 = .ok (.return_, 1) := by decide +kernel
set_option maxHeartbeats 4000000 in
set_option maxRecDepth 100000 in
theorem c_X6_copy {P : PP} {a : Nat} {o : Nat} (ok : ∀ a, a ∈ pL P → xOk P a) (z6 : ∀ b, b ∈ pL P → pK P b = 6 → pI P b 1 = 0) (ha : a ∈ pL P) (haK : pK P a = 6) (ho : o ∈ pL P) (hoK : pK P o = 6) : CtrV yX6_copy cX6_copy 3 none ({ frames := 1, cells := 0, slots := 0, locals := 64 } : Room) 0 0 P [.ref a, .ref o] (fun P2 => Z6 P P2) := by
  refine enV (lv := [(0, .ref a), (1, .ref o)]) (by decide) (Nat.le_of_ble_eq_true rfl) rfl (fun E D cy C Ci0 ret => ?_)
  refine g_iconst (v := 0) C dX6_copy_0 (by decide) ?_
  refine g_istore_n (lv' := [(2, .int 0), (0, .ref a), (1, .ref o)]) C dX6_copy_1 rfl (by decide) rfl ?_
  refine g_iload_n C dX6_copy_2 rfl 0 rfl ?_
  refine g_aload_n C dX6_copy_3 rfl 2 rfl ?_
  refine g_getI C fi_X6_17 (by decide) ho hoK dX6_copy_4 ?_
  rw [show pI P o 1 = 0 from z6 o ho hoK]
  refine b_icmp_ge C 28 dX6_copy_7 (by decide) (fun _ => ?_) (fun h => absurd h (by decide))
  refine g_aload_n C dX6_copy_28 rfl 1 rfl ?_
  refine g_aload_n C dX6_copy_29 rfl 2 rfl ?_
  refine g_getI C fi_X6_17 (by decide) ho hoK dX6_copy_30 ?_
  rw [show pI P o 1 = 0 from z6 o ho hoK]
  refine g_putI C fi_X6_17 rfl ha haK dX6_copy_33 ?_
  exact ret _ _ _ _ _ dX6_copy_36 (by decide) (by decide) (⟨_, rfl, fun b hb hk => by by_cases e : b = a <;> simp [va_up, e, z6 b hb hk]⟩)
