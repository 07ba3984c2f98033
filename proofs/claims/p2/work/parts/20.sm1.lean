theorem dX12_adds_0 : decode cX12_adds 0 = .ok (.aload_n 0, 1) := by decide +kernel
theorem dX12_adds_1 : decode cX12_adds 1 = .ok (.getfield 91, 3) := by decide +kernel
theorem dX12_adds_4 : decode cX12_adds 4 = .ok (.aload_n 0, 1) := by decide +kernel
theorem dX12_adds_5 : decode cX12_adds 5 = .ok (.getfield 305, 3) := by decide +kernel
theorem dX12_adds_8 : decode cX12_adds 8 = .ok (.iload_n 1, 1) := by decide +kernel
theorem dX12_adds_9 : decode cX12_adds 9 = .ok (.iastore, 1) := by decide +kernel
theorem dX12_adds_10 : decode cX12_adds 10 = .ok (.aload_n 0, 1) := by decide +kernel
theorem dX12_adds_11 : decode cX12_adds 11 = .ok (.getfield 94, 3) := by decide +kernel
theorem dX12_adds_14 : decode cX12_adds 14 = .ok (.aload_n 0, 1) := by decide +kernel
theorem dX12_adds_15 : decode cX12_adds 15 = .ok (.getfield 305, 3) := by decide +kernel
theorem dX12_adds_18 : decode cX12_adds 18 = .ok (.iload_n 2, 1) := by decide +kernel
theorem dX12_adds_19 : decode cX12_adds 19 = .ok (.iastore, 1) := by decide +kernel
theorem dX12_adds_20 : decode cX12_adds 20 = .ok (.aload_n 0, 1) := by decide +kernel
theorem dX12_adds_21 : decode cX12_adds 21 = .ok (.getfield 97, 3) := by decide +kernel
theorem dX12_adds_24 : decode cX12_adds 24 = .ok (.aload_n 0, 1) := by decide +kernel
theorem dX12_adds_25 : decode cX12_adds 25 = .ok (.getfield 305, 3) := by decide +kernel
theorem dX12_adds_28 : decode cX12_adds 28 = .ok (.iload_n 3, 1) := by decide +kernel
theorem dX12_adds_29 : decode cX12_adds 29 = .ok (.iastore, 1) := by decide +kernel
theorem dX12_adds_30 : decode cX12_adds 30 = .ok (.aload_n 0, 1) := by decide +kernel
theorem dX12_adds_31 : decode cX12_adds 31 = .ok (.dup, 1) := by decide +kernel
theorem dX12_adds_32 : decode cX12_adds 32 = .ok (.getfield 305, 3) := by decide +kernel
theorem dX12_adds_35 : decode cX12_adds 35 = .ok (.iconst 1, 1) := by decide +kernel
theorem dX12_adds_36 : decode cX12_adds 36 = .ok (.iadd, 1) := by decide +kernel
theorem dX12_adds_37 : decode cX12_adds 37 = .ok (.putfield 305, 3) := by decide +kernel
theorem dX12_adds_40 : decode cX12_adds 40 = .ok (.return_, 1) := by decide +kernel
set_option maxHeartbeats 4000000 in
set_option maxRecDepth 100000 in
theorem s_X12_adds {P : PP} {a0 : Nat} {a1 : Int32} {a2 : Int32} {a3 : Int32} (I : IM P a0) (hp0_28 : 0 ≤ (pI P a0 28).toInt ∧ (pI P a0 28).toInt ≤ 63) (hW : MW P a0) : CtrV yX12_adds cX12_adds 4 none ({ frames := 1, cells := 0, slots := 0, locals := 64 } : Room) 0 0 P [.ref a0, .int a1, .int a2, .int a3] (fun P2 => IM P2 a0 ∧ EM [28, 29, 30, 31] a0 P P2 ∧ MW P2 a0 ∧ ((pI P2 a0 28).toInt = (pI P a0 28).toInt + 1)) := by
  refine enV (lv := [(0, .ref a0), (1, .int a1), (2, .int a2), (3, .int a3)]) (by decide) (Nat.le_of_ble_eq_true rfl) rfl (fun E D cy C Ci0 ret => ?_)
  have ha0 := I.2.1
  refine g_aload_n C dX12_adds_0 rfl 0 rfl ?_
  obtain ⟨b43, e44, h45⟩ := I.fld (ha0) 29 13 64 rfl
  refine g_getR C fi_X12_91 rfl e44 (ha0).1 (ha0).2 dX12_adds_1 ?_
  refine g_aload_n C dX12_adds_4 rfl 0 rfl ?_
  refine g_getI C fi_X12_305 (by decide) (ha0).1 (ha0).2 dX12_adds_5 ?_
  refine g_iload_n C dX12_adds_8 rfl 1 rfl ?_
  refine g_iast (j := ((pI P a0 28).toInt.toNat)) C h45.1 h45.2.1 (ix_in h45.2.2 (by omega)) dX12_adds_9 ?_
  refine gqW (ks := [29]) (I.setA e44 h45 (by decide) (arOk.none rfl)) (EM.setA I e44 rfl (by decide)) (fun Y46 Iy47 Xy48 w49 => ?_)
  have w49 : (pI Y46 b43 ((pI P a0 28).toInt.toNat)).toInt = a1.toInt := w49
  have q50 := Xy48.keepF 28 (by decide)
  have W51 := hW.keep I Xy48 (by decide) (by decide) (by decide)
  have Xz52 : EM [28, 29, 30, 31] a0 P Y46 := Xy48.mono (by decide)
  have h53 := Xy48.at ha0
  refine g_aload_n C dX12_adds_10 rfl 0 rfl ?_
  obtain ⟨b54, e55, h56⟩ := Iy47.fld (h53) 30 13 64 rfl
  refine g_getR C fi_X12_94 rfl e55 (h53).1 (h53).2 dX12_adds_11 ?_
  refine g_aload_n C dX12_adds_14 rfl 0 rfl ?_
  refine g_getI C fi_X12_305 (by decide) (h53).1 (h53).2 dX12_adds_15 ?_
  refine g_iload_n C dX12_adds_18 rfl 2 rfl ?_
  refine g_iast (j := ((pI Y46 a0 28).toInt.toNat)) C h56.1 h56.2.1 (ix_in h56.2.2 (by omega)) dX12_adds_19 ?_
  refine gqW (ks := [30]) (Iy47.setA e55 h56 (by decide) (arOk.none rfl)) (EM.setA Iy47 e55 rfl (by decide)) (fun Y57 Iy58 Xy59 w60 => ?_)
  have w60 : (pI Y57 b54 ((pI Y46 a0 28).toInt.toNat)).toInt = a2.toInt := w60
  have q61 := Xy59.keepF 28 (by decide)
  have W62 := W51.keep Iy47 Xy59 (by decide) (by decide) (by decide)
  have Xz63 : EM [28, 29, 30, 31] a0 P Y57 := EM.tr ha0 Xz52 (Xy59.mono (by decide))
  have h64 := Xy59.at h53
  refine g_aload_n C dX12_adds_20 rfl 0 rfl ?_
  obtain ⟨b65, e66, h67⟩ := Iy58.fld (h64) 31 13 64 rfl
  refine g_getR C fi_X12_97 rfl e66 (h64).1 (h64).2 dX12_adds_21 ?_
  refine g_aload_n C dX12_adds_24 rfl 0 rfl ?_
  refine g_getI C fi_X12_305 (by decide) (h64).1 (h64).2 dX12_adds_25 ?_
  refine g_iload_n C dX12_adds_28 rfl 3 rfl ?_
  refine g_iast (j := ((pI Y57 a0 28).toInt.toNat)) C h67.1 h67.2.1 (ix_in h67.2.2 (by omega)) dX12_adds_29 ?_
  refine gqW (ks := [31]) (Iy58.setA e66 h67 (by decide) (arOk.none rfl)) (EM.setA Iy58 e66 rfl (by decide)) (fun Y68 Iy69 Xy70 w71 => ?_)
  have w71 : (pI Y68 b65 ((pI Y57 a0 28).toInt.toNat)).toInt = a3.toInt := w71
  have q72 := Xy70.keepF 28 (by decide)
  have W73 := W62.keep Iy58 Xy70 (by decide) (by decide) (by decide)
  have Xz74 : EM [28, 29, 30, 31] a0 P Y68 := EM.tr ha0 Xz63 (Xy70.mono (by decide))
  have h75 := Xy70.at h64
  refine g_aload_n C dX12_adds_30 rfl 0 rfl ?_
  refine g_dup C dX12_adds_31 rfl ?_
  refine g_getI C fi_X12_305 (by decide) (h75).1 (h75).2 dX12_adds_32 ?_
  refine g_iconst (v := 1) C dX12_adds_35 (by decide) ?_
  refine s_iadd C dX12_adds_36 (by show -2147483648 ≤ (pI Y68 a0 28).toInt + 1 ∧ (pI Y68 a0 28).toInt + 1 ≤ 2147483647; omega) (fun z76 h77 => ?_)
  have h77 : z76.toInt = (pI Y68 a0 28).toInt + 1 := h77
  refine g_putI C fi_X12_305 rfl (h75).1 (h75).2 dX12_adds_37 ?_
  refine gqW (ks := [28]) (Iy69.setI (rgOk.of rfl (by omega))) (EM.setI Iy69 (by decide)) (fun Y78 Iy79 Xy80 w81 => ?_)
  have w81 : (pI Y78 a0 28).toInt = z76.toInt := w81
  have W82 := W73.keep Iy69 Xy80 (by decide) (by decide) (by decide)
  have Xz83 : EM [28, 29, 30, 31] a0 P Y78 := EM.tr ha0 Xz74 (Xy80.mono (by decide))
  have h84 := Xy80.at h75
  exact ret _ _ _ _ _ dX12_adds_40 (by decide) (by decide) ⟨Iy79, Xz83, W82, (by show (pI Y78 a0 28).toInt = (pI P a0 28).toInt + 1; omega)⟩
theorem s_X12_agreesBy {P : PP} {a0 : Nat} {a1 a2 a3 : Int32} (I : IM P a0) (ha1 : 0 ≤ a1.toInt ∧ a1.toInt ≤ 3) (ha2 : 0 ≤ a2.toInt ∧ a2.toInt ≤ 1) (hf0 : ∀ b, pR P a0 10 = some b → 1 ≤ (pI P b (a2.toInt.toNat)).toInt ∧ (pI P b (a2.toInt.toNat)).toInt ≤ 16) (hW : MW P a0) : CtrI yX12_agreesBy cX12_agreesBy 8 (some .boolean) ({ frames := 7, cells := 0, slots := 0, locals := 448 } : Room) 0 0 P [.ref a0, .int a1, .int a2, .int a3] (fun r P2 => IM P2 a0 ∧ EM [28, 29, 30, 31, 35, 36, 37, 38] a0 P P2 ∧ MW P2 a0 ∧ (0 ≤ r.toInt ∧ r.toInt ≤ 1)) := by
  sorry
theorem dX12_allHouses_0 : decode cX12_allHouses 0 = .ok (.iconst 0, 1) := by decide +kernel
theorem dX12_allHouses_1 : decode cX12_allHouses 1 = .ok (.istore_n 1, 1) := by decide +kernel
theorem dX12_allHouses_2 : decode cX12_allHouses 2 = .ok (.iconst 0, 1) := by decide +kernel
theorem dX12_allHouses_3 : decode cX12_allHouses 3 = .ok (.istore_n 2, 1) := by decide +kernel
theorem dX12_allHouses_4 : decode cX12_allHouses 4 = .ok (.iload_n 2, 1) := by decide +kernel
theorem dX12_allHouses_5 : decode cX12_allHouses 5 = .ok (.iconst 4, 1) := by decide +kernel
theorem dX12_allHouses_6 : decode cX12_allHouses 6 = .ok (.if_icmp .ge 18, 3) := by decide +kernel
theorem dX12_allHouses_9 : decode cX12_allHouses 9 = .ok (.iload_n 1, 1) := by decide +kernel
theorem dX12_allHouses_10 : decode cX12_allHouses 10 = .ok (.aload_n 0, 1) := by decide +kernel
theorem dX12_allHouses_11 : decode cX12_allHouses 11 = .ok (.getfield 130, 3) := by decide +kernel
theorem dX12_allHouses_14 : decode cX12_allHouses 14 = .ok (.iload_n 2, 1) := by decide +kernel
theorem dX12_allHouses_15 : decode cX12_allHouses 15 = .ok (.iaload, 1) := by decide +kernel
theorem dX12_allHouses_16 : decode cX12_allHouses 16 = .ok (.iadd, 1) := by decide +kernel
theorem dX12_allHouses_17 : decode cX12_allHouses 17 = .ok (.istore_n 1, 1) := by decide +kernel
theorem dX12_allHouses_18 : decode cX12_allHouses 18 = .ok (.iinc 2 1, 3) := by decide +kernel
theorem dX12_allHouses_21 : decode cX12_allHouses 21 = .ok (.goto (-17), 3) := by decide +kernel
theorem dX12_allHouses_24 : decode cX12_allHouses 24 = .ok (.iload_n 1, 1) := by decide +kernel
theorem dX12_allHouses_25 : decode cX12_allHouses 25 = .ok (.ireturn, 1) := by decide +kernel
set_option maxHeartbeats 4000000 in
set_option maxRecDepth 100000 in
theorem s_X12_allHouses {P : PP} {a0 : Nat} (I : IM P a0) (hW : MW P a0) : CtrI yX12_allHouses cX12_allHouses 3 (some Jvm.ClassFile.FieldType.int) ({ frames := 1, cells := 0, slots := 0, locals := 64 } : Room) 0 0 P [.ref a0] (fun r P2 => P = P2 ∧ (True)) := by
  refine enI (lv := [(0, .ref a0)]) (by decide) (Nat.le_of_ble_eq_true rfl) rfl (fun E D cy C Ci0 ret => ?_)
  have ha0 := I.2.1
  have J4 : ∀ (n4 : Nat) (v4_1 : Int32) (v4_2 : Int32), (4 - v4_2.toInt).toNat < n4 → (0 ≤ v4_2.toInt ∧ v4_2.toInt ≤ 4) → G E ({ frames := 1, cells := 0, slots := 0, locals := 64 } : Room) D cy 3 P 0 0 4 [(0, .ref a0), (1, .int v4_1), (2, .int v4_2)] [] := by
    intro n4
    induction n4 with
    | zero => intro v4_1 v4_2 hm4 hv4_2; omega
    | succ n4 ih4 =>
      intro v4_1 v4_2 hm4 hv4_2
      refine g_iload_n C dX12_allHouses_4 rfl 2 rfl ?_
      refine g_iconst (v := 4) C dX12_allHouses_5 (by decide) ?_
      refine b_icmp_ge C 24 dX12_allHouses_6 (by decide) (fun h125 => ?_) (fun h125 => ?_)
      · have h125 : 4 ≤ v4_2.toInt := h125
        refine g_iload_n C dX12_allHouses_24 rfl 1 rfl ?_
        exact ret _ _ _ _ _ _ dX12_allHouses_25 rfl (by decide) (by decide) ⟨rfl, trivial⟩
      · have h125 : v4_2.toInt < 4 := h125
        refine g_iload_n C dX12_allHouses_9 rfl 1 rfl ?_
        refine g_aload_n C dX12_allHouses_10 rfl 0 rfl ?_
        obtain ⟨b126, e127, h128⟩ := I.fld (ha0) 46 13 4 rfl
        refine g_getR C fi_X12_130 rfl e127 (ha0).1 (ha0).2 dX12_allHouses_11 ?_
        refine g_iload_n C dX12_allHouses_14 rfl 2 rfl ?_
        refine g_iald (j := (v4_2.toInt.toNat)) C h128.1 h128.2.1 (ix_in h128.2.2 (by omega)) dX12_allHouses_15 ?_
        refine a_iadd C dX12_allHouses_16 (fun z129 => ?_)
        refine g_istore_n (lv' := [(1, .int z129), (0, .ref a0), (2, .int v4_2)]) C dX12_allHouses_17 rfl (by decide) rfl ?_
        refine s_iinc (lv0 := [(1, .int z129), (0, .ref a0)]) (m := 1) C dX12_allHouses_18 2 rfl (by decide) rfl (by decide) (by omega) (fun z131 h132 => ?_)
        have h132 : z131.toInt = v4_2.toInt + 1 := h132
        refine g_goto C 4 dX12_allHouses_21 (by decide) ?_
        refine g_lv (lv' := [(0, .ref a0), (1, .int z129), (2, .int z131)]) [2, 1, 0] rfl ?_
        exact ih4 z129 z131 (by omega) (by omega)
  refine g_iconst (v := 0) C dX12_allHouses_0 (by decide) ?_
  refine g_istore_n (lv' := [(1, .int 0), (0, .ref a0)]) C dX12_allHouses_1 rfl (by decide) rfl ?_
  refine g_iconst (v := 0) C dX12_allHouses_2 (by decide) ?_
  refine g_istore_n (lv' := [(2, .int 0), (1, .int 0), (0, .ref a0)]) C dX12_allHouses_3 rfl (by decide) rfl ?_
  refine g_lv (lv' := [(0, .ref a0), (1, .int 0), (2, .int 0)]) [2, 1, 0] rfl ?_
  exact J4 _ 0 0 (Nat.lt_succ_self _) (by decide)
theorem dX12_allOf_0 : decode cX12_allOf 0 = .ok (.aload_n 0, 1) := by decide +kernel
theorem dX12_allOf_1 : decode cX12_allOf 1 = .ok (.getfield 45, 3) := by decide +kernel
theorem dX12_allOf_4 : decode cX12_allOf 4 = .ok (.iload_n 1, 1) := by decide +kernel
theorem dX12_allOf_5 : decode cX12_allOf 5 = .ok (.iaload, 1) := by decide +kernel
theorem dX12_allOf_6 : decode cX12_allOf 6 = .ok (.ifCond .ne 7, 3) := by decide +kernel
theorem dX12_allOf_9 : decode cX12_allOf 9 = .ok (.iconst 0, 1) := by decide +kernel
theorem dX12_allOf_10 : decode cX12_allOf 10 = .ok (.goto 16, 3) := by decide +kernel
theorem dX12_allOf_13 : decode cX12_allOf 13 = .ok (.aload_n 0, 1) := by decide +kernel
theorem dX12_allOf_14 : decode cX12_allOf 14 = .ok (.getfield 45, 3) := by decide +kernel
theorem dX12_allOf_17 : decode cX12_allOf 17 = .ok (.iload_n 1, 1) := by decide +kernel
theorem dX12_allOf_18 : decode cX12_allOf 18 = .ok (.iaload, 1) := by decide +kernel
theorem dX12_allOf_19 : decode cX12_allOf 19 = .ok (.aload_n 0, 1) := by decide +kernel
theorem dX12_allOf_20 : decode cX12_allOf 20 = .ok (.getfield 60, 3) := by decide +kernel
theorem dX12_allOf_23 : decode cX12_allOf 23 = .ok (.iload_n 1, 1) := by decide +kernel
theorem dX12_allOf_24 : decode cX12_allOf 24 = .ok (.iaload, 1) := by decide +kernel
theorem dX12_allOf_25 : decode cX12_allOf 25 = .ok (.iadd, 1) := by decide +kernel
theorem dX12_allOf_26 : decode cX12_allOf 26 = .ok (.ireturn, 1) := by decide +kernel
set_option maxHeartbeats 4000000 in
set_option maxRecDepth 100000 in
theorem s_X12_allOf {P : PP} {a0 : Nat} {a1 : Int32} (I : IM P a0) (ha1 : 0 ≤ a1.toInt ∧ a1.toInt ≤ 1) (hW : MW P a0) : CtrI yX12_allOf cX12_allOf 2 (some Jvm.ClassFile.FieldType.int) ({ frames := 1, cells := 0, slots := 0, locals := 64 } : Room) 0 0 P [.ref a0, .int a1] (fun r P2 => P = P2 ∧ (0 ≤ r.toInt ∧ r.toInt ≤ 20) ∧ (∀ b c, pR P2 a0 10 = some b → pR P2 a0 15 = some c → (r.toInt = 0 ∧ (pI P2 b (a1.toInt.toNat)).toInt = 0) ∨ r.toInt = (pI P2 b (a1.toInt.toNat)).toInt + (pI P2 c (a1.toInt.toNat)).toInt)) := by
  refine enI (lv := [(0, .ref a0), (1, .int a1)]) (by decide) (Nat.le_of_ble_eq_true rfl) rfl (fun E D cy C Ci0 ret => ?_)
  have ha0 := I.2.1
  refine g_aload_n C dX12_allOf_0 rfl 0 rfl ?_
  obtain ⟨b144, e145, h146⟩ := I.fld (ha0) 10 13 2 rfl
  refine g_getR C fi_X12_45 rfl e145 (ha0).1 (ha0).2 dX12_allOf_1 ?_
  refine g_iload_n C dX12_allOf_4 rfl 1 rfl ?_
  refine g_iald (j := (a1.toInt.toNat)) C h146.1 h146.2.1 (ix_in h146.2.2 (by omega)) dX12_allOf_5 ?_
  have h147 := I.arr e145 rfl (a1.toInt.toNat)
  refine b_if_ne C 13 dX12_allOf_6 (by decide) (fun h148 => ?_) (fun h148 => ?_)
  · have h148 : (pI P b144 (a1.toInt.toNat)).toInt ≠ 0 := ti_ne h148
    refine g_aload_n C dX12_allOf_13 rfl 0 rfl ?_
    refine g_getR C fi_X12_45 rfl e145 (ha0).1 (ha0).2 dX12_allOf_14 ?_
    refine g_iload_n C dX12_allOf_17 rfl 1 rfl ?_
    refine g_iald (j := (a1.toInt.toNat)) C h146.1 h146.2.1 (ix_in h146.2.2 (by omega)) dX12_allOf_18 ?_
    refine g_aload_n C dX12_allOf_19 rfl 0 rfl ?_
    obtain ⟨b149, e150, h151⟩ := I.fld (ha0) 15 13 3 rfl
    refine g_getR C fi_X12_60 rfl e150 (ha0).1 (ha0).2 dX12_allOf_20 ?_
    refine g_iload_n C dX12_allOf_23 rfl 1 rfl ?_
    refine g_iald (j := (a1.toInt.toNat)) C h151.1 h151.2.1 (ix_in h151.2.2 (by omega)) dX12_allOf_24 ?_
    have h152 := I.arr e150 rfl (a1.toInt.toNat)
    refine s_iadd C dX12_allOf_25 (by show -2147483648 ≤ (pI P b144 (a1.toInt.toNat)).toInt + (pI P b149 (a1.toInt.toNat)).toInt ∧ (pI P b144 (a1.toInt.toNat)).toInt + (pI P b149 (a1.toInt.toNat)).toInt ≤ 2147483647; omega) (fun z153 h154 => ?_)
    have h154 : z153.toInt = (pI P b144 (a1.toInt.toNat)).toInt + (pI P b149 (a1.toInt.toNat)).toInt := h154
    exact ret _ _ _ _ _ _ dX12_allOf_26 rfl (by decide) (by decide) ⟨rfl, (by omega), (fun b9 c9 e9 f9 => by rw [e145] at e9; cases e9; rw [e150] at f9; cases f9; show (z153.toInt = 0 ∧ (pI P b144 (a1.toInt.toNat)).toInt = 0) ∨ z153.toInt = (pI P b144 (a1.toInt.toNat)).toInt + (pI P b149 (a1.toInt.toNat)).toInt; omega)⟩
  · have h148 : (pI P b144 (a1.toInt.toNat)).toInt = 0 := congrArg Int32.toInt h148
    refine g_iconst (v := 0) C dX12_allOf_9 (by decide) ?_
    refine g_goto C 26 dX12_allOf_10 (by decide) ?_
    obtain ⟨b155, e156, h157⟩ := I.fld (ha0) 15 13 3 rfl
    exact ret _ _ _ _ _ _ dX12_allOf_26 rfl (by decide) (by decide) ⟨rfl, (by decide), (fun b9 c9 e9 f9 => by rw [e145] at e9; cases e9; rw [e156] at f9; cases f9; show ((0 : Int) = 0 ∧ (pI P b144 (a1.toInt.toNat)).toInt = 0) ∨ (0 : Int) = (pI P b144 (a1.toInt.toNat)).toInt + (pI P b155 (a1.toInt.toNat)).toInt; omega)⟩
theorem dX12_apart_0 : decode cX12_apart 0 = .ok (.aload_n 0, 1) := by decide +kernel
theorem dX12_apart_1 : decode cX12_apart 1 = .ok (.iconst 0, 1) := by decide +kernel
theorem dX12_apart_2 : decode cX12_apart 2 = .ok (.putfield 1, 3) := by decide +kernel
theorem dX12_apart_5 : decode cX12_apart 5 = .ok (.aload_n 0, 1) := by decide +kernel
theorem dX12_apart_6 : decode cX12_apart 6 = .ok (.iload_n 1, 1) := by decide +kernel
theorem dX12_apart_7 : decode cX12_apart 7 = .ok (.iload_n 2, 1) := by decide +kernel
theorem dX12_apart_8 : decode cX12_apart 8 = .ok (.invokevirtual 298, 3) := by decide +kernel
theorem dX12_isPaper_0 : decode cX12_isPaper 0 = .ok (.iload_n 1, 1) := by decide +kernel
theorem dX12_isPaper_1 : decode cX12_isPaper 1 = .ok (.invokestatic 278, 3) := by decide +kernel
theorem dX12_isQuarter_0 : decode cX12_isQuarter 0 = .ok (.iload_n 0, 1) := by decide +kernel
theorem dX12_isQuarter_1 : decode cX12_isQuarter 1 = .ok (.iconst 0, 1) := by decide +kernel
theorem dX12_isQuarter_2 : decode cX12_isQuarter 2 = .ok (.iconst 3, 1) := by decide +kernel
theorem dX12_isQuarter_3 : decode cX12_isQuarter 3 = .ok (.invokestatic 178, 3) := by decide +kernel
theorem dX12_within_0 : decode cX12_within 0 = .ok (.iload_n 0, 1) := by decide +kernel
theorem dX12_within_1 : decode cX12_within 1 = .ok (.iload_n 1, 1) := by decide +kernel
theorem dX12_within_2 : decode cX12_within 2 = .ok (.if_icmp .lt 12, 3) := by decide +kernel
theorem dX12_within_5 : decode cX12_within 5 = .ok (.iload_n 0, 1) := by decide +kernel
theorem dX12_within_6 : decode cX12_within 6 = .ok (.iload_n 2, 1) := by decide +kernel
theorem dX12_within_7 : decode cX12_within 7 = .ok (.if_icmp .gt 7, 3) := by decide +kernel
theorem dX12_within_10 : decode cX12_within 10 = .ok (.iconst 1, 1) := by decide +kernel
theorem dX12_within_11 : decode cX12_within 11 = .ok (.goto 4, 3) := by decide +kernel
theorem dX12_within_14 : decode cX12_within 14 = .ok (.iconst 0, 1) := by decide +kernel
theorem dX12_within_15 : decode cX12_within 15 = .ok (.ireturn, 1) := by decide +kernel
set_option maxHeartbeats 4000000 in
set_option maxRecDepth 100000 in
theorem s_X12_within {P : PP} {a0 : Int32} {a1 : Int32} {a2 : Int32} (I : IV P) : CtrI yX12_within cX12_within 3 (some Jvm.ClassFile.FieldType.boolean) ({ frames := 1, cells := 0, slots := 0, locals := 64 } : Room) 0 0 P [.int a0, .int a1, .int a2] (fun r P2 => P = P2 ∧ (0 ≤ r.toInt ∧ r.toInt ≤ 1) ∧ (r.toInt = 0 ∨ (a1.toInt ≤ a0.toInt ∧ a0.toInt ≤ a2.toInt))) := by
  refine enI (lv := [(0, .int a0), (1, .int a1), (2, .int a2)]) (by decide) (Nat.le_of_ble_eq_true rfl) rfl (fun E D cy C Ci0 ret => ?_)
  have J14 : G E ({ frames := 1, cells := 0, slots := 0, locals := 64 } : Room) D cy 3 P 0 0 14 [] [] := by
    refine g_iconst (v := 0) C dX12_within_14 (by decide) ?_
    exact ret _ _ _ _ _ _ dX12_within_15 rfl (by decide) (by decide) ⟨rfl, (by decide), Or.inl rfl⟩
  refine g_iload_n C dX12_within_0 rfl 0 rfl ?_
  refine g_iload_n C dX12_within_1 rfl 1 rfl ?_
  have u172 := ti_rng a0
  have u173 := ti_rng a1
  refine b_icmp_lt C 14 dX12_within_2 (by decide) (fun h171 => ?_) (fun h171 => ?_)
  · have h171 : a0.toInt < a1.toInt := h171
    refine g_lv (lv' := []) [] rfl ?_
    exact J14 
  · have h171 : a1.toInt ≤ a0.toInt := h171
    refine g_iload_n C dX12_within_5 rfl 0 rfl ?_
    refine g_iload_n C dX12_within_6 rfl 2 rfl ?_
    have u175 := ti_rng a0
    have u176 := ti_rng a2
    refine b_icmp_gt C 14 dX12_within_7 (by decide) (fun h174 => ?_) (fun h174 => ?_)
    · have h174 : a2.toInt < a0.toInt := h174
      refine g_lv (lv' := []) [] rfl ?_
      exact J14 
    · have h174 : a0.toInt ≤ a2.toInt := h174
      refine g_iconst (v := 1) C dX12_within_10 (by decide) ?_
      refine g_goto C 15 dX12_within_11 (by decide) ?_
      exact ret _ _ _ _ _ _ dX12_within_15 rfl (by decide) (by decide) ⟨rfl, (by decide), Or.inr (by omega)⟩
theorem dX12_isQuarter_6 : decode cX12_isQuarter 6 = .ok (.ireturn, 1) := by decide +kernel
set_option maxHeartbeats 4000000 in
set_option maxRecDepth 100000 in
theorem s_X12_isQuarter {P : PP} {a0 : Int32} (I : IV P) : CtrI yX12_isQuarter cX12_isQuarter 1 (some Jvm.ClassFile.FieldType.boolean) ({ frames := 2, cells := 0, slots := 0, locals := 128 } : Room) 0 0 P [.int a0] (fun r P2 => P = P2 ∧ (0 ≤ r.toInt ∧ r.toInt ≤ 1) ∧ (r.toInt = 0 ∨ (((0 : Int) ≤ a0.toInt ∧ a0.toInt ≤ (3 : Int))))) := by
  refine enI (lv := [(0, .int a0)]) (by decide) (Nat.le_of_ble_eq_true rfl) rfl (fun E D cy C Ci0 ret => ?_)
  refine g_iload_n C dX12_isQuarter_0 rfl 0 rfl ?_
  refine g_iconst (v := 0) C dX12_isQuarter_1 (by decide) ?_
  refine g_iconst (v := 3) C dX12_isQuarter_2 (by decide) ?_
  refine g_callSI (b := 0) (ci := 0) (rest := []) C ms_X12_178 [.int a0, .int 0, .int 3] (s_X12_within I) rfl rfl (by decide) (Nat.le_of_ble_eq_true rfl) (by decide) dX12_isQuarter_3 (fun r181 Y182 h183 => ?_)
  obtain ⟨rfl, h183⟩ := h183
  obtain ⟨h183, hi184⟩ := h183
  have hi184 : r181.toInt = 0 ∨ (0 ≤ a0.toInt ∧ a0.toInt ≤ 3) := hi184
  have h183 : 0 ≤ r181.toInt ∧ r181.toInt ≤ 1 := h183
  exact ret _ _ _ _ _ _ dX12_isQuarter_6 (nar_b (b01 (by omega))) (by decide) (by decide) ⟨rfl, (by omega), hi184.imp id (fun h9 => by omega)⟩
theorem dX12_isPaper_4 : decode cX12_isPaper 4 = .ok (.ifCond .eq 21, 3) := by decide +kernel
theorem dX12_isPaper_7 : decode cX12_isPaper 7 = .ok (.iload_n 2, 1) := by decide +kernel
theorem dX12_isPaper_8 : decode cX12_isPaper 8 = .ok (.ifCond .lt 17, 3) := by decide +kernel
theorem dX12_isPaper_11 : decode cX12_isPaper 11 = .ok (.iload_n 2, 1) := by decide +kernel
theorem dX12_isPaper_12 : decode cX12_isPaper 12 = .ok (.aload_n 0, 1) := by decide +kernel
theorem dX12_isPaper_13 : decode cX12_isPaper 13 = .ok (.getfield 69, 3) := by decide +kernel
theorem dX12_isPaper_16 : decode cX12_isPaper 16 = .ok (.iload_n 1, 1) := by decide +kernel
theorem dX12_isPaper_17 : decode cX12_isPaper 17 = .ok (.iaload, 1) := by decide +kernel
theorem dX12_isPaper_18 : decode cX12_isPaper 18 = .ok (.if_icmp .ge 7, 3) := by decide +kernel
theorem dX12_isPaper_21 : decode cX12_isPaper 21 = .ok (.iconst 1, 1) := by decide +kernel
theorem dX12_isPaper_22 : decode cX12_isPaper 22 = .ok (.goto 4, 3) := by decide +kernel
theorem dX12_isPaper_25 : decode cX12_isPaper 25 = .ok (.iconst 0, 1) := by decide +kernel
theorem dX12_isPaper_26 : decode cX12_isPaper 26 = .ok (.ireturn, 1) := by decide +kernel
set_option maxHeartbeats 4000000 in
set_option maxRecDepth 100000 in
theorem s_X12_isPaper {P : PP} {a0 : Nat} {a1 : Int32} {a2 : Int32} (I : IM P a0) (hW : MW P a0) : CtrI yX12_isPaper cX12_isPaper 3 (some Jvm.ClassFile.FieldType.boolean) ({ frames := 3, cells := 0, slots := 0, locals := 192 } : Room) 0 0 P [.ref a0, .int a1, .int a2] (fun r P2 => P = P2 ∧ (0 ≤ r.toInt ∧ r.toInt ≤ 1) ∧ (r.toInt = 0 ∨ (((0 : Int) ≤ a1.toInt ∧ a1.toInt ≤ (3 : Int)) ∧ ((0 : Int) ≤ a2.toInt ∧ a2.toInt ≤ (39 : Int)))) ∧ (r.toInt = 0 ∨ ∀ b, pR P2 a0 20 = some b → a2.toInt < (pI P2 b (a1.toInt.toNat)).toInt ∧ 0 ≤ a2.toInt)) := by
  refine enI (lv := [(0, .ref a0), (1, .int a1), (2, .int a2)]) (by decide) (Nat.le_of_ble_eq_true rfl) rfl (fun E D cy C Ci0 ret => ?_)
  have ha0 := I.2.1
  have J25 : G E ({ frames := 3, cells := 0, slots := 0, locals := 192 } : Room) D cy 3 P 0 0 25 [] [] := by
    refine g_iconst (v := 0) C dX12_isPaper_25 (by decide) ?_
    exact ret _ _ _ _ _ _ dX12_isPaper_26 rfl (by decide) (by decide) ⟨rfl, (by decide), Or.inl rfl, Or.inl rfl⟩
  refine g_iload_n C dX12_isPaper_0 rfl 1 rfl ?_
  refine g_callSI (b := 0) (ci := 0) (rest := []) C ms_X12_278 [.int a1] (s_X12_isQuarter I.1) rfl rfl (by decide) (Nat.le_of_ble_eq_true rfl) (by decide) dX12_isPaper_1 (fun r198 Y199 h200 => ?_)
  obtain ⟨rfl, h200⟩ := h200
  obtain ⟨h200, hi201⟩ := h200
  have hi201 : r198.toInt = 0 ∨ (((0 : Int) ≤ a1.toInt ∧ a1.toInt ≤ (3 : Int))) := hi201
  have h200 : 0 ≤ r198.toInt ∧ r198.toInt ≤ 1 := h200
  refine b_if_eq C 25 dX12_isPaper_4 (by decide) (fun h202 => ?_) (fun h202 => ?_)
  · have h202 : r198.toInt = 0 := congrArg Int32.toInt h202
    clear hi201
    refine g_lv (lv' := []) [] rfl ?_
    exact J25 
  · have h202 : r198.toInt ≠ 0 := ti_ne h202
    replace hi201 := hi201.resolve_left (by omega)
    refine g_iload_n C dX12_isPaper_7 rfl 2 rfl ?_
    have u204 := ti_rng a2
    refine b_if_lt C 25 dX12_isPaper_8 (by decide) (fun h203 => ?_) (fun h203 => ?_)
    · have h203 : a2.toInt < 0 := h203
      refine g_lv (lv' := []) [] rfl ?_
      exact J25 
    · have h203 : 0 ≤ a2.toInt := h203
      refine g_iload_n C dX12_isPaper_11 rfl 2 rfl ?_
      refine g_aload_n C dX12_isPaper_12 rfl 0 rfl ?_
      obtain ⟨b205, e206, h207⟩ := I.fld (ha0) 20 13 20 rfl
      refine g_getR C fi_X12_69 rfl e206 (ha0).1 (ha0).2 dX12_isPaper_13 ?_
      refine g_iload_n C dX12_isPaper_16 rfl 1 rfl ?_
      refine g_iald (j := (a1.toInt.toNat)) C h207.1 h207.2.1 (ix_in h207.2.2 (by omega)) dX12_isPaper_17 ?_
      have h208 := I.arr e206 rfl (a1.toInt.toNat)
      have u210 := ti_rng a2
      refine b_icmp_ge C 25 dX12_isPaper_18 (by decide) (fun h209 => ?_) (fun h209 => ?_)
      · have h209 : (pI P b205 (a1.toInt.toNat)).toInt ≤ a2.toInt := h209
        refine g_lv (lv' := []) [] rfl ?_
        exact J25 
      · have h209 : a2.toInt < (pI P b205 (a1.toInt.toNat)).toInt := h209
        refine g_iconst (v := 1) C dX12_isPaper_21 (by decide) ?_
        refine g_goto C 26 dX12_isPaper_22 (by decide) ?_
        exact ret _ _ _ _ _ _ dX12_isPaper_26 rfl (by decide) (by decide) ⟨rfl, (by decide), Or.inr (by omega), Or.inr (fun b9 e9 => by rw [e206] at e9; cases e9; show a2.toInt < (pI P b205 (a1.toInt.toNat)).toInt ∧ 0 ≤ a2.toInt; omega)⟩
theorem dX12_apart_11 : decode cX12_apart 11 = .ok (.ifCond .eq 33, 3) := by decide +kernel
theorem dX12_apart_14 : decode cX12_apart 14 = .ok (.aload_n 0, 1) := by decide +kernel
theorem dX12_apart_15 : decode cX12_apart 15 = .ok (.getfield 75, 3) := by decide +kernel
theorem dX12_apart_18 : decode cX12_apart 18 = .ok (.bipush 40, 2) := by decide +kernel
theorem dX12_apart_20 : decode cX12_apart 20 = .ok (.iload_n 1, 1) := by decide +kernel
theorem dX12_apart_21 : decode cX12_apart 21 = .ok (.imul, 1) := by decide +kernel
theorem dX12_apart_22 : decode cX12_apart 22 = .ok (.iload_n 2, 1) := by decide +kernel
theorem dX12_apart_23 : decode cX12_apart 23 = .ok (.iadd, 1) := by decide +kernel
theorem dX12_apart_24 : decode cX12_apart 24 = .ok (.iaload, 1) := by decide +kernel
theorem dX12_apart_25 : decode cX12_apart 25 = .ok (.ifCond .ge 19, 3) := by decide +kernel
theorem dX12_apart_28 : decode cX12_apart 28 = .ok (.aload_n 0, 1) := by decide +kernel
theorem dX12_apart_29 : decode cX12_apart 29 = .ok (.iconst 0, 1) := by decide +kernel
theorem dX12_apart_30 : decode cX12_apart 30 = .ok (.invokevirtual 192, 3) := by decide +kernel
theorem dX12_isBook_0 : decode cX12_isBook 0 = .ok (.iload_n 1, 1) := by decide +kernel
theorem dX12_isBook_1 : decode cX12_isBook 1 = .ok (.iconst 0, 1) := by decide +kernel
theorem dX12_isBook_2 : decode cX12_isBook 2 = .ok (.iconst 1, 1) := by decide +kernel
theorem dX12_isBook_3 : decode cX12_isBook 3 = .ok (.invokestatic 178, 3) := by decide +kernel
theorem dX12_isBook_6 : decode cX12_isBook 6 = .ok (.ifCond .eq 16, 3) := by decide +kernel
theorem dX12_isBook_9 : decode cX12_isBook 9 = .ok (.aload_n 0, 1) := by decide +kernel
theorem dX12_isBook_10 : decode cX12_isBook 10 = .ok (.getfield 45, 3) := by decide +kernel
theorem dX12_isBook_13 : decode cX12_isBook 13 = .ok (.iload_n 1, 1) := by decide +kernel
theorem dX12_isBook_14 : decode cX12_isBook 14 = .ok (.iaload, 1) := by decide +kernel
theorem dX12_isBook_15 : decode cX12_isBook 15 = .ok (.ifCond .le 7, 3) := by decide +kernel
theorem dX12_isBook_18 : decode cX12_isBook 18 = .ok (.iconst 1, 1) := by decide +kernel
theorem dX12_isBook_19 : decode cX12_isBook 19 = .ok (.goto 4, 3) := by decide +kernel
theorem dX12_isBook_22 : decode cX12_isBook 22 = .ok (.iconst 0, 1) := by decide +kernel
theorem dX12_isBook_23 : decode cX12_isBook 23 = .ok (.ireturn, 1) := by decide +kernel
set_option maxHeartbeats 4000000 in
set_option maxRecDepth 100000 in
theorem s_X12_isBook {P : PP} {a0 : Nat} {a1 : Int32} (I : IM P a0) (hW : MW P a0) : CtrI yX12_isBook cX12_isBook 2 (some Jvm.ClassFile.FieldType.boolean) ({ frames := 2, cells := 0, slots := 0, locals := 128 } : Room) 0 0 P [.ref a0, .int a1] (fun r P2 => P = P2 ∧ (0 ≤ r.toInt ∧ r.toInt ≤ 1) ∧ (r.toInt = 0 ∨ (((0 : Int) ≤ a1.toInt ∧ a1.toInt ≤ (1 : Int)))) ∧ (r.toInt = 0 ∨ ∀ b, pR P2 a0 10 = some b → 0 < (pI P2 b (a1.toInt.toNat)).toInt)) := by
  refine enI (lv := [(0, .ref a0), (1, .int a1)]) (by decide) (Nat.le_of_ble_eq_true rfl) rfl (fun E D cy C Ci0 ret => ?_)
  have ha0 := I.2.1
  have J22 : G E ({ frames := 2, cells := 0, slots := 0, locals := 128 } : Room) D cy 2 P 0 0 22 [] [] := by
    refine g_iconst (v := 0) C dX12_isBook_22 (by decide) ?_
    exact ret _ _ _ _ _ _ dX12_isBook_23 rfl (by decide) (by decide) ⟨rfl, (by decide), Or.inl rfl, Or.inl rfl⟩
  refine g_iload_n C dX12_isBook_0 rfl 1 rfl ?_
  refine g_iconst (v := 0) C dX12_isBook_1 (by decide) ?_
  refine g_iconst (v := 1) C dX12_isBook_2 (by decide) ?_
  refine g_callSI (b := 0) (ci := 0) (rest := []) C ms_X12_178 [.int a1, .int 0, .int 1] (s_X12_within I.1) rfl rfl (by decide) (Nat.le_of_ble_eq_true rfl) (by decide) dX12_isBook_3 (fun r247 Y248 h249 => ?_)
  obtain ⟨rfl, h249⟩ := h249
  obtain ⟨h249, hi250⟩ := h249
  have hi250 : r247.toInt = 0 ∨ (0 ≤ a1.toInt ∧ a1.toInt ≤ 1) := hi250
  have h249 : 0 ≤ r247.toInt ∧ r247.toInt ≤ 1 := h249
  refine b_if_eq C 22 dX12_isBook_6 (by decide) (fun h251 => ?_) (fun h251 => ?_)
  · have h251 : r247.toInt = 0 := congrArg Int32.toInt h251
    clear hi250
    refine g_lv (lv' := []) [] rfl ?_
    exact J22 
  · have h251 : r247.toInt ≠ 0 := ti_ne h251
    replace hi250 := hi250.resolve_left (by omega)
    refine g_aload_n C dX12_isBook_9 rfl 0 rfl ?_
    obtain ⟨b252, e253, h254⟩ := I.fld (ha0) 10 13 2 rfl
    refine g_getR C fi_X12_45 rfl e253 (ha0).1 (ha0).2 dX12_isBook_10 ?_
    refine g_iload_n C dX12_isBook_13 rfl 1 rfl ?_
    refine g_iald (j := (a1.toInt.toNat)) C h254.1 h254.2.1 (ix_in h254.2.2 (by omega)) dX12_isBook_14 ?_
    have h255 := I.arr e253 rfl (a1.toInt.toNat)
    refine b_if_le C 22 dX12_isBook_15 (by decide) (fun h256 => ?_) (fun h256 => ?_)
    · have h256 : (pI P b252 (a1.toInt.toNat)).toInt ≤ 0 := h256
      refine g_lv (lv' := []) [] rfl ?_
      exact J22 
    · have h256 : 0 < (pI P b252 (a1.toInt.toNat)).toInt := h256
      refine g_iconst (v := 1) C dX12_isBook_18 (by decide) ?_
      refine g_goto C 23 dX12_isBook_19 (by decide) ?_
      exact ret _ _ _ _ _ _ dX12_isBook_23 rfl (by decide) (by decide) ⟨rfl, (by decide), Or.inr (by omega), Or.inr (fun b9 e9 => by rw [e253] at e9; cases e9; show 0 < (pI P b252 (a1.toInt.toNat)).toInt; omega)⟩
theorem dX12_apart_33 : decode cX12_apart 33 = .ok (.ifCond .eq 11, 3) := by decide +kernel
theorem dX12_apart_36 : decode cX12_apart 36 = .ok (.aload_n 0, 1) := by decide +kernel
theorem dX12_apart_37 : decode cX12_apart 37 = .ok (.iconst 1, 1) := by decide +kernel
theorem dX12_apart_38 : decode cX12_apart 38 = .ok (.invokevirtual 192, 3) := by decide +kernel
theorem dX12_apart_41 : decode cX12_apart 41 = .ok (.ifCond .ne 5, 3) := by decide +kernel
theorem dX12_apart_46 : decode cX12_apart 46 = .ok (.aload_n 0, 1) := by decide +kernel
theorem dX12_apart_47 : decode cX12_apart 47 = .ok (.invokevirtual 336, 3) := by decide +kernel
theorem dX12_leavesNone_0 : decode cX12_leavesNone 0 = .ok (.iconst 0, 1) := by decide +kernel
theorem dX12_leavesNone_1 : decode cX12_leavesNone 1 = .ok (.istore_n 1, 1) := by decide +kernel
theorem dX12_leavesNone_2 : decode cX12_leavesNone 2 = .ok (.iload_n 1, 1) := by decide +kernel
theorem dX12_leavesNone_3 : decode cX12_leavesNone 3 = .ok (.bipush 40, 2) := by decide +kernel
theorem dX12_leavesNone_5 : decode cX12_leavesNone 5 = .ok (.if_icmp .ge 16, 3) := by decide +kernel
theorem dX12_leavesNone_8 : decode cX12_leavesNone 8 = .ok (.aload_n 0, 1) := by decide +kernel
theorem dX12_leavesNone_9 : decode cX12_leavesNone 9 = .ok (.getfield 100, 3) := by decide +kernel
theorem dX12_leavesNone_12 : decode cX12_leavesNone 12 = .ok (.iload_n 1, 1) := by decide +kernel
theorem dX12_leavesNone_13 : decode cX12_leavesNone 13 = .ok (.iconst 0, 1) := by decide +kernel
theorem dX12_leavesNone_14 : decode cX12_leavesNone 14 = .ok (.bastore, 1) := by decide +kernel
theorem dX12_leavesNone_15 : decode cX12_leavesNone 15 = .ok (.iinc 1 1, 3) := by decide +kernel
theorem dX12_leavesNone_18 : decode cX12_leavesNone 18 = .ok (.goto (-16), 3) := by decide +kernel
theorem dX12_leavesNone_21 : decode cX12_leavesNone 21 = .ok (.return_, 1) := by decide +kernel
set_option maxHeartbeats 4000000 in
set_option maxRecDepth 100000 in
theorem s_X12_leavesNone {P : PP} {a0 : Nat} (I : IM P a0) (hW : MW P a0) : CtrV yX12_leavesNone cX12_leavesNone 2 none ({ frames := 1, cells := 0, slots := 0, locals := 64 } : Room) 0 0 P [.ref a0] (fun P2 => IM P2 a0 ∧ EM [32] a0 P P2 ∧ MW P2 a0) := by
  refine enV (lv := [(0, .ref a0)]) (by decide) (Nat.le_of_ble_eq_true rfl) rfl (fun E D cy C Ci0 ret => ?_)
  have ha0 := I.2.1
  have J2 : ∀ (n2 : Nat) (P2 : PP) (v2_1 : Int32), (40 - v2_1.toInt).toNat < n2 → (IM P2 a0) → (EM [32] a0 P P2) → (MW P2 a0) → (0 ≤ v2_1.toInt ∧ v2_1.toInt ≤ 40) → G E ({ frames := 1, cells := 0, slots := 0, locals := 64 } : Room) D cy 2 P2 0 0 2 [(0, .ref a0), (1, .int v2_1)] [] := by
    intro n2
    induction n2 with
    | zero => intro P2 v2_1 hm2 I2 X2 W2 hv2_1; omega
    | succ n2 ih2 =>
      intro P2 v2_1 hm2 I2 X2 W2 hv2_1
      have h539 := X2.at ha0
      refine g_iload_n C dX12_leavesNone_2 rfl 1 rfl ?_
      refine g_bipush (v := 40) C dX12_leavesNone_3 (by decide) ?_
      refine b_icmp_ge C 21 dX12_leavesNone_5 (by decide) (fun h540 => ?_) (fun h540 => ?_)
      · have h540 : 40 ≤ v2_1.toInt := h540
        exact ret _ _ _ _ _ dX12_leavesNone_21 (by decide) (by decide) ⟨I2, X2, W2⟩
      · have h540 : v2_1.toInt < 40 := h540
        refine g_aload_n C dX12_leavesNone_8 rfl 0 rfl ?_
        obtain ⟨b541, e542, h543⟩ := I2.fld (h539) 32 15 40 rfl
        refine g_getR C fi_X12_100 rfl e542 (h539).1 (h539).2 dX12_leavesNone_9 ?_
        refine g_iload_n C dX12_leavesNone_12 rfl 1 rfl ?_
        refine g_iconst (v := 0) C dX12_leavesNone_13 (by decide) ?_
        refine g_zast (j := (v2_1.toInt.toNat)) C h543.1 h543.2.1 (ix_in h543.2.2 (by omega)) (Or.inl rfl) dX12_leavesNone_14 ?_
        refine gqW (ks := [32]) (I2.setA e542 h543 (by decide) (arOk.none rfl)) (EM.setA I2 e542 rfl (by decide)) (fun Y544 Iy545 Xy546 w547 => ?_)
        have w547 : (pI Y544 b541 (v2_1.toInt.toNat)).toInt = 0 := w547
        have W548 := W2.keep I2 Xy546 (by decide) (by decide) (by decide)
        have Xz549 : EM [32] a0 P Y544 := EM.tr ha0 X2 (Xy546.mono (by decide))
        have e550 := Xy546.ref h539 (by decide) e542
        have h551 := Xy546.at h539
        have h552 := Xy546.ar h543
        refine s_iinc (lv0 := [(0, .ref a0)]) (m := 1) C dX12_leavesNone_15 1 rfl (by decide) rfl (by decide) (by omega) (fun z553 h554 => ?_)
        have h554 : z553.toInt = v2_1.toInt + 1 := h554
        refine g_goto C 2 dX12_leavesNone_18 (by decide) ?_
        refine g_lv (lv' := [(0, .ref a0), (1, .int z553)]) [1, 0] rfl ?_
        exact ih2 Y544 z553 (by omega) Iy545 Xz549 W548 (by omega)
  refine g_iconst (v := 0) C dX12_leavesNone_0 (by decide) ?_
  refine g_istore_n (lv' := [(1, .int 0), (0, .ref a0)]) C dX12_leavesNone_1 rfl (by decide) rfl ?_
  refine g_lv (lv' := [(0, .ref a0), (1, .int 0)]) [1, 0] rfl ?_
  exact J2 _ P 0 (Nat.lt_succ_self _) I EM.rf hW (by decide)
theorem dX12_apart_44 : decode cX12_apart 44 = .ok (.iconst (-1), 1) := by decide +kernel
theorem dX12_apart_45 : decode cX12_apart 45 = .ok (.ireturn, 1) := by decide +kernel
theorem dX12_apart_50 : decode cX12_apart 50 = .ok (.iconst 0, 1) := by decide +kernel
theorem dX12_apart_51 : decode cX12_apart 51 = .ok (.istore_n 3, 1) := by decide +kernel
theorem dX12_apart_52 : decode cX12_apart 52 = .ok (.iconst 0, 1) := by decide +kernel
theorem dX12_apart_53 : decode cX12_apart 53 = .ok (.istore 4, 2) := by decide +kernel
theorem dX12_apart_55 : decode cX12_apart 55 = .ok (.iload 4, 2) := by decide +kernel
theorem dX12_apart_57 : decode cX12_apart 57 = .ok (.iload_n 2, 1) := by decide +kernel
theorem dX12_apart_58 : decode cX12_apart 58 = .ok (.if_icmp .ge 32, 3) := by decide +kernel
theorem dX12_apart_61 : decode cX12_apart 61 = .ok (.iload_n 3, 1) := by decide +kernel
theorem dX12_apart_62 : decode cX12_apart 62 = .ok (.aload_n 0, 1) := by decide +kernel
theorem dX12_apart_63 : decode cX12_apart 63 = .ok (.getfield 75, 3) := by decide +kernel
theorem dX12_apart_66 : decode cX12_apart 66 = .ok (.bipush 40, 2) := by decide +kernel
theorem dX12_apart_68 : decode cX12_apart 68 = .ok (.iload_n 1, 1) := by decide +kernel
theorem dX12_apart_69 : decode cX12_apart 69 = .ok (.imul, 1) := by decide +kernel
theorem dX12_apart_70 : decode cX12_apart 70 = .ok (.iload 4, 2) := by decide +kernel
theorem dX12_apart_72 : decode cX12_apart 72 = .ok (.iadd, 1) := by decide +kernel
theorem dX12_apart_73 : decode cX12_apart 73 = .ok (.iaload, 1) := by decide +kernel
theorem dX12_apart_74 : decode cX12_apart 74 = .ok (.ifCond .ge 7, 3) := by decide +kernel
theorem dX12_apart_77 : decode cX12_apart 77 = .ok (.iconst 1, 1) := by decide +kernel
theorem dX12_apart_78 : decode cX12_apart 78 = .ok (.goto 4, 3) := by decide +kernel
theorem dX12_apart_81 : decode cX12_apart 81 = .ok (.iconst 0, 1) := by decide +kernel
theorem dX12_apart_90 : decode cX12_apart 90 = .ok (.iconst 0, 1) := by decide +kernel
theorem dX12_apart_91 : decode cX12_apart 91 = .ok (.istore 4, 2) := by decide +kernel
theorem dX12_apart_93 : decode cX12_apart 93 = .ok (.iconst 0, 1) := by decide +kernel
theorem dX12_apart_94 : decode cX12_apart 94 = .ok (.istore 5, 2) := by decide +kernel
theorem dX12_apart_96 : decode cX12_apart 96 = .ok (.iconst 0, 1) := by decide +kernel
theorem dX12_apart_97 : decode cX12_apart 97 = .ok (.istore 6, 2) := by decide +kernel
theorem dX12_apart_99 : decode cX12_apart 99 = .ok (.iload 6, 2) := by decide +kernel
theorem dX12_apart_101 : decode cX12_apart 101 = .ok (.iconst 1, 1) := by decide +kernel
theorem dX12_apart_102 : decode cX12_apart 102 = .ok (.aload_n 0, 1) := by decide +kernel
theorem dX12_apart_103 : decode cX12_apart 103 = .ok (.iload_n 1, 1) := by decide +kernel
theorem dX12_apart_104 : decode cX12_apart 104 = .ok (.invokevirtual 295, 3) := by decide +kernel
theorem dX12_namelessIn_0 : decode cX12_namelessIn 0 = .ok (.iconst 0, 1) := by decide +kernel
theorem dX12_namelessIn_1 : decode cX12_namelessIn 1 = .ok (.istore_n 2, 1) := by decide +kernel
theorem dX12_namelessIn_2 : decode cX12_namelessIn 2 = .ok (.iconst 0, 1) := by decide +kernel
theorem dX12_namelessIn_3 : decode cX12_namelessIn 3 = .ok (.istore_n 3, 1) := by decide +kernel
theorem dX12_namelessIn_4 : decode cX12_namelessIn 4 = .ok (.iload_n 3, 1) := by decide +kernel
theorem dX12_namelessIn_5 : decode cX12_namelessIn 5 = .ok (.aload_n 0, 1) := by decide +kernel
theorem dX12_namelessIn_6 : decode cX12_namelessIn 6 = .ok (.getfield 69, 3) := by decide +kernel
theorem dX12_namelessIn_9 : decode cX12_namelessIn 9 = .ok (.iload_n 1, 1) := by decide +kernel
theorem dX12_namelessIn_10 : decode cX12_namelessIn 10 = .ok (.iaload, 1) := by decide +kernel
theorem dX12_namelessIn_11 : decode cX12_namelessIn 11 = .ok (.if_icmp .ge 31, 3) := by decide +kernel
theorem dX12_namelessIn_14 : decode cX12_namelessIn 14 = .ok (.iload_n 2, 1) := by decide +kernel
theorem dX12_namelessIn_15 : decode cX12_namelessIn 15 = .ok (.aload_n 0, 1) := by decide +kernel
theorem dX12_namelessIn_16 : decode cX12_namelessIn 16 = .ok (.getfield 75, 3) := by decide +kernel
theorem dX12_namelessIn_19 : decode cX12_namelessIn 19 = .ok (.bipush 40, 2) := by decide +kernel
theorem dX12_namelessIn_21 : decode cX12_namelessIn 21 = .ok (.iload_n 1, 1) := by decide +kernel
theorem dX12_namelessIn_22 : decode cX12_namelessIn 22 = .ok (.imul, 1) := by decide +kernel
theorem dX12_namelessIn_23 : decode cX12_namelessIn 23 = .ok (.iload_n 3, 1) := by decide +kernel
theorem dX12_namelessIn_24 : decode cX12_namelessIn 24 = .ok (.iadd, 1) := by decide +kernel
theorem dX12_namelessIn_25 : decode cX12_namelessIn 25 = .ok (.iaload, 1) := by decide +kernel
theorem dX12_namelessIn_26 : decode cX12_namelessIn 26 = .ok (.ifCond .ge 7, 3) := by decide +kernel
theorem dX12_namelessIn_29 : decode cX12_namelessIn 29 = .ok (.iconst 1, 1) := by decide +kernel
theorem dX12_namelessIn_30 : decode cX12_namelessIn 30 = .ok (.goto 4, 3) := by decide +kernel
theorem dX12_namelessIn_33 : decode cX12_namelessIn 33 = .ok (.iconst 0, 1) := by decide +kernel
theorem dX12_namelessIn_34 : decode cX12_namelessIn 34 = .ok (.iadd, 1) := by decide +kernel
theorem dX12_namelessIn_35 : decode cX12_namelessIn 35 = .ok (.istore_n 2, 1) := by decide +kernel
theorem dX12_namelessIn_36 : decode cX12_namelessIn 36 = .ok (.iinc 3 1, 3) := by decide +kernel
theorem dX12_namelessIn_39 : decode cX12_namelessIn 39 = .ok (.goto (-35), 3) := by decide +kernel
theorem dX12_namelessIn_42 : decode cX12_namelessIn 42 = .ok (.iload_n 2, 1) := by decide +kernel
theorem dX12_namelessIn_43 : decode cX12_namelessIn 43 = .ok (.ireturn, 1) := by decide +kernel
set_option maxHeartbeats 4000000 in
set_option maxRecDepth 100000 in
theorem s_X12_namelessIn {P : PP} {a0 : Nat} {a1 : Int32} (I : IM P a0) (ha1 : 0 ≤ a1.toInt ∧ a1.toInt ≤ 3) (hW : MW P a0) : CtrI yX12_namelessIn cX12_namelessIn 4 (some Jvm.ClassFile.FieldType.int) ({ frames := 1, cells := 0, slots := 0, locals := 64 } : Room) 0 0 P [.ref a0, .int a1] (fun r P2 => P = P2 ∧ (True)) := by
  refine enI (lv := [(0, .ref a0), (1, .int a1)]) (by decide) (Nat.le_of_ble_eq_true rfl) rfl (fun E D cy C Ci0 ret => ?_)
  have ha0 := I.2.1
  have J4 : ∀ (n4 : Nat) (v4_2 : Int32) (v4_3 : Int32), (40 - v4_3.toInt).toNat < n4 → (0 ≤ v4_3.toInt ∧ v4_3.toInt ≤ 40) → G E ({ frames := 1, cells := 0, slots := 0, locals := 64 } : Room) D cy 4 P 0 0 4 [(0, .ref a0), (1, .int a1), (2, .int v4_2), (3, .int v4_3)] [] := by
    intro n4
    induction n4 with
    | zero => intro v4_2 v4_3 hm4 hv4_3; omega
    | succ n4 ih4 =>
      intro v4_2 v4_3 hm4 hv4_3
      have J34 : ∀ (v34_s0 : Int32), (0 ≤ v4_3.toInt ∧ v4_3.toInt ≤ 39) → (0 ≤ v34_s0.toInt ∧ v34_s0.toInt ≤ 1) → (∀ b, pR P a0 20 = some b → 1 ≤ (pI P b (a1.toInt.toNat)).toInt ∧ (pI P b (a1.toInt.toNat)).toInt ≤ 40) → G E ({ frames := 1, cells := 0, slots := 0, locals := 64 } : Room) D cy 4 P 0 0 34 [(0, .ref a0), (1, .int a1), (3, .int v4_3)] [.int v34_s0, .int v4_2] := by
        intro v34_s0 hv34_3 hv34_s0 hq34_0
        obtain ⟨b1356, e1357, h1358⟩ := I.fld (ha0) 20 13 20 rfl
        have hq34_0 := hq34_0 b1356 e1357
        refine a_iadd C dX12_namelessIn_34 (fun z1359 => ?_)
        refine g_istore_n (lv' := [(2, .int z1359), (0, .ref a0), (1, .int a1), (3, .int v4_3)]) C dX12_namelessIn_35 rfl (by decide) rfl ?_
        refine s_iinc (lv0 := [(2, .int z1359), (0, .ref a0), (1, .int a1)]) (m := 1) C dX12_namelessIn_36 3 rfl (by decide) rfl (by decide) (by omega) (fun z1361 h1362 => ?_)
        have h1362 : z1361.toInt = v4_3.toInt + 1 := h1362
        refine g_goto C 4 dX12_namelessIn_39 (by decide) ?_
        refine g_lv (lv' := [(0, .ref a0), (1, .int a1), (2, .int z1359), (3, .int z1361)]) [2, 3, 1, 0] rfl ?_
        exact ih4 z1359 z1361 (by omega) (by omega)
      refine g_iload_n C dX12_namelessIn_4 rfl 3 rfl ?_
      refine g_aload_n C dX12_namelessIn_5 rfl 0 rfl ?_
      obtain ⟨b1363, e1364, h1365⟩ := I.fld (ha0) 20 13 20 rfl
      refine g_getR C fi_X12_69 rfl e1364 (ha0).1 (ha0).2 dX12_namelessIn_6 ?_
      refine g_iload_n C dX12_namelessIn_9 rfl 1 rfl ?_
      refine g_iald (j := (a1.toInt.toNat)) C h1365.1 h1365.2.1 (ix_in h1365.2.2 (by omega)) dX12_namelessIn_10 ?_
      have h1366 := I.arr e1364 rfl (a1.toInt.toNat)
      refine b_icmp_ge C 42 dX12_namelessIn_11 (by decide) (fun h1367 => ?_) (fun h1367 => ?_)
      · have h1367 : (pI P b1363 (a1.toInt.toNat)).toInt ≤ v4_3.toInt := h1367
        refine g_iload_n C dX12_namelessIn_42 rfl 2 rfl ?_
        exact ret _ _ _ _ _ _ dX12_namelessIn_43 rfl (by decide) (by decide) ⟨rfl, trivial⟩
      · have h1367 : v4_3.toInt < (pI P b1363 (a1.toInt.toNat)).toInt := h1367
        refine g_iload_n C dX12_namelessIn_14 rfl 2 rfl ?_
        refine g_aload_n C dX12_namelessIn_15 rfl 0 rfl ?_
        obtain ⟨b1368, e1369, h1370⟩ := I.fld (ha0) 22 13 800 rfl
        refine g_getR C fi_X12_75 rfl e1369 (ha0).1 (ha0).2 dX12_namelessIn_16 ?_
        refine g_bipush (v := 40) C dX12_namelessIn_19 (by decide) ?_
        refine g_iload_n C dX12_namelessIn_21 rfl 1 rfl ?_
        refine s_imul C dX12_namelessIn_22 (by show -2147483648 ≤ 40 * a1.toInt ∧ 40 * a1.toInt ≤ 2147483647; omega) (fun z1371 h1372 => ?_)
        have h1372 : z1371.toInt = 40 * a1.toInt := h1372
        refine g_iload_n C dX12_namelessIn_23 rfl 3 rfl ?_
        refine s_iadd C dX12_namelessIn_24 (by show -2147483648 ≤ z1371.toInt + v4_3.toInt ∧ z1371.toInt + v4_3.toInt ≤ 2147483647; omega) (fun z1373 h1374 => ?_)
        have h1374 : z1373.toInt = z1371.toInt + v4_3.toInt := h1374
        refine g_iald (j := (z1373.toInt.toNat)) C h1370.1 h1370.2.1 (ix_in h1370.2.2 (by omega)) dX12_namelessIn_25 ?_
        have h1375 := I.arr e1369 rfl (z1373.toInt.toNat)
        refine b_if_ge C 33 dX12_namelessIn_26 (by decide) (fun h1376 => ?_) (fun h1376 => ?_)
        · have h1376 : 0 ≤ (pI P b1368 (z1373.toInt.toNat)).toInt := h1376
          refine g_iconst (v := 0) C dX12_namelessIn_33 (by decide) ?_
          refine g_lv (lv' := [(0, .ref a0), (1, .int a1), (3, .int v4_3)]) [0, 1, 3] rfl ?_
          exact J34 0 (by omega) (by decide) (fun b9 e9 => by rw [e1364] at e9; cases e9; omega)
        · have h1376 : (pI P b1368 (z1373.toInt.toNat)).toInt < 0 := h1376
          refine g_iconst (v := 1) C dX12_namelessIn_29 (by decide) ?_
          refine g_goto C 34 dX12_namelessIn_30 (by decide) ?_
          refine g_lv (lv' := [(0, .ref a0), (1, .int a1), (3, .int v4_3)]) [0, 1, 3] rfl ?_
          exact J34 1 (by omega) (by decide) (fun b9 e9 => by rw [e1364] at e9; cases e9; omega)
  refine g_iconst (v := 0) C dX12_namelessIn_0 (by decide) ?_
  refine g_istore_n (lv' := [(2, .int 0), (0, .ref a0), (1, .int a1)]) C dX12_namelessIn_1 rfl (by decide) rfl ?_
  refine g_iconst (v := 0) C dX12_namelessIn_2 (by decide) ?_
  refine g_istore_n (lv' := [(3, .int 0), (2, .int 0), (0, .ref a0), (1, .int a1)]) C dX12_namelessIn_3 rfl (by decide) rfl ?_
  refine g_lv (lv' := [(0, .ref a0), (1, .int a1), (2, .int 0), (3, .int 0)]) [2, 3, 1, 0] rfl ?_
  exact J4 _ 0 0 (Nat.lt_succ_self _) (by decide)
theorem dX12_apart_82 : decode cX12_apart 82 = .ok (.iadd, 1) := by decide +kernel
theorem dX12_apart_83 : decode cX12_apart 83 = .ok (.istore_n 3, 1) := by decide +kernel
theorem dX12_apart_84 : decode cX12_apart 84 = .ok (.iinc 4 1, 3) := by decide +kernel
theorem dX12_apart_87 : decode cX12_apart 87 = .ok (.goto (-32), 3) := by decide +kernel
theorem dX12_apart_107 : decode cX12_apart 107 = .ok (.ishl, 1) := by decide +kernel
theorem dX12_apart_108 : decode cX12_apart 108 = .ok (.if_icmp .ge 74, 3) := by decide +kernel
theorem dX12_apart_111 : decode cX12_apart 111 = .ok (.aload_n 0, 1) := by decide +kernel
theorem dX12_apart_112 : decode cX12_apart 112 = .ok (.iload_n 1, 1) := by decide +kernel
theorem dX12_apart_113 : decode cX12_apart 113 = .ok (.iconst 0, 1) := by decide +kernel
theorem dX12_apart_114 : decode cX12_apart 114 = .ok (.iload 6, 2) := by decide +kernel
theorem dX12_apart_116 : decode cX12_apart 116 = .ok (.invokevirtual 396, 3) := by decide +kernel
theorem dX12_apart_119 : decode cX12_apart 119 = .ok (.ifCond .eq 57, 3) := by decide +kernel
theorem dX12_apart_122 : decode cX12_apart 122 = .ok (.aload_n 0, 1) := by decide +kernel
theorem dX12_apart_123 : decode cX12_apart 123 = .ok (.iload_n 1, 1) := by decide +kernel
theorem dX12_apart_124 : decode cX12_apart 124 = .ok (.iconst 1, 1) := by decide +kernel
theorem dX12_apart_125 : decode cX12_apart 125 = .ok (.iload 6, 2) := by decide +kernel
theorem dX12_apart_127 : decode cX12_apart 127 = .ok (.invokevirtual 396, 3) := by decide +kernel
theorem dX12_apart_130 : decode cX12_apart 130 = .ok (.ifCond .eq 46, 3) := by decide +kernel
theorem dX12_apart_133 : decode cX12_apart 133 = .ok (.iload 4, 2) := by decide +kernel
theorem dX12_apart_135 : decode cX12_apart 135 = .ok (.ifCond .ne 12, 3) := by decide +kernel
theorem dX12_apart_138 : decode cX12_apart 138 = .ok (.iload 6, 2) := by decide +kernel
theorem dX12_apart_140 : decode cX12_apart 140 = .ok (.iload_n 3, 1) := by decide +kernel
theorem dX12_apart_141 : decode cX12_apart 141 = .ok (.ishr, 1) := by decide +kernel
theorem dX12_apart_142 : decode cX12_apart 142 = .ok (.iconst 1, 1) := by decide +kernel
theorem dX12_apart_143 : decode cX12_apart 143 = .ok (.iand, 1) := by decide +kernel
theorem dX12_apart_144 : decode cX12_apart 144 = .ok (.ifCond .ne 7, 3) := by decide +kernel
theorem dX12_apart_147 : decode cX12_apart 147 = .ok (.iconst 1, 1) := by decide +kernel
theorem dX12_apart_148 : decode cX12_apart 148 = .ok (.goto 4, 3) := by decide +kernel
theorem dX12_apart_151 : decode cX12_apart 151 = .ok (.iconst 0, 1) := by decide +kernel
theorem dX12_apart_152 : decode cX12_apart 152 = .ok (.istore 4, 2) := by decide +kernel
theorem dX12_apart_154 : decode cX12_apart 154 = .ok (.iload 5, 2) := by decide +kernel
theorem dX12_apart_156 : decode cX12_apart 156 = .ok (.ifCond .ne 13, 3) := by decide +kernel
theorem dX12_apart_159 : decode cX12_apart 159 = .ok (.iload 6, 2) := by decide +kernel
theorem dX12_apart_161 : decode cX12_apart 161 = .ok (.iload_n 3, 1) := by decide +kernel
theorem dX12_apart_162 : decode cX12_apart 162 = .ok (.ishr, 1) := by decide +kernel
theorem dX12_apart_163 : decode cX12_apart 163 = .ok (.iconst 1, 1) := by decide +kernel
theorem dX12_apart_164 : decode cX12_apart 164 = .ok (.iand, 1) := by decide +kernel
theorem dX12_apart_165 : decode cX12_apart 165 = .ok (.iconst 1, 1) := by decide +kernel
theorem dX12_apart_166 : decode cX12_apart 166 = .ok (.if_icmp .ne 7, 3) := by decide +kernel
theorem dX12_apart_169 : decode cX12_apart 169 = .ok (.iconst 1, 1) := by decide +kernel
theorem dX12_apart_170 : decode cX12_apart 170 = .ok (.goto 4, 3) := by decide +kernel
theorem dX12_apart_173 : decode cX12_apart 173 = .ok (.iconst 0, 1) := by decide +kernel
theorem dX12_apart_174 : decode cX12_apart 174 = .ok (.istore 5, 2) := by decide +kernel
theorem dX12_apart_176 : decode cX12_apart 176 = .ok (.iinc 6 1, 3) := by decide +kernel
theorem dX12_apart_179 : decode cX12_apart 179 = .ok (.goto (-80), 3) := by decide +kernel
theorem dX12_apart_182 : decode cX12_apart 182 = .ok (.iload 4, 2) := by decide +kernel
theorem dX12_apart_184 : decode cX12_apart 184 = .ok (.ifCond .eq 12, 3) := by decide +kernel
theorem dX12_apart_187 : decode cX12_apart 187 = .ok (.iload 5, 2) := by decide +kernel
theorem dX12_apart_189 : decode cX12_apart 189 = .ok (.ifCond .eq 7, 3) := by decide +kernel
theorem dX12_apart_192 : decode cX12_apart 192 = .ok (.iconst 2, 1) := by decide +kernel
theorem dX12_apart_193 : decode cX12_apart 193 = .ok (.goto 22, 3) := by decide +kernel
theorem dX12_apart_196 : decode cX12_apart 196 = .ok (.iload 4, 2) := by decide +kernel
theorem dX12_apart_198 : decode cX12_apart 198 = .ok (.ifCond .eq 7, 3) := by decide +kernel
theorem dX12_apart_201 : decode cX12_apart 201 = .ok (.iconst 0, 1) := by decide +kernel
theorem dX12_apart_202 : decode cX12_apart 202 = .ok (.goto 13, 3) := by decide +kernel
theorem dX12_apart_205 : decode cX12_apart 205 = .ok (.iload 5, 2) := by decide +kernel
theorem dX12_apart_207 : decode cX12_apart 207 = .ok (.ifCond .eq 7, 3) := by decide +kernel
theorem dX12_apart_210 : decode cX12_apart 210 = .ok (.iconst 1, 1) := by decide +kernel
theorem dX12_apart_211 : decode cX12_apart 211 = .ok (.goto 4, 3) := by decide +kernel
theorem dX12_apart_214 : decode cX12_apart 214 = .ok (.iconst (-1), 1) := by decide +kernel
theorem dX12_apart_215 : decode cX12_apart 215 = .ok (.ireturn, 1) := by decide +kernel
set_option maxHeartbeats 4000000 in
set_option maxRecDepth 100000 in
theorem s_X12_apart {P : PP} {a0 : Nat} {a1 : Int32} {a2 : Int32} (I : IM P a0) (hW : MW P a0) : CtrI yX12_apart cX12_apart 7 (some Jvm.ClassFile.FieldType.int) ({ frames := 8, cells := 0, slots := 0, locals := 512 } : Room) 0 0 P [.ref a0, .int a1, .int a2] (fun r P2 => IM P2 a0 ∧ EM [0, 28, 29, 30, 31, 32, 35, 36, 37, 38] a0 P P2 ∧ MW P2 a0 ∧ (-1 ≤ r.toInt ∧ r.toInt ≤ 2)) := by
  refine enI (lv := [(0, .ref a0), (1, .int a1), (2, .int a2)]) (by decide) (Nat.le_of_ble_eq_true rfl) rfl (fun E D cy C Ci0 ret => ?_)
  have ha0 := I.2.1
  have J196 : ∀ (P196 : PP) (v196_4 : Int32) (v196_5 : Int32), (IM P196 a0) → (EM [0, 28, 29, 30, 31, 32, 35, 36, 37, 38] a0 P P196) → (MW P196 a0) → (0 ≤ v196_4.toInt ∧ v196_4.toInt ≤ 1) → (0 ≤ v196_5.toInt ∧ v196_5.toInt ≤ 1) → (0 ≤ (pI P196 a0 0).toInt ∧ (pI P196 a0 0).toInt ≤ 0) → (∀ b, pR P196 a0 10 = some b → 1 ≤ (pI P196 b 0).toInt ∧ (pI P196 b 0).toInt ≤ 16) → (∀ b, pR P196 a0 10 = some b → 1 ≤ (pI P196 b 1).toInt ∧ (pI P196 b 1).toInt ≤ 16) → (∀ b, pR P196 a0 20 = some b → 1 ≤ (pI P196 b (a1.toInt.toNat)).toInt ∧ (pI P196 b (a1.toInt.toNat)).toInt ≤ 40) → G E ({ frames := 8, cells := 0, slots := 0, locals := 512 } : Room) D cy 7 P196 0 0 196 [(4, .int v196_4), (5, .int v196_5)] [] := by
    intro P196 v196_4 v196_5 I196 X196 W196 hv196_4 hv196_5 hq196_0 hq196_1 hq196_2 hq196_3
    have h5875 := X196.at ha0
    obtain ⟨b5876, e5877, h5878⟩ := I196.fld (h5875) 10 13 2 rfl
    have hq196_1 := hq196_1 b5876 e5877
    have hq196_2 := hq196_2 b5876 e5877
    obtain ⟨b5879, e5880, h5881⟩ := I196.fld (h5875) 20 13 20 rfl
    have hq196_3 := hq196_3 b5879 e5880
    refine g_iload C dX12_apart_196 0 rfl ?_
    refine b_if_eq C 205 dX12_apart_198 (by decide) (fun h5882 => ?_) (fun h5882 => ?_)
    · have h5882 : v196_4.toInt = 0 := congrArg Int32.toInt h5882
      refine g_iload C dX12_apart_205 1 rfl ?_
      refine b_if_eq C 214 dX12_apart_207 (by decide) (fun h5883 => ?_) (fun h5883 => ?_)
      · have h5883 : v196_5.toInt = 0 := congrArg Int32.toInt h5883
        refine g_iconst (v := (-1)) C dX12_apart_214 (by decide) ?_
        exact ret _ _ _ _ _ _ dX12_apart_215 rfl (by decide) (by decide) ⟨I196, X196, W196, (by decide)⟩
      · have h5883 : v196_5.toInt ≠ 0 := ti_ne h5883
        refine g_iconst (v := 1) C dX12_apart_210 (by decide) ?_
        refine g_goto C 215 dX12_apart_211 (by decide) ?_
        exact ret _ _ _ _ _ _ dX12_apart_215 rfl (by decide) (by decide) ⟨I196, X196, W196, (by decide)⟩
    · have h5882 : v196_4.toInt ≠ 0 := ti_ne h5882
      refine g_iconst (v := 0) C dX12_apart_201 (by decide) ?_
      refine g_goto C 215 dX12_apart_202 (by decide) ?_
      exact ret _ _ _ _ _ _ dX12_apart_215 rfl (by decide) (by decide) ⟨I196, X196, W196, (by decide)⟩
  have J99 : ∀ (n99 : Nat) (P99 : PP) (v99_3 : Int32) (v99_4 : Int32) (v99_5 : Int32) (v99_6 : Int32), (2147483647 - v99_6.toInt).toNat < n99 → (IM P99 a0) → (EM [0, 28, 29, 30, 31, 32, 35, 36, 37, 38] a0 P P99) → (MW P99 a0) → (0 ≤ a1.toInt ∧ a1.toInt ≤ 3) → (0 ≤ v99_4.toInt ∧ v99_4.toInt ≤ 1) → (0 ≤ v99_5.toInt ∧ v99_5.toInt ≤ 1) → (0 ≤ v99_6.toInt) → (0 ≤ (pI P99 a0 0).toInt ∧ (pI P99 a0 0).toInt ≤ 0) → (∀ b, pR P99 a0 10 = some b → 1 ≤ (pI P99 b 0).toInt ∧ (pI P99 b 0).toInt ≤ 16) → (∀ b, pR P99 a0 10 = some b → 1 ≤ (pI P99 b 1).toInt ∧ (pI P99 b 1).toInt ≤ 16) → (∀ b, pR P99 a0 20 = some b → 1 ≤ (pI P99 b (a1.toInt.toNat)).toInt ∧ (pI P99 b (a1.toInt.toNat)).toInt ≤ 40) → G E ({ frames := 8, cells := 0, slots := 0, locals := 512 } : Room) D cy 7 P99 0 0 99 [(0, .ref a0), (1, .int a1), (3, .int v99_3), (4, .int v99_4), (5, .int v99_5), (6, .int v99_6)] [] := by
    intro n99
    induction n99 with
    | zero => intro P99 v99_3 v99_4 v99_5 v99_6 hm99 I99 X99 W99 hv99_1 hv99_4 hv99_5 hv99_6 hq99_0 hq99_1 hq99_2 hq99_3; omega
    | succ n99 ih99 =>
      intro P99 v99_3 v99_4 v99_5 v99_6 hm99 I99 X99 W99 hv99_1 hv99_4 hv99_5 hv99_6 hq99_0 hq99_1 hq99_2 hq99_3
      have h5884 := X99.at ha0
      obtain ⟨b5885, e5886, h5887⟩ := I99.fld (h5884) 10 13 2 rfl
      have hq99_1 := hq99_1 b5885 e5886
      have hq99_2 := hq99_2 b5885 e5886
      obtain ⟨b5888, e5889, h5890⟩ := I99.fld (h5884) 20 13 20 rfl
      have hq99_3 := hq99_3 b5888 e5889
      have J176 : ∀ (P176 : PP) (v176_4 : Int32) (v176_5 : Int32), (IM P176 a0) → (EM [0, 28, 29, 30, 31, 32, 35, 36, 37, 38] a0 P P176) → (MW P176 a0) → (0 ≤ a1.toInt ∧ a1.toInt ≤ 3) → (0 ≤ v176_4.toInt ∧ v176_4.toInt ≤ 1) → (0 ≤ v176_5.toInt ∧ v176_5.toInt ≤ 1) → (0 ≤ v99_6.toInt ∧ v99_6.toInt ≤ 2147483646) → (0 ≤ (pI P176 a0 0).toInt ∧ (pI P176 a0 0).toInt ≤ 0) → (∀ b, pR P176 a0 10 = some b → 1 ≤ (pI P176 b 0).toInt ∧ (pI P176 b 0).toInt ≤ 16) → (∀ b, pR P176 a0 10 = some b → 1 ≤ (pI P176 b 1).toInt ∧ (pI P176 b 1).toInt ≤ 16) → (∀ b, pR P176 a0 20 = some b → 1 ≤ (pI P176 b (a1.toInt.toNat)).toInt ∧ (pI P176 b (a1.toInt.toNat)).toInt ≤ 40) → G E ({ frames := 8, cells := 0, slots := 0, locals := 512 } : Room) D cy 7 P176 0 0 176 [(0, .ref a0), (1, .int a1), (3, .int v99_3), (4, .int v176_4), (5, .int v176_5), (6, .int v99_6)] [] := by
        intro P176 v176_4 v176_5 I176 X176 W176 hv176_1 hv176_4 hv176_5 hv176_6 hq176_0 hq176_1 hq176_2 hq176_3
        have h5891 := X176.at ha0
        obtain ⟨b5892, e5893, h5894⟩ := I176.fld (h5891) 10 13 2 rfl
        have hq176_1 := hq176_1 b5892 e5893
        have hq176_2 := hq176_2 b5892 e5893
        obtain ⟨b5895, e5896, h5897⟩ := I176.fld (h5891) 20 13 20 rfl
        have hq176_3 := hq176_3 b5895 e5896
        refine s_iinc (lv0 := [(0, .ref a0), (1, .int a1), (3, .int v99_3), (4, .int v176_4), (5, .int v176_5)]) (m := 1) C dX12_apart_176 5 rfl (by decide) rfl (by decide) (by omega) (fun z5898 h5899 => ?_)
        have h5899 : z5898.toInt = v99_6.toInt + 1 := h5899
        refine g_goto C 99 dX12_apart_179 (by decide) ?_
        refine g_lv (lv' := [(0, .ref a0), (1, .int a1), (3, .int v99_3), (4, .int v176_4), (5, .int v176_5), (6, .int z5898)]) [1, 2, 3, 4, 5, 0] rfl ?_
        exact ih99 P176 v99_3 v176_4 v176_5 z5898 (by omega) I176 X176 W176 (by omega) (by omega) (by omega) (by omega) (by omega) (fun b9 e9 => by rw [e5893] at e9; cases e9; omega) (fun b9 e9 => by rw [e5893] at e9; cases e9; omega) (fun b9 e9 => by rw [e5896] at e9; cases e9; omega)
      have J174 : ∀ (P174 : PP) (v174_4 : Int32) (v174_s0 : Int32), (IM P174 a0) → (EM [0, 28, 29, 30, 31, 32, 35, 36, 37, 38] a0 P P174) → (MW P174 a0) → (0 ≤ a1.toInt ∧ a1.toInt ≤ 3) → (0 ≤ v174_4.toInt ∧ v174_4.toInt ≤ 1) → (0 ≤ v99_6.toInt ∧ v99_6.toInt ≤ 2147483646) → (0 ≤ v174_s0.toInt ∧ v174_s0.toInt ≤ 1) → (0 ≤ (pI P174 a0 0).toInt ∧ (pI P174 a0 0).toInt ≤ 0) → (∀ b, pR P174 a0 10 = some b → 1 ≤ (pI P174 b 0).toInt ∧ (pI P174 b 0).toInt ≤ 16) → (∀ b, pR P174 a0 10 = some b → 1 ≤ (pI P174 b 1).toInt ∧ (pI P174 b 1).toInt ≤ 16) → (∀ b, pR P174 a0 20 = some b → 1 ≤ (pI P174 b (a1.toInt.toNat)).toInt ∧ (pI P174 b (a1.toInt.toNat)).toInt ≤ 40) → G E ({ frames := 8, cells := 0, slots := 0, locals := 512 } : Room) D cy 7 P174 0 0 174 [(0, .ref a0), (1, .int a1), (3, .int v99_3), (4, .int v174_4), (6, .int v99_6)] [.int v174_s0] := by
        intro P174 v174_4 v174_s0 I174 X174 W174 hv174_1 hv174_4 hv174_6 hv174_s0 hq174_0 hq174_1 hq174_2 hq174_3
        have h5900 := X174.at ha0
        obtain ⟨b5901, e5902, h5903⟩ := I174.fld (h5900) 10 13 2 rfl
        have hq174_1 := hq174_1 b5901 e5902
        have hq174_2 := hq174_2 b5901 e5902
        obtain ⟨b5904, e5905, h5906⟩ := I174.fld (h5900) 20 13 20 rfl
        have hq174_3 := hq174_3 b5904 e5905
        refine g_istore (lv' := [(5, .int v174_s0), (0, .ref a0), (1, .int a1), (3, .int v99_3), (4, .int v174_4), (6, .int v99_6)]) C dX12_apart_174 (by decide) rfl ?_
        refine g_lv (lv' := [(0, .ref a0), (1, .int a1), (3, .int v99_3), (4, .int v174_4), (5, .int v174_s0), (6, .int v99_6)]) [1, 2, 3, 4, 0, 5] rfl ?_
        exact J176 P174 v174_4 v174_s0 I174 X174 W174 (by omega) (by omega) (by omega) (by omega) (by omega) (fun b9 e9 => by rw [e5902] at e9; cases e9; omega) (fun b9 e9 => by rw [e5902] at e9; cases e9; omega) (fun b9 e9 => by rw [e5905] at e9; cases e9; omega)
      have J169 : ∀ (P169 : PP) (v169_4 : Int32), (IM P169 a0) → (EM [0, 28, 29, 30, 31, 32, 35, 36, 37, 38] a0 P P169) → (MW P169 a0) → (0 ≤ a1.toInt ∧ a1.toInt ≤ 3) → (0 ≤ v169_4.toInt ∧ v169_4.toInt ≤ 1) → (0 ≤ v99_6.toInt ∧ v99_6.toInt ≤ 2147483646) → (0 ≤ (pI P169 a0 0).toInt ∧ (pI P169 a0 0).toInt ≤ 0) → (∀ b, pR P169 a0 10 = some b → 1 ≤ (pI P169 b 0).toInt ∧ (pI P169 b 0).toInt ≤ 16) → (∀ b, pR P169 a0 10 = some b → 1 ≤ (pI P169 b 1).toInt ∧ (pI P169 b 1).toInt ≤ 16) → (∀ b, pR P169 a0 20 = some b → 1 ≤ (pI P169 b (a1.toInt.toNat)).toInt ∧ (pI P169 b (a1.toInt.toNat)).toInt ≤ 40) → G E ({ frames := 8, cells := 0, slots := 0, locals := 512 } : Room) D cy 7 P169 0 0 169 [(0, .ref a0), (1, .int a1), (3, .int v99_3), (4, .int v169_4), (6, .int v99_6)] [] := by
        intro P169 v169_4 I169 X169 W169 hv169_1 hv169_4 hv169_6 hq169_0 hq169_1 hq169_2 hq169_3
        have h5907 := X169.at ha0
        obtain ⟨b5908, e5909, h5910⟩ := I169.fld (h5907) 10 13 2 rfl
        have hq169_1 := hq169_1 b5908 e5909
        have hq169_2 := hq169_2 b5908 e5909
        obtain ⟨b5911, e5912, h5913⟩ := I169.fld (h5907) 20 13 20 rfl
        have hq169_3 := hq169_3 b5911 e5912
        refine g_iconst (v := 1) C dX12_apart_169 (by decide) ?_
        refine g_goto C 174 dX12_apart_170 (by decide) ?_
        exact J174 P169 v169_4 1 I169 X169 W169 (by omega) (by omega) (by omega) (by decide) (by omega) (fun b9 e9 => by rw [e5909] at e9; cases e9; omega) (fun b9 e9 => by rw [e5909] at e9; cases e9; omega) (fun b9 e9 => by rw [e5912] at e9; cases e9; omega)
      have J152 : ∀ (P152 : PP) (v152_s0 : Int32), (IM P152 a0) → (EM [0, 28, 29, 30, 31, 32, 35, 36, 37, 38] a0 P P152) → (MW P152 a0) → (0 ≤ a1.toInt ∧ a1.toInt ≤ 3) → (0 ≤ v99_6.toInt ∧ v99_6.toInt ≤ 2147483646) → (0 ≤ v152_s0.toInt ∧ v152_s0.toInt ≤ 1) → (0 ≤ (pI P152 a0 0).toInt ∧ (pI P152 a0 0).toInt ≤ 0) → (∀ b, pR P152 a0 10 = some b → 1 ≤ (pI P152 b 0).toInt ∧ (pI P152 b 0).toInt ≤ 16) → (∀ b, pR P152 a0 10 = some b → 1 ≤ (pI P152 b 1).toInt ∧ (pI P152 b 1).toInt ≤ 16) → (∀ b, pR P152 a0 20 = some b → 1 ≤ (pI P152 b (a1.toInt.toNat)).toInt ∧ (pI P152 b (a1.toInt.toNat)).toInt ≤ 40) → G E ({ frames := 8, cells := 0, slots := 0, locals := 512 } : Room) D cy 7 P152 0 0 152 [(0, .ref a0), (1, .int a1), (3, .int v99_3), (5, .int v99_5), (6, .int v99_6)] [.int v152_s0] := by
        intro P152 v152_s0 I152 X152 W152 hv152_1 hv152_6 hv152_s0 hq152_0 hq152_1 hq152_2 hq152_3
        have h5914 := X152.at ha0
        obtain ⟨b5915, e5916, h5917⟩ := I152.fld (h5914) 10 13 2 rfl
        have hq152_1 := hq152_1 b5915 e5916
        have hq152_2 := hq152_2 b5915 e5916
        obtain ⟨b5918, e5919, h5920⟩ := I152.fld (h5914) 20 13 20 rfl
        have hq152_3 := hq152_3 b5918 e5919
        refine g_istore (lv' := [(4, .int v152_s0), (0, .ref a0), (1, .int a1), (3, .int v99_3), (5, .int v99_5), (6, .int v99_6)]) C dX12_apart_152 (by decide) rfl ?_
        refine g_iload C dX12_apart_154 4 rfl ?_
        refine b_if_ne C 169 dX12_apart_156 (by decide) (fun h5921 => ?_) (fun h5921 => ?_)
        · have h5921 : v99_5.toInt ≠ 0 := ti_ne h5921
          refine g_lv (lv' := [(0, .ref a0), (1, .int a1), (3, .int v99_3), (4, .int v152_s0), (6, .int v99_6)]) [1, 2, 3, 0, 5] rfl ?_
          exact J169 P152 v152_s0 I152 X152 W152 (by omega) (by omega) (by omega) (by omega) (fun b9 e9 => by rw [e5916] at e9; cases e9; omega) (fun b9 e9 => by rw [e5916] at e9; cases e9; omega) (fun b9 e9 => by rw [e5919] at e9; cases e9; omega)
        · have h5921 : v99_5.toInt = 0 := congrArg Int32.toInt h5921
          refine g_iload C dX12_apart_159 5 rfl ?_
          refine g_iload_n C dX12_apart_161 rfl 3 rfl ?_
          refine a_ishr C dX12_apart_162 (fun z5922 => ?_)
          refine g_iconst (v := 1) C dX12_apart_163 (by decide) ?_
          refine s_iand C dX12_apart_164 (by show 0 ≤ 1; omega) (fun z5924 h5925 => ?_)
          have h5925 : 0 ≤ z5924.toInt ∧ z5924.toInt ≤ 1 := h5925
          refine g_iconst (v := 1) C dX12_apart_165 (by decide) ?_
          refine b_icmp_ne C 173 dX12_apart_166 (by decide) (fun h5926 => ?_) (fun h5926 => ?_)
          · have h5926 : z5924.toInt ≠ 1 := ti_ne h5926
            refine g_iconst (v := 0) C dX12_apart_173 (by decide) ?_
            refine g_lv (lv' := [(0, .ref a0), (1, .int a1), (3, .int v99_3), (4, .int v152_s0), (6, .int v99_6)]) [1, 2, 3, 0, 5] rfl ?_
            exact J174 P152 v152_s0 0 I152 X152 W152 (by omega) (by omega) (by omega) (by decide) (by omega) (fun b9 e9 => by rw [e5916] at e9; cases e9; omega) (fun b9 e9 => by rw [e5916] at e9; cases e9; omega) (fun b9 e9 => by rw [e5919] at e9; cases e9; omega)
          · have h5926 : z5924.toInt = 1 := congrArg Int32.toInt h5926
            refine g_lv (lv' := [(0, .ref a0), (1, .int a1), (3, .int v99_3), (4, .int v152_s0), (6, .int v99_6)]) [1, 2, 3, 0, 5] rfl ?_
            exact J169 P152 v152_s0 I152 X152 W152 (by omega) (by omega) (by omega) (by omega) (fun b9 e9 => by rw [e5916] at e9; cases e9; omega) (fun b9 e9 => by rw [e5916] at e9; cases e9; omega) (fun b9 e9 => by rw [e5919] at e9; cases e9; omega)
      have J147 : ∀ (P147 : PP), (IM P147 a0) → (EM [0, 28, 29, 30, 31, 32, 35, 36, 37, 38] a0 P P147) → (MW P147 a0) → (0 ≤ a1.toInt ∧ a1.toInt ≤ 3) → (0 ≤ v99_6.toInt ∧ v99_6.toInt ≤ 2147483646) → (0 ≤ (pI P147 a0 0).toInt ∧ (pI P147 a0 0).toInt ≤ 0) → (∀ b, pR P147 a0 10 = some b → 1 ≤ (pI P147 b 0).toInt ∧ (pI P147 b 0).toInt ≤ 16) → (∀ b, pR P147 a0 10 = some b → 1 ≤ (pI P147 b 1).toInt ∧ (pI P147 b 1).toInt ≤ 16) → (∀ b, pR P147 a0 20 = some b → 1 ≤ (pI P147 b (a1.toInt.toNat)).toInt ∧ (pI P147 b (a1.toInt.toNat)).toInt ≤ 40) → G E ({ frames := 8, cells := 0, slots := 0, locals := 512 } : Room) D cy 7 P147 0 0 147 [(0, .ref a0), (1, .int a1), (3, .int v99_3), (5, .int v99_5), (6, .int v99_6)] [] := by
        intro P147 I147 X147 W147 hv147_1 hv147_6 hq147_0 hq147_1 hq147_2 hq147_3
        have h5927 := X147.at ha0
        obtain ⟨b5928, e5929, h5930⟩ := I147.fld (h5927) 10 13 2 rfl
        have hq147_1 := hq147_1 b5928 e5929
        have hq147_2 := hq147_2 b5928 e5929
        obtain ⟨b5931, e5932, h5933⟩ := I147.fld (h5927) 20 13 20 rfl
        have hq147_3 := hq147_3 b5931 e5932
        refine g_iconst (v := 1) C dX12_apart_147 (by decide) ?_
        refine g_goto C 152 dX12_apart_148 (by decide) ?_
        exact J152 P147 1 I147 X147 W147 (by omega) (by omega) (by decide) (by omega) (fun b9 e9 => by rw [e5929] at e9; cases e9; omega) (fun b9 e9 => by rw [e5929] at e9; cases e9; omega) (fun b9 e9 => by rw [e5932] at e9; cases e9; omega)
      refine g_iload C dX12_apart_99 5 rfl ?_
      refine g_iconst (v := 1) C dX12_apart_101 (by decide) ?_
      refine g_aload_n C dX12_apart_102 rfl 0 rfl ?_
      refine g_iload_n C dX12_apart_103 rfl 1 rfl ?_
      refine g_callVI (rest := [.int 1, .int v99_6]) C mv_X12_295 [.int a1] (s_X12_namelessIn I99 (by omega) W99) (h5884).1 (h5884).2 rfl rfl (by decide) (Nat.le_of_ble_eq_true rfl) (by decide) dX12_apart_104 (fun r5934 Y5935 h5936 => ?_)
      obtain ⟨rfl, h5936⟩ := h5936
      have h5936 : True := h5936
      refine a_ishl C dX12_apart_107 (fun z5937 => ?_)
      have u5940 := ti_rng v99_6
      have u5941 := ti_rng z5937
      refine b_icmp_ge C 182 dX12_apart_108 (by decide) (fun h5939 => ?_) (fun h5939 => ?_)
      · have h5939 : z5937.toInt ≤ v99_6.toInt := h5939
        refine g_iload C dX12_apart_182 3 rfl ?_
        refine b_if_eq C 196 dX12_apart_184 (by decide) (fun h5942 => ?_) (fun h5942 => ?_)
        · have h5942 : v99_4.toInt = 0 := congrArg Int32.toInt h5942
          refine g_lv (lv' := [(4, .int v99_4), (5, .int v99_5)]) [3, 4] rfl ?_
          exact J196 P99 v99_4 v99_5 I99 X99 W99 (by omega) (by omega) (by omega) (fun b9 e9 => by rw [e5886] at e9; cases e9; omega) (fun b9 e9 => by rw [e5886] at e9; cases e9; omega) (fun b9 e9 => by rw [e5889] at e9; cases e9; omega)
        · have h5942 : v99_4.toInt ≠ 0 := ti_ne h5942
          refine g_iload C dX12_apart_187 4 rfl ?_
          refine b_if_eq C 196 dX12_apart_189 (by decide) (fun h5943 => ?_) (fun h5943 => ?_)
          · have h5943 : v99_5.toInt = 0 := congrArg Int32.toInt h5943
            refine g_lv (lv' := [(4, .int v99_4), (5, .int v99_5)]) [3, 4] rfl ?_
            exact J196 P99 v99_4 v99_5 I99 X99 W99 (by omega) (by omega) (by omega) (fun b9 e9 => by rw [e5886] at e9; cases e9; omega) (fun b9 e9 => by rw [e5886] at e9; cases e9; omega) (fun b9 e9 => by rw [e5889] at e9; cases e9; omega)
          · have h5943 : v99_5.toInt ≠ 0 := ti_ne h5943
            refine g_iconst (v := 2) C dX12_apart_192 (by decide) ?_
            refine g_goto C 215 dX12_apart_193 (by decide) ?_
            exact ret _ _ _ _ _ _ dX12_apart_215 rfl (by decide) (by decide) ⟨I99, X99, W99, (by decide)⟩
      · have h5939 : v99_6.toInt < z5937.toInt := h5939
        refine g_aload_n C dX12_apart_111 rfl 0 rfl ?_
        refine g_iload_n C dX12_apart_112 rfl 1 rfl ?_
        refine g_iconst (v := 0) C dX12_apart_113 (by decide) ?_
        refine g_iload C dX12_apart_114 5 rfl ?_
        refine g_callVI (rest := []) C mv_X12_396 [.int a1, .int 0, .int v99_6] (s_X12_agreesBy I99 (by omega) (by decide) (fun b9 e9 => by rw [e5886] at e9; cases e9; show 1 ≤ (pI P99 b5885 0).toInt ∧ (pI P99 b5885 0).toInt ≤ 16; omega) W99) (h5884).1 (h5884).2 rfl rfl (by decide) (Nat.le_of_ble_eq_true rfl) (by decide) dX12_apart_116 (fun r5944 Y5945 h5946 => ?_)
        obtain ⟨Iy5947, Xy5948, W5949, h5946⟩ := h5946
        have q5950 := Xy5948.keepF 0 (by decide)
        have q5951 := Xy5948.keepA e5886 (by decide) rfl 0
        have q5952 := Xy5948.keepA e5886 (by decide) rfl 1
        have q5953 := Xy5948.keepA e5889 (by decide) rfl (a1.toInt.toNat)
        have Xz5954 : EM [0, 28, 29, 30, 31, 32, 35, 36, 37, 38] a0 P Y5945 := EM.tr ha0 X99 (Xy5948.mono (by decide))
        have e5955 := Xy5948.ref h5884 (by decide) e5886
        have e5956 := Xy5948.ref h5884 (by decide) e5889
        have h5957 := Xy5948.at h5884
        have h5958 := Xy5948.ar h5887
        have h5959 := Xy5948.ar h5890
        have h5946 : 0 ≤ r5944.toInt ∧ r5944.toInt ≤ 1 := h5946
        refine b_if_eq C 176 dX12_apart_119 (by decide) (fun h5960 => ?_) (fun h5960 => ?_)
        · have h5960 : r5944.toInt = 0 := congrArg Int32.toInt h5960
          exact J176 Y5945 v99_4 v99_5 Iy5947 Xz5954 W5949 (by omega) (by omega) (by omega) (by omega) (by omega) (fun b9 e9 => by rw [e5955] at e9; cases e9; omega) (fun b9 e9 => by rw [e5955] at e9; cases e9; omega) (fun b9 e9 => by rw [e5956] at e9; cases e9; omega)
        · have h5960 : r5944.toInt ≠ 0 := ti_ne h5960
          refine g_aload_n C dX12_apart_122 rfl 0 rfl ?_
          refine g_iload_n C dX12_apart_123 rfl 1 rfl ?_
          refine g_iconst (v := 1) C dX12_apart_124 (by decide) ?_
          refine g_iload C dX12_apart_125 5 rfl ?_
          refine g_callVI (rest := []) C mv_X12_396 [.int a1, .int 1, .int v99_6] (s_X12_agreesBy Iy5947 (by omega) (by decide) (fun b9 e9 => by rw [e5955] at e9; cases e9; show 1 ≤ (pI Y5945 b5885 1).toInt ∧ (pI Y5945 b5885 1).toInt ≤ 16; omega) W5949) (h5957).1 (h5957).2 rfl rfl (by decide) (Nat.le_of_ble_eq_true rfl) (by decide) dX12_apart_127 (fun r5961 Y5962 h5963 => ?_)
          obtain ⟨Iy5964, Xy5965, W5966, h5963⟩ := h5963
          have q5967 := Xy5965.keepF 0 (by decide)
          have q5968 := Xy5965.keepA e5955 (by decide) rfl 0
          have q5969 := Xy5965.keepA e5955 (by decide) rfl 1
          have q5970 := Xy5965.keepA e5956 (by decide) rfl (a1.toInt.toNat)
          have Xz5971 : EM [0, 28, 29, 30, 31, 32, 35, 36, 37, 38] a0 P Y5962 := EM.tr ha0 Xz5954 (Xy5965.mono (by decide))
          have e5972 := Xy5965.ref h5957 (by decide) e5955
          have e5973 := Xy5965.ref h5957 (by decide) e5956
          have h5974 := Xy5965.at h5957
          have h5975 := Xy5965.ar h5958
          have h5976 := Xy5965.ar h5959
          have h5963 : 0 ≤ r5961.toInt ∧ r5961.toInt ≤ 1 := h5963
          refine b_if_eq C 176 dX12_apart_130 (by decide) (fun h5977 => ?_) (fun h5977 => ?_)
          · have h5977 : r5961.toInt = 0 := congrArg Int32.toInt h5977
            exact J176 Y5962 v99_4 v99_5 Iy5964 Xz5971 W5966 (by omega) (by omega) (by omega) (by omega) (by omega) (fun b9 e9 => by rw [e5972] at e9; cases e9; omega) (fun b9 e9 => by rw [e5972] at e9; cases e9; omega) (fun b9 e9 => by rw [e5973] at e9; cases e9; omega)
          · have h5977 : r5961.toInt ≠ 0 := ti_ne h5977
            refine g_iload C dX12_apart_133 3 rfl ?_
            refine b_if_ne C 147 dX12_apart_135 (by decide) (fun h5978 => ?_) (fun h5978 => ?_)
            · have h5978 : v99_4.toInt ≠ 0 := ti_ne h5978
              refine g_lv (lv' := [(0, .ref a0), (1, .int a1), (3, .int v99_3), (5, .int v99_5), (6, .int v99_6)]) [0, 1, 2, 4, 5] rfl ?_
              exact J147 Y5962 Iy5964 Xz5971 W5966 (by omega) (by omega) (by omega) (fun b9 e9 => by rw [e5972] at e9; cases e9; omega) (fun b9 e9 => by rw [e5972] at e9; cases e9; omega) (fun b9 e9 => by rw [e5973] at e9; cases e9; omega)
            · have h5978 : v99_4.toInt = 0 := congrArg Int32.toInt h5978
              refine g_iload C dX12_apart_138 5 rfl ?_
              refine g_iload_n C dX12_apart_140 rfl 2 rfl ?_
              refine a_ishr C dX12_apart_141 (fun z5979 => ?_)
              refine g_iconst (v := 1) C dX12_apart_142 (by decide) ?_
              refine s_iand C dX12_apart_143 (by show 0 ≤ 1; omega) (fun z5981 h5982 => ?_)
              have h5982 : 0 ≤ z5981.toInt ∧ z5981.toInt ≤ 1 := h5982
              refine b_if_ne C 151 dX12_apart_144 (by decide) (fun h5983 => ?_) (fun h5983 => ?_)
              · have h5983 : z5981.toInt ≠ 0 := ti_ne h5983
                refine g_iconst (v := 0) C dX12_apart_151 (by decide) ?_
                refine g_lv (lv' := [(0, .ref a0), (1, .int a1), (3, .int v99_3), (5, .int v99_5), (6, .int v99_6)]) [0, 1, 2, 4, 5] rfl ?_
                exact J152 Y5962 0 Iy5964 Xz5971 W5966 (by omega) (by omega) (by decide) (by omega) (fun b9 e9 => by rw [e5972] at e9; cases e9; omega) (fun b9 e9 => by rw [e5972] at e9; cases e9; omega) (fun b9 e9 => by rw [e5973] at e9; cases e9; omega)
              · have h5983 : z5981.toInt = 0 := congrArg Int32.toInt h5983
                refine g_lv (lv' := [(0, .ref a0), (1, .int a1), (3, .int v99_3), (5, .int v99_5), (6, .int v99_6)]) [0, 1, 2, 4, 5] rfl ?_
                exact J147 Y5962 Iy5964 Xz5971 W5966 (by omega) (by omega) (by omega) (fun b9 e9 => by rw [e5972] at e9; cases e9; omega) (fun b9 e9 => by rw [e5972] at e9; cases e9; omega) (fun b9 e9 => by rw [e5973] at e9; cases e9; omega)
  have J55 : ∀ (n55 : Nat) (P55 : PP) (v55_3 : Int32) (v55_4 : Int32), (40 - v55_4.toInt).toNat < n55 → (IM P55 a0) → (EM [0, 28, 29, 30, 31, 32, 35, 36, 37, 38] a0 P P55) → (MW P55 a0) → (0 ≤ a1.toInt ∧ a1.toInt ≤ 3) → (0 ≤ a2.toInt ∧ a2.toInt ≤ 39) → (0 ≤ v55_4.toInt ∧ v55_4.toInt ≤ 40) → (0 ≤ (pI P55 a0 0).toInt ∧ (pI P55 a0 0).toInt ≤ 0) → (∀ b, pR P55 a0 10 = some b → 1 ≤ (pI P55 b 0).toInt ∧ (pI P55 b 0).toInt ≤ 16) → (∀ b, pR P55 a0 10 = some b → 1 ≤ (pI P55 b 1).toInt ∧ (pI P55 b 1).toInt ≤ 16) → (∀ b, pR P55 a0 20 = some b → 1 ≤ (pI P55 b (a1.toInt.toNat)).toInt ∧ (pI P55 b (a1.toInt.toNat)).toInt ≤ 40) → G E ({ frames := 8, cells := 0, slots := 0, locals := 512 } : Room) D cy 7 P55 0 0 55 [(0, .ref a0), (1, .int a1), (2, .int a2), (3, .int v55_3), (4, .int v55_4)] [] := by
    intro n55
    induction n55 with
    | zero => intro P55 v55_3 v55_4 hm55 I55 X55 W55 hv55_1 hv55_2 hv55_4 hq55_0 hq55_1 hq55_2 hq55_3; omega
    | succ n55 ih55 =>
      intro P55 v55_3 v55_4 hm55 I55 X55 W55 hv55_1 hv55_2 hv55_4 hq55_0 hq55_1 hq55_2 hq55_3
      have h5984 := X55.at ha0
      obtain ⟨b5985, e5986, h5987⟩ := I55.fld (h5984) 10 13 2 rfl
      have hq55_1 := hq55_1 b5985 e5986
      have hq55_2 := hq55_2 b5985 e5986
      obtain ⟨b5988, e5989, h5990⟩ := I55.fld (h5984) 20 13 20 rfl
      have hq55_3 := hq55_3 b5988 e5989
      have J82 : ∀ (v82_s0 : Int32), (0 ≤ a1.toInt ∧ a1.toInt ≤ 3) → (1 ≤ a2.toInt ∧ a2.toInt ≤ 39) → (0 ≤ v55_4.toInt ∧ v55_4.toInt ≤ 38) → (0 ≤ v82_s0.toInt ∧ v82_s0.toInt ≤ 1) → (0 ≤ (pI P55 a0 0).toInt ∧ (pI P55 a0 0).toInt ≤ 0) → (∀ b, pR P55 a0 10 = some b → 1 ≤ (pI P55 b 0).toInt ∧ (pI P55 b 0).toInt ≤ 16) → (∀ b, pR P55 a0 10 = some b → 1 ≤ (pI P55 b 1).toInt ∧ (pI P55 b 1).toInt ≤ 16) → (∀ b, pR P55 a0 20 = some b → 1 ≤ (pI P55 b (a1.toInt.toNat)).toInt ∧ (pI P55 b (a1.toInt.toNat)).toInt ≤ 40) → G E ({ frames := 8, cells := 0, slots := 0, locals := 512 } : Room) D cy 7 P55 0 0 82 [(0, .ref a0), (1, .int a1), (2, .int a2), (4, .int v55_4)] [.int v82_s0, .int v55_3] := by
        intro v82_s0 hv82_1 hv82_2 hv82_4 hv82_s0 hq82_0 hq82_1 hq82_2 hq82_3
        have h5991 := X55.at ha0
        obtain ⟨b5992, e5993, h5994⟩ := I55.fld (h5991) 10 13 2 rfl
        have hq82_1 := hq82_1 b5992 e5993
        have hq82_2 := hq82_2 b5992 e5993
        obtain ⟨b5995, e5996, h5997⟩ := I55.fld (h5991) 20 13 20 rfl
        have hq82_3 := hq82_3 b5995 e5996
        refine a_iadd C dX12_apart_82 (fun z5998 => ?_)
        refine g_istore_n (lv' := [(3, .int z5998), (0, .ref a0), (1, .int a1), (2, .int a2), (4, .int v55_4)]) C dX12_apart_83 rfl (by decide) rfl ?_
        refine s_iinc (lv0 := [(3, .int z5998), (0, .ref a0), (1, .int a1), (2, .int a2)]) (m := 1) C dX12_apart_84 4 rfl (by decide) rfl (by decide) (by omega) (fun z6000 h6001 => ?_)
        have h6001 : z6000.toInt = v55_4.toInt + 1 := h6001
        refine g_goto C 55 dX12_apart_87 (by decide) ?_
        refine g_lv (lv' := [(0, .ref a0), (1, .int a1), (2, .int a2), (3, .int z5998), (4, .int z6000)]) [2, 3, 4, 1, 0] rfl ?_
        exact ih55 P55 z5998 z6000 (by omega) I55 X55 W55 (by omega) (by omega) (by omega) (by omega) (fun b9 e9 => by rw [e5993] at e9; cases e9; omega) (fun b9 e9 => by rw [e5993] at e9; cases e9; omega) (fun b9 e9 => by rw [e5996] at e9; cases e9; omega)
      refine g_iload C dX12_apart_55 4 rfl ?_
      refine g_iload_n C dX12_apart_57 rfl 2 rfl ?_
      refine b_icmp_ge C 90 dX12_apart_58 (by decide) (fun h6002 => ?_) (fun h6002 => ?_)
      · have h6002 : a2.toInt ≤ v55_4.toInt := h6002
        refine g_iconst (v := 0) C dX12_apart_90 (by decide) ?_
        refine g_istore (lv' := [(4, .int 0), (0, .ref a0), (1, .int a1), (2, .int a2), (3, .int v55_3)]) C dX12_apart_91 (by decide) rfl ?_
        refine g_iconst (v := 0) C dX12_apart_93 (by decide) ?_
        refine g_istore (lv' := [(5, .int 0), (4, .int 0), (0, .ref a0), (1, .int a1), (2, .int a2), (3, .int v55_3)]) C dX12_apart_94 (by decide) rfl ?_
        refine g_iconst (v := 0) C dX12_apart_96 (by decide) ?_
        refine g_istore (lv' := [(6, .int 0), (5, .int 0), (4, .int 0), (0, .ref a0), (1, .int a1), (2, .int a2), (3, .int v55_3)]) C dX12_apart_97 (by decide) rfl ?_
        refine g_lv (lv' := [(0, .ref a0), (1, .int a1), (3, .int v55_3), (4, .int 0), (5, .int 0), (6, .int 0)]) [3, 4, 6, 2, 1, 0] rfl ?_
        exact J99 _ P55 v55_3 0 0 0 (Nat.lt_succ_self _) I55 X55 W55 (by omega) (by decide) (by decide) (by decide) (by omega) (fun b9 e9 => by rw [e5986] at e9; cases e9; omega) (fun b9 e9 => by rw [e5986] at e9; cases e9; omega) (fun b9 e9 => by rw [e5989] at e9; cases e9; omega)
      · have h6002 : v55_4.toInt < a2.toInt := h6002
        refine g_iload_n C dX12_apart_61 rfl 3 rfl ?_
        refine g_aload_n C dX12_apart_62 rfl 0 rfl ?_
        obtain ⟨b6003, e6004, h6005⟩ := I55.fld (h5984) 22 13 800 rfl
        refine g_getR C fi_X12_75 rfl e6004 (h5984).1 (h5984).2 dX12_apart_63 ?_
        refine g_bipush (v := 40) C dX12_apart_66 (by decide) ?_
        refine g_iload_n C dX12_apart_68 rfl 1 rfl ?_
        refine s_imul C dX12_apart_69 (by show -2147483648 ≤ 40 * a1.toInt ∧ 40 * a1.toInt ≤ 2147483647; omega) (fun z6006 h6007 => ?_)
        have h6007 : z6006.toInt = 40 * a1.toInt := h6007
        refine g_iload C dX12_apart_70 4 rfl ?_
        refine s_iadd C dX12_apart_72 (by show -2147483648 ≤ z6006.toInt + v55_4.toInt ∧ z6006.toInt + v55_4.toInt ≤ 2147483647; omega) (fun z6008 h6009 => ?_)
        have h6009 : z6008.toInt = z6006.toInt + v55_4.toInt := h6009
        refine g_iald (j := (z6008.toInt.toNat)) C h6005.1 h6005.2.1 (ix_in h6005.2.2 (by omega)) dX12_apart_73 ?_
        have h6010 := I55.arr e6004 rfl (z6008.toInt.toNat)
        refine b_if_ge C 81 dX12_apart_74 (by decide) (fun h6011 => ?_) (fun h6011 => ?_)
        · have h6011 : 0 ≤ (pI P55 b6003 (z6008.toInt.toNat)).toInt := h6011
          refine g_iconst (v := 0) C dX12_apart_81 (by decide) ?_
          refine g_lv (lv' := [(0, .ref a0), (1, .int a1), (2, .int a2), (4, .int v55_4)]) [0, 1, 2, 4] rfl ?_
          exact J82 0 (by omega) (by omega) (by omega) (by decide) (by omega) (fun b9 e9 => by rw [e5986] at e9; cases e9; omega) (fun b9 e9 => by rw [e5986] at e9; cases e9; omega) (fun b9 e9 => by rw [e5989] at e9; cases e9; omega)
        · have h6011 : (pI P55 b6003 (z6008.toInt.toNat)).toInt < 0 := h6011
          refine g_iconst (v := 1) C dX12_apart_77 (by decide) ?_
          refine g_goto C 82 dX12_apart_78 (by decide) ?_
          refine g_lv (lv' := [(0, .ref a0), (1, .int a1), (2, .int a2), (4, .int v55_4)]) [0, 1, 2, 4] rfl ?_
          exact J82 1 (by omega) (by omega) (by omega) (by decide) (by omega) (fun b9 e9 => by rw [e5986] at e9; cases e9; omega) (fun b9 e9 => by rw [e5986] at e9; cases e9; omega) (fun b9 e9 => by rw [e5989] at e9; cases e9; omega)
  have J44 : ∀ (P44 : PP), (IM P44 a0) → (EM [0, 28, 29, 30, 31, 32, 35, 36, 37, 38] a0 P P44) → (MW P44 a0) → (0 ≤ (pI P44 a0 0).toInt ∧ (pI P44 a0 0).toInt ≤ 0) → G E ({ frames := 8, cells := 0, slots := 0, locals := 512 } : Room) D cy 7 P44 0 0 44 [] [] := by
    intro P44 I44 X44 W44 hq44_0
    have h6012 := X44.at ha0
    refine g_iconst (v := (-1)) C dX12_apart_44 (by decide) ?_
    exact ret _ _ _ _ _ _ dX12_apart_45 rfl (by decide) (by decide) ⟨I44, X44, W44, (by decide)⟩
  refine g_aload_n C dX12_apart_0 rfl 0 rfl ?_
  refine g_iconst (v := 0) C dX12_apart_1 (by decide) ?_
  refine g_putI C fi_X12_1 rfl (ha0).1 (ha0).2 dX12_apart_2 ?_
  refine gqW (ks := [0]) (I.setI (rgOk.of rfl (by decide))) (EM.setI I (by decide)) (fun Y6013 Iy6014 Xy6015 w6016 => ?_)
  have w6016 : (pI Y6013 a0 0).toInt = 0 := w6016
  have W6017 := hW.keep I Xy6015 (by decide) (by decide) (by decide)
  have Xz6018 : EM [0, 28, 29, 30, 31, 32, 35, 36, 37, 38] a0 P Y6013 := Xy6015.mono (by decide)
  have h6019 := Xy6015.at ha0
  refine g_aload_n C dX12_apart_5 rfl 0 rfl ?_
  refine g_iload_n C dX12_apart_6 rfl 1 rfl ?_
  refine g_iload_n C dX12_apart_7 rfl 2 rfl ?_
  refine g_callVI (rest := []) C mv_X12_298 [.int a1, .int a2] (s_X12_isPaper Iy6014 W6017) (h6019).1 (h6019).2 rfl rfl (by decide) (Nat.le_of_ble_eq_true rfl) (by decide) dX12_apart_8 (fun r6020 Y6021 h6022 => ?_)
  obtain ⟨rfl, h6022⟩ := h6022
  obtain ⟨h6022, hi6023, hi6024⟩ := h6022
  have hi6023 : r6020.toInt = 0 ∨ (((0 : Int) ≤ a1.toInt ∧ a1.toInt ≤ (3 : Int)) ∧ ((0 : Int) ≤ a2.toInt ∧ a2.toInt ≤ (39 : Int))) := hi6023
  have h6022 : 0 ≤ r6020.toInt ∧ r6020.toInt ≤ 1 := h6022
  refine b_if_eq C 44 dX12_apart_11 (by decide) (fun h6025 => ?_) (fun h6025 => ?_)
  · have h6025 : r6020.toInt = 0 := congrArg Int32.toInt h6025
    clear hi6023
    refine g_lv (lv' := []) [] rfl ?_
    exact J44 Y6013 Iy6014 Xz6018 W6017 (by omega)
  · have h6025 : r6020.toInt ≠ 0 := ti_ne h6025
    replace hi6023 := hi6023.resolve_left (by omega)
    obtain ⟨b6026, e6027, h6028⟩ := Iy6014.fld (h6019) 20 13 20 rfl
    have hi6024 := (hi6024.resolve_left (by omega)) b6026 e6027
    have hi6024 : a2.toInt < (pI Y6013 b6026 (a1.toInt.toNat)).toInt ∧ 0 ≤ a2.toInt := hi6024
    have h6029 := Iy6014.arr e6027 rfl (a1.toInt.toNat)
    refine g_aload_n C dX12_apart_14 rfl 0 rfl ?_
    obtain ⟨b6030, e6031, h6032⟩ := Iy6014.fld (h6019) 22 13 800 rfl
    refine g_getR C fi_X12_75 rfl e6031 (h6019).1 (h6019).2 dX12_apart_15 ?_
    refine g_bipush (v := 40) C dX12_apart_18 (by decide) ?_
    refine g_iload_n C dX12_apart_20 rfl 1 rfl ?_
    refine s_imul C dX12_apart_21 (by show -2147483648 ≤ 40 * a1.toInt ∧ 40 * a1.toInt ≤ 2147483647; omega) (fun z6033 h6034 => ?_)
    have h6034 : z6033.toInt = 40 * a1.toInt := h6034
    refine g_iload_n C dX12_apart_22 rfl 2 rfl ?_
    refine s_iadd C dX12_apart_23 (by show -2147483648 ≤ z6033.toInt + a2.toInt ∧ z6033.toInt + a2.toInt ≤ 2147483647; omega) (fun z6035 h6036 => ?_)
    have h6036 : z6035.toInt = z6033.toInt + a2.toInt := h6036
    refine g_iald (j := (z6035.toInt.toNat)) C h6032.1 h6032.2.1 (ix_in h6032.2.2 (by omega)) dX12_apart_24 ?_
    have h6037 := Iy6014.arr e6031 rfl (z6035.toInt.toNat)
    refine b_if_ge C 44 dX12_apart_25 (by decide) (fun h6038 => ?_) (fun h6038 => ?_)
    · have h6038 : 0 ≤ (pI Y6013 b6030 (z6035.toInt.toNat)).toInt := h6038
      refine g_lv (lv' := []) [] rfl ?_
      exact J44 Y6013 Iy6014 Xz6018 W6017 (by omega)
    · have h6038 : (pI Y6013 b6030 (z6035.toInt.toNat)).toInt < 0 := h6038
      refine g_aload_n C dX12_apart_28 rfl 0 rfl ?_
      refine g_iconst (v := 0) C dX12_apart_29 (by decide) ?_
      refine g_callVI (rest := []) C mv_X12_192 [.int 0] (s_X12_isBook Iy6014 W6017) (h6019).1 (h6019).2 rfl rfl (by decide) (Nat.le_of_ble_eq_true rfl) (by decide) dX12_apart_30 (fun r6039 Y6040 h6041 => ?_)
      obtain ⟨rfl, h6041⟩ := h6041
      obtain ⟨h6041, hi6042, hi6043⟩ := h6041
      have hi6042 : r6039.toInt = 0 ∨ (((0 : Int) ≤ 0 ∧ 0 ≤ (1 : Int))) := hi6042
      have h6041 : 0 ≤ r6039.toInt ∧ r6039.toInt ≤ 1 := h6041
      refine b_if_eq C 44 dX12_apart_33 (by decide) (fun h6044 => ?_) (fun h6044 => ?_)
      · have h6044 : r6039.toInt = 0 := congrArg Int32.toInt h6044
        clear hi6042
        refine g_lv (lv' := []) [] rfl ?_
        exact J44 Y6013 Iy6014 Xz6018 W6017 (by omega)
      · have h6044 : r6039.toInt ≠ 0 := ti_ne h6044
        replace hi6042 := hi6042.resolve_left (by omega)
        obtain ⟨b6045, e6046, h6047⟩ := Iy6014.fld (h6019) 10 13 2 rfl
        have hi6043 := (hi6043.resolve_left (by omega)) b6045 e6046
        have hi6043 : 0 < (pI Y6013 b6045 0).toInt := hi6043
        have h6048 := Iy6014.arr e6046 rfl 0
        refine g_aload_n C dX12_apart_36 rfl 0 rfl ?_
        refine g_iconst (v := 1) C dX12_apart_37 (by decide) ?_
        refine g_callVI (rest := []) C mv_X12_192 [.int 1] (s_X12_isBook Iy6014 W6017) (h6019).1 (h6019).2 rfl rfl (by decide) (Nat.le_of_ble_eq_true rfl) (by decide) dX12_apart_38 (fun r6049 Y6050 h6051 => ?_)
        obtain ⟨rfl, h6051⟩ := h6051
        obtain ⟨h6051, hi6052, hi6053⟩ := h6051
        have hi6052 : r6049.toInt = 0 ∨ (((0 : Int) ≤ 1 ∧ 1 ≤ (1 : Int))) := hi6052
        have h6051 : 0 ≤ r6049.toInt ∧ r6049.toInt ≤ 1 := h6051
        refine b_if_ne C 46 dX12_apart_41 (by decide) (fun h6054 => ?_) (fun h6054 => ?_)
        · have h6054 : r6049.toInt ≠ 0 := ti_ne h6054
          replace hi6052 := hi6052.resolve_left (by omega)
          have hi6053 := (hi6053.resolve_left (by omega)) b6045 e6046
          have hi6053 : 0 < (pI Y6013 b6045 1).toInt := hi6053
          have h6055 := Iy6014.arr e6046 rfl 1
          refine g_aload_n C dX12_apart_46 rfl 0 rfl ?_
          refine g_callVV (rest := []) C mv_X12_336 [] (s_X12_leavesNone Iy6014 W6017) (h6019).1 (h6019).2 rfl rfl (by decide) (Nat.le_of_ble_eq_true rfl) (by decide) dX12_apart_47 (fun Y6057 h6058 => ?_)
          obtain ⟨Iy6059, Xy6060, W6061⟩ := h6058
          have q6062 := Xy6060.keepF 0 (by decide)
          have q6063 := Xy6060.keepA e6027 (by decide) rfl (a1.toInt.toNat)
          have q6064 := Xy6060.keepA e6031 (by decide) rfl (z6035.toInt.toNat)
          have q6065 := Xy6060.keepA e6046 (by decide) rfl 0
          have q6066 := Xy6060.keepA e6046 (by decide) rfl 1
          have Xz6067 : EM [0, 28, 29, 30, 31, 32, 35, 36, 37, 38] a0 P Y6057 := EM.tr ha0 Xz6018 (Xy6060.mono (by decide))
          have e6068 := Xy6060.ref h6019 (by decide) e6027
          have e6069 := Xy6060.ref h6019 (by decide) e6031
          have e6070 := Xy6060.ref h6019 (by decide) e6046
          have h6071 := Xy6060.at h6019
          have h6072 := Xy6060.ar h6028
          have h6073 := Xy6060.ar h6032
          have h6074 := Xy6060.ar h6047
          refine g_iconst (v := 0) C dX12_apart_50 (by decide) ?_
          refine g_istore_n (lv' := [(3, .int 0), (0, .ref a0), (1, .int a1), (2, .int a2)]) C dX12_apart_51 rfl (by decide) rfl ?_
          refine g_iconst (v := 0) C dX12_apart_52 (by decide) ?_
          refine g_istore (lv' := [(4, .int 0), (3, .int 0), (0, .ref a0), (1, .int a1), (2, .int a2)]) C dX12_apart_53 (by decide) rfl ?_
          refine g_lv (lv' := [(0, .ref a0), (1, .int a1), (2, .int a2), (3, .int 0), (4, .int 0)]) [2, 3, 4, 1, 0] rfl ?_
          exact J55 _ Y6057 0 0 (Nat.lt_succ_self _) Iy6059 Xz6067 W6061 (by omega) (by omega) (by decide) (by omega) (fun b9 e9 => by rw [e6070] at e9; cases e9; omega) (fun b9 e9 => by rw [e6070] at e9; cases e9; omega) (fun b9 e9 => by rw [e6068] at e9; cases e9; omega)
        · have h6054 : r6049.toInt = 0 := congrArg Int32.toInt h6054
          clear hi6052
          refine g_lv (lv' := []) [] rfl ?_
          exact J44 Y6013 Iy6014 Xz6018 W6017 (by omega)
theorem dX12_areChances_0 : decode cX12_areChances 0 = .ok (.aload_n 0, 1) := by decide +kernel
theorem dX12_areChances_1 : decode cX12_areChances 1 = .ok (.iload_n 1, 1) := by decide +kernel
theorem dX12_areChances_2 : decode cX12_areChances 2 = .ok (.invokevirtual 192, 3) := by decide +kernel
theorem dX12_areChances_5 : decode cX12_areChances 5 = .ok (.ifCond .eq 26, 3) := by decide +kernel
theorem dX12_areChances_8 : decode cX12_areChances 8 = .ok (.iload_n 2, 1) := by decide +kernel
theorem dX12_areChances_9 : decode cX12_areChances 9 = .ok (.iconst 1, 1) := by decide +kernel
theorem dX12_areChances_10 : decode cX12_areChances 10 = .ok (.bipush 11, 2) := by decide +kernel
theorem dX12_areChances_12 : decode cX12_areChances 12 = .ok (.invokestatic 178, 3) := by decide +kernel
theorem dX12_areChances_15 : decode cX12_areChances 15 = .ok (.ifCond .eq 16, 3) := by decide +kernel
theorem dX12_areChances_18 : decode cX12_areChances 18 = .ok (.iload_n 3, 1) := by decide +kernel
theorem dX12_areChances_19 : decode cX12_areChances 19 = .ok (.iconst 0, 1) := by decide +kernel
theorem dX12_areChances_20 : decode cX12_areChances 20 = .ok (.iconst 1, 1) := by decide +kernel
theorem dX12_areChances_21 : decode cX12_areChances 21 = .ok (.invokestatic 178, 3) := by decide +kernel
theorem dX12_areChances_24 : decode cX12_areChances 24 = .ok (.ifCond .eq 7, 3) := by decide +kernel
theorem dX12_areChances_27 : decode cX12_areChances 27 = .ok (.iconst 1, 1) := by decide +kernel
theorem dX12_areChances_28 : decode cX12_areChances 28 = .ok (.goto 4, 3) := by decide +kernel
theorem dX12_areChances_31 : decode cX12_areChances 31 = .ok (.iconst 0, 1) := by decide +kernel
theorem dX12_areChances_32 : decode cX12_areChances 32 = .ok (.ireturn, 1) := by decide +kernel
set_option maxHeartbeats 4000000 in
set_option maxRecDepth 100000 in
theorem s_X12_areChances {P : PP} {a0 : Nat} {a1 : Int32} {a2 : Int32} {a3 : Int32} (I : IM P a0) (hW : MW P a0) : CtrI yX12_areChances cX12_areChances 4 (some Jvm.ClassFile.FieldType.boolean) ({ frames := 3, cells := 0, slots := 0, locals := 192 } : Room) 0 0 P [.ref a0, .int a1, .int a2, .int a3] (fun r P2 => P = P2 ∧ (0 ≤ r.toInt ∧ r.toInt ≤ 1) ∧ (r.toInt = 0 ∨ (((0 : Int) ≤ a1.toInt ∧ a1.toInt ≤ (1 : Int)) ∧ ((1 : Int) ≤ a2.toInt ∧ a2.toInt ≤ (11 : Int)) ∧ ((0 : Int) ≤ a3.toInt ∧ a3.toInt ≤ (1 : Int)))) ∧ (r.toInt = 0 ∨ ∀ b, pR P2 a0 10 = some b → 0 < (pI P2 b (a1.toInt.toNat)).toInt)) := by
  refine enI (lv := [(0, .ref a0), (1, .int a1), (2, .int a2), (3, .int a3)]) (by decide) (Nat.le_of_ble_eq_true rfl) rfl (fun E D cy C Ci0 ret => ?_)
  have ha0 := I.2.1
  have J31 : G E ({ frames := 3, cells := 0, slots := 0, locals := 192 } : Room) D cy 4 P 0 0 31 [] [] := by
    refine g_iconst (v := 0) C dX12_areChances_31 (by decide) ?_
    exact ret _ _ _ _ _ _ dX12_areChances_32 rfl (by decide) (by decide) ⟨rfl, (by decide), Or.inl rfl, Or.inl rfl⟩
  refine g_aload_n C dX12_areChances_0 rfl 0 rfl ?_
  refine g_iload_n C dX12_areChances_1 rfl 1 rfl ?_
  refine g_callVI (rest := []) C mv_X12_192 [.int a1] (s_X12_isBook I hW) (ha0).1 (ha0).2 rfl rfl (by decide) (Nat.le_of_ble_eq_true rfl) (by decide) dX12_areChances_2 (fun r6095 Y6096 h6097 => ?_)
  obtain ⟨rfl, h6097⟩ := h6097
  obtain ⟨h6097, hi6098, hi6099⟩ := h6097
  have hi6098 : r6095.toInt = 0 ∨ (((0 : Int) ≤ a1.toInt ∧ a1.toInt ≤ (1 : Int))) := hi6098
  have h6097 : 0 ≤ r6095.toInt ∧ r6095.toInt ≤ 1 := h6097
  refine b_if_eq C 31 dX12_areChances_5 (by decide) (fun h6100 => ?_) (fun h6100 => ?_)
  · have h6100 : r6095.toInt = 0 := congrArg Int32.toInt h6100
    clear hi6098
    refine g_lv (lv' := []) [] rfl ?_
    exact J31 
  · have h6100 : r6095.toInt ≠ 0 := ti_ne h6100
    replace hi6098 := hi6098.resolve_left (by omega)
    obtain ⟨b6101, e6102, h6103⟩ := I.fld (ha0) 10 13 2 rfl
    have hi6099 := (hi6099.resolve_left (by omega)) b6101 e6102
    have hi6099 : 0 < (pI P b6101 (a1.toInt.toNat)).toInt := hi6099
    have h6104 := I.arr e6102 rfl (a1.toInt.toNat)
    refine g_iload_n C dX12_areChances_8 rfl 2 rfl ?_
    refine g_iconst (v := 1) C dX12_areChances_9 (by decide) ?_
    refine g_bipush (v := 11) C dX12_areChances_10 (by decide) ?_
    refine g_callSI (b := 0) (ci := 0) (rest := []) C ms_X12_178 [.int a2, .int 1, .int 11] (s_X12_within I.1) rfl rfl (by decide) (Nat.le_of_ble_eq_true rfl) (by decide) dX12_areChances_12 (fun r6105 Y6106 h6107 => ?_)
    obtain ⟨rfl, h6107⟩ := h6107
    obtain ⟨h6107, hi6108⟩ := h6107
    have hi6108 : r6105.toInt = 0 ∨ (1 ≤ a2.toInt ∧ a2.toInt ≤ 11) := hi6108
    have h6107 : 0 ≤ r6105.toInt ∧ r6105.toInt ≤ 1 := h6107
    refine b_if_eq C 31 dX12_areChances_15 (by decide) (fun h6109 => ?_) (fun h6109 => ?_)
    · have h6109 : r6105.toInt = 0 := congrArg Int32.toInt h6109
      clear hi6108
      refine g_lv (lv' := []) [] rfl ?_
      exact J31 
    · have h6109 : r6105.toInt ≠ 0 := ti_ne h6109
      replace hi6108 := hi6108.resolve_left (by omega)
      refine g_iload_n C dX12_areChances_18 rfl 3 rfl ?_
      refine g_iconst (v := 0) C dX12_areChances_19 (by decide) ?_
      refine g_iconst (v := 1) C dX12_areChances_20 (by decide) ?_
      refine g_callSI (b := 0) (ci := 0) (rest := []) C ms_X12_178 [.int a3, .int 0, .int 1] (s_X12_within I.1) rfl rfl (by decide) (Nat.le_of_ble_eq_true rfl) (by decide) dX12_areChances_21 (fun r6110 Y6111 h6112 => ?_)
      obtain ⟨rfl, h6112⟩ := h6112
      obtain ⟨h6112, hi6113⟩ := h6112
      have hi6113 : r6110.toInt = 0 ∨ (0 ≤ a3.toInt ∧ a3.toInt ≤ 1) := hi6113
      have h6112 : 0 ≤ r6110.toInt ∧ r6110.toInt ≤ 1 := h6112
      refine b_if_eq C 31 dX12_areChances_24 (by decide) (fun h6114 => ?_) (fun h6114 => ?_)
      · have h6114 : r6110.toInt = 0 := congrArg Int32.toInt h6114
        clear hi6113
        refine g_lv (lv' := []) [] rfl ?_
        exact J31 
      · have h6114 : r6110.toInt ≠ 0 := ti_ne h6114
        replace hi6113 := hi6113.resolve_left (by omega)
        refine g_iconst (v := 1) C dX12_areChances_27 (by decide) ?_
        refine g_goto C 32 dX12_areChances_28 (by decide) ?_
        exact ret _ _ _ _ _ _ dX12_areChances_32 rfl (by decide) (by decide) ⟨rfl, (by decide), Or.inr (by omega), Or.inr (fun b9 e9 => by rw [e6102] at e9; cases e9; show 0 < (pI P b6101 (a1.toInt.toNat)).toInt; omega)⟩
theorem s_X12_average {P : PP} {a0 : Nat} {a1 a2 a3 a4 : Int32} (I : IM P a0) (hW : MW P a0) : CtrL yX12_average cX12_average 16 (some .long) ({ frames := 8, cells := 0, slots := 0, locals := 512 } : Room) 0 0 P [.ref a0, .int a1, .int a2, .int a3, .int a4] (fun _ P2 => IM P2 a0 ∧ EM [0, 28, 29, 30, 31, 33, 34, 35, 36, 37, 38, 43] a0 P P2 ∧ MW P2 a0 ∧ (True)) := by
  sorry
theorem dX12_away_0 : decode cX12_away 0 = .ok (.aload_n 0, 1) := by decide +kernel
theorem dX12_away_1 : decode cX12_away 1 = .ok (.iconst 0, 1) := by decide +kernel
theorem dX12_away_2 : decode cX12_away 2 = .ok (.putfield 1, 3) := by decide +kernel
theorem dX12_away_5 : decode cX12_away 5 = .ok (.aload_n 0, 1) := by decide +kernel
theorem dX12_away_6 : decode cX12_away 6 = .ok (.iload_n 1, 1) := by decide +kernel
theorem dX12_away_7 : decode cX12_away 7 = .ok (.iload_n 2, 1) := by decide +kernel
theorem dX12_away_8 : decode cX12_away 8 = .ok (.invokevirtual 298, 3) := by decide +kernel
theorem dX12_away_11 : decode cX12_away 11 = .ok (.ifCond .ne 5, 3) := by decide +kernel
theorem dX12_away_16 : decode cX12_away 16 = .ok (.aload_n 0, 1) := by decide +kernel
theorem dX12_away_17 : decode cX12_away 17 = .ok (.iload_n 1, 1) := by decide +kernel
theorem dX12_away_18 : decode cX12_away 18 = .ok (.iload_n 2, 1) := by decide +kernel
theorem dX12_away_19 : decode cX12_away 19 = .ok (.invokevirtual 185, 3) := by decide +kernel
theorem dX12_takesOut_0 : decode cX12_takesOut 0 = .ok (.aload_n 0, 1) := by decide +kernel
theorem dX12_takesOut_1 : decode cX12_takesOut 1 = .ok (.getfield 69, 3) := by decide +kernel
theorem dX12_takesOut_4 : decode cX12_takesOut 4 = .ok (.iload_n 1, 1) := by decide +kernel
theorem dX12_takesOut_5 : decode cX12_takesOut 5 = .ok (.dup2, 1) := by decide +kernel
theorem dX12_takesOut_6 : decode cX12_takesOut 6 = .ok (.iaload, 1) := by decide +kernel
theorem dX12_takesOut_7 : decode cX12_takesOut 7 = .ok (.iconst 1, 1) := by decide +kernel
theorem dX12_takesOut_8 : decode cX12_takesOut 8 = .ok (.isub, 1) := by decide +kernel
theorem dX12_takesOut_9 : decode cX12_takesOut 9 = .ok (.iastore, 1) := by decide +kernel
theorem dX12_takesOut_10 : decode cX12_takesOut 10 = .ok (.iload_n 2, 1) := by decide +kernel
theorem dX12_takesOut_11 : decode cX12_takesOut 11 = .ok (.istore_n 3, 1) := by decide +kernel
theorem dX12_takesOut_12 : decode cX12_takesOut 12 = .ok (.iload_n 3, 1) := by decide +kernel
theorem dX12_takesOut_13 : decode cX12_takesOut 13 = .ok (.aload_n 0, 1) := by decide +kernel
theorem dX12_takesOut_14 : decode cX12_takesOut 14 = .ok (.getfield 69, 3) := by decide +kernel
theorem dX12_takesOut_17 : decode cX12_takesOut 17 = .ok (.iload_n 1, 1) := by decide +kernel
theorem dX12_takesOut_18 : decode cX12_takesOut 18 = .ok (.iaload, 1) := by decide +kernel
theorem dX12_takesOut_19 : decode cX12_takesOut 19 = .ok (.if_icmp .ge 27, 3) := by decide +kernel
theorem dX12_takesOut_22 : decode cX12_takesOut 22 = .ok (.aload_n 0, 1) := by decide +kernel
theorem dX12_takesOut_23 : decode cX12_takesOut 23 = .ok (.bipush 40, 2) := by decide +kernel
theorem dX12_takesOut_25 : decode cX12_takesOut 25 = .ok (.iload_n 1, 1) := by decide +kernel
theorem dX12_takesOut_26 : decode cX12_takesOut 26 = .ok (.imul, 1) := by decide +kernel
theorem dX12_takesOut_27 : decode cX12_takesOut 27 = .ok (.iload_n 3, 1) := by decide +kernel
theorem dX12_takesOut_28 : decode cX12_takesOut 28 = .ok (.iadd, 1) := by decide +kernel
theorem dX12_takesOut_29 : decode cX12_takesOut 29 = .ok (.iconst 1, 1) := by decide +kernel
theorem dX12_takesOut_30 : decode cX12_takesOut 30 = .ok (.iadd, 1) := by decide +kernel
theorem dX12_takesOut_31 : decode cX12_takesOut 31 = .ok (.bipush 40, 2) := by decide +kernel
theorem dX12_takesOut_33 : decode cX12_takesOut 33 = .ok (.iload_n 1, 1) := by decide +kernel
theorem dX12_takesOut_34 : decode cX12_takesOut 34 = .ok (.imul, 1) := by decide +kernel
theorem dX12_takesOut_35 : decode cX12_takesOut 35 = .ok (.iload_n 3, 1) := by decide +kernel
theorem dX12_takesOut_36 : decode cX12_takesOut 36 = .ok (.iadd, 1) := by decide +kernel
theorem dX12_takesOut_37 : decode cX12_takesOut 37 = .ok (.invokevirtual 274, 3) := by decide +kernel
theorem dX12_takesOut_46 : decode cX12_takesOut 46 = .ok (.return_, 1) := by decide +kernel
theorem dX12_moves_0 : decode cX12_moves 0 = .ok (.aload_n 0, 1) := by decide +kernel
theorem dX12_moves_1 : decode cX12_moves 1 = .ok (.getfield 72, 3) := by decide +kernel
theorem dX12_moves_4 : decode cX12_moves 4 = .ok (.iload_n 2, 1) := by decide +kernel
theorem dX12_moves_5 : decode cX12_moves 5 = .ok (.aload_n 0, 1) := by decide +kernel
theorem dX12_moves_6 : decode cX12_moves 6 = .ok (.getfield 72, 3) := by decide +kernel
theorem dX12_moves_9 : decode cX12_moves 9 = .ok (.iload_n 1, 1) := by decide +kernel
theorem dX12_moves_10 : decode cX12_moves 10 = .ok (.iaload, 1) := by decide +kernel
theorem dX12_moves_11 : decode cX12_moves 11 = .ok (.iastore, 1) := by decide +kernel
theorem dX12_moves_12 : decode cX12_moves 12 = .ok (.aload_n 0, 1) := by decide +kernel
theorem dX12_moves_13 : decode cX12_moves 13 = .ok (.getfield 75, 3) := by decide +kernel
theorem dX12_moves_16 : decode cX12_moves 16 = .ok (.iload_n 2, 1) := by decide +kernel
theorem dX12_moves_17 : decode cX12_moves 17 = .ok (.aload_n 0, 1) := by decide +kernel
theorem dX12_moves_18 : decode cX12_moves 18 = .ok (.getfield 75, 3) := by decide +kernel
theorem dX12_moves_21 : decode cX12_moves 21 = .ok (.iload_n 1, 1) := by decide +kernel
theorem dX12_moves_22 : decode cX12_moves 22 = .ok (.iaload, 1) := by decide +kernel
theorem dX12_moves_23 : decode cX12_moves 23 = .ok (.iastore, 1) := by decide +kernel
theorem dX12_moves_24 : decode cX12_moves 24 = .ok (.aload_n 0, 1) := by decide +kernel
theorem dX12_moves_25 : decode cX12_moves 25 = .ok (.getfield 78, 3) := by decide +kernel
theorem dX12_moves_28 : decode cX12_moves 28 = .ok (.iload_n 2, 1) := by decide +kernel
theorem dX12_moves_29 : decode cX12_moves 29 = .ok (.aload_n 0, 1) := by decide +kernel
theorem dX12_moves_30 : decode cX12_moves 30 = .ok (.getfield 78, 3) := by decide +kernel
theorem dX12_moves_33 : decode cX12_moves 33 = .ok (.iload_n 1, 1) := by decide +kernel
theorem dX12_moves_34 : decode cX12_moves 34 = .ok (.iaload, 1) := by decide +kernel
theorem dX12_moves_35 : decode cX12_moves 35 = .ok (.iastore, 1) := by decide +kernel
theorem dX12_moves_36 : decode cX12_moves 36 = .ok (.aload_n 0, 1) := by decide +kernel
theorem dX12_moves_37 : decode cX12_moves 37 = .ok (.getfield 81, 3) := by decide +kernel
theorem dX12_moves_40 : decode cX12_moves 40 = .ok (.iload_n 2, 1) := by decide +kernel
theorem dX12_moves_41 : decode cX12_moves 41 = .ok (.aload_n 0, 1) := by decide +kernel
theorem dX12_moves_42 : decode cX12_moves 42 = .ok (.getfield 81, 3) := by decide +kernel
theorem dX12_moves_45 : decode cX12_moves 45 = .ok (.iload_n 1, 1) := by decide +kernel
theorem dX12_moves_46 : decode cX12_moves 46 = .ok (.iaload, 1) := by decide +kernel
theorem dX12_moves_47 : decode cX12_moves 47 = .ok (.iastore, 1) := by decide +kernel
theorem dX12_moves_48 : decode cX12_moves 48 = .ok (.aload_n 0, 1) := by decide +kernel
theorem dX12_moves_49 : decode cX12_moves 49 = .ok (.getfield 84, 3) := by decide +kernel
theorem dX12_moves_52 : decode cX12_moves 52 = .ok (.iload_n 2, 1) := by decide +kernel
theorem dX12_moves_53 : decode cX12_moves 53 = .ok (.aload_n 0, 1) := by decide +kernel
theorem dX12_moves_54 : decode cX12_moves 54 = .ok (.getfield 84, 3) := by decide +kernel
theorem dX12_moves_57 : decode cX12_moves 57 = .ok (.iload_n 1, 1) := by decide +kernel
theorem dX12_moves_58 : decode cX12_moves 58 = .ok (.iaload, 1) := by decide +kernel
theorem dX12_moves_59 : decode cX12_moves 59 = .ok (.iastore, 1) := by decide +kernel
theorem dX12_moves_60 : decode cX12_moves 60 = .ok (.return_, 1) := by decide +kernel
set_option maxHeartbeats 4000000 in
set_option maxRecDepth 100000 in
theorem s_X12_moves {P : PP} {a0 : Nat} {a1 : Int32} {a2 : Int32} (I : IM P a0) (ha1 : 0 ≤ a1.toInt ∧ a1.toInt ≤ 799) (ha2 : 0 ≤ a2.toInt ∧ a2.toInt ≤ 799) (hW : MW P a0) : CtrV yX12_moves cX12_moves 3 none ({ frames := 1, cells := 0, slots := 0, locals := 64 } : Room) 0 0 P [.ref a0, .int a1, .int a2] (fun P2 => IM P2 a0 ∧ EM [21, 22, 23, 24, 25] a0 P P2 ∧ MW P2 a0) := by
  refine enV (lv := [(0, .ref a0), (1, .int a1), (2, .int a2)]) (by decide) (Nat.le_of_ble_eq_true rfl) rfl (fun E D cy C Ci0 ret => ?_)
  have ha0 := I.2.1
  refine g_aload_n C dX12_moves_0 rfl 0 rfl ?_
  obtain ⟨b6253, e6254, h6255⟩ := I.fld (ha0) 21 13 800 rfl
  refine g_getR C fi_X12_72 rfl e6254 (ha0).1 (ha0).2 dX12_moves_1 ?_
  refine g_iload_n C dX12_moves_4 rfl 2 rfl ?_
  refine g_aload_n C dX12_moves_5 rfl 0 rfl ?_
  refine g_getR C fi_X12_72 rfl e6254 (ha0).1 (ha0).2 dX12_moves_6 ?_
  refine g_iload_n C dX12_moves_9 rfl 1 rfl ?_
  refine g_iald (j := (a1.toInt.toNat)) C h6255.1 h6255.2.1 (ix_in h6255.2.2 (by omega)) dX12_moves_10 ?_
  refine g_iast (j := (a2.toInt.toNat)) C h6255.1 h6255.2.1 (ix_in h6255.2.2 (by omega)) dX12_moves_11 ?_
  refine gqW (ks := [21]) (I.setA e6254 h6255 (by decide) (arOk.none rfl)) (EM.setA I e6254 rfl (by decide)) (fun Y6256 Iy6257 Xy6258 w6259 => ?_)
  have w6259 : (pI Y6256 b6253 (a2.toInt.toNat)).toInt = (pI P b6253 (a1.toInt.toNat)).toInt := w6259
  have W6260 := hW.keep I Xy6258 (by decide) (by decide) (by decide)
  have Xz6261 : EM [21, 22, 23, 24, 25] a0 P Y6256 := Xy6258.mono (by decide)
  have e6262 := Xy6258.ref ha0 (by decide) e6254
  have h6263 := Xy6258.at ha0
  have h6264 := Xy6258.ar h6255
  refine g_aload_n C dX12_moves_12 rfl 0 rfl ?_
  obtain ⟨b6265, e6266, h6267⟩ := Iy6257.fld (h6263) 22 13 800 rfl
  refine g_getR C fi_X12_75 rfl e6266 (h6263).1 (h6263).2 dX12_moves_13 ?_
  refine g_iload_n C dX12_moves_16 rfl 2 rfl ?_
  refine g_aload_n C dX12_moves_17 rfl 0 rfl ?_
  refine g_getR C fi_X12_75 rfl e6266 (h6263).1 (h6263).2 dX12_moves_18 ?_
  refine g_iload_n C dX12_moves_21 rfl 1 rfl ?_
  refine g_iald (j := (a1.toInt.toNat)) C h6267.1 h6267.2.1 (ix_in h6267.2.2 (by omega)) dX12_moves_22 ?_
  have h6268 := Iy6257.arr e6266 rfl (a1.toInt.toNat)
  refine g_iast (j := (a2.toInt.toNat)) C h6267.1 h6267.2.1 (ix_in h6267.2.2 (by omega)) dX12_moves_23 ?_
  refine gqX (ks := [22]) (W := (fun P => MW P a0)) (Iy6257.setA e6266 h6267 (by decide) (arOk.of rfl (by omega))) (EM.setA Iy6257 e6266 rfl (by decide)) (W6260.set22 Iy6257 e6266 (fun c9 f9 h9 => W6260.told e6266 f9 h9)) (fun Y6269 Iy6270 Xy6271 w6272 W6273 => ?_)
  have w6272 : (pI Y6269 b6265 (a2.toInt.toNat)).toInt = (pI Y6256 b6265 (a1.toInt.toNat)).toInt := w6272
  have q6274 := Xy6271.keepA e6262 (by decide) rfl (a2.toInt.toNat)
  have Xz6275 : EM [21, 22, 23, 24, 25] a0 P Y6269 := EM.tr ha0 Xz6261 (Xy6271.mono (by decide))
  have e6276 := Xy6271.ref h6263 (by decide) e6262
  have e6277 := Xy6271.ref h6263 (by decide) e6266
  have h6278 := Xy6271.at h6263
  have h6279 := Xy6271.ar h6264
  have h6280 := Xy6271.ar h6267
  refine g_aload_n C dX12_moves_24 rfl 0 rfl ?_
  obtain ⟨b6281, e6282, h6283⟩ := Iy6270.fld (h6278) 23 13 800 rfl
  refine g_getR C fi_X12_78 rfl e6282 (h6278).1 (h6278).2 dX12_moves_25 ?_
  refine g_iload_n C dX12_moves_28 rfl 2 rfl ?_
  refine g_aload_n C dX12_moves_29 rfl 0 rfl ?_
  refine g_getR C fi_X12_78 rfl e6282 (h6278).1 (h6278).2 dX12_moves_30 ?_
  refine g_iload_n C dX12_moves_33 rfl 1 rfl ?_
  refine g_iald (j := (a1.toInt.toNat)) C h6283.1 h6283.2.1 (ix_in h6283.2.2 (by omega)) dX12_moves_34 ?_
  refine g_iast (j := (a2.toInt.toNat)) C h6283.1 h6283.2.1 (ix_in h6283.2.2 (by omega)) dX12_moves_35 ?_
  refine gqW (ks := [23]) (Iy6270.setA e6282 h6283 (by decide) (arOk.none rfl)) (EM.setA Iy6270 e6282 rfl (by decide)) (fun Y6284 Iy6285 Xy6286 w6287 => ?_)
  have w6287 : (pI Y6284 b6281 (a2.toInt.toNat)).toInt = (pI Y6269 b6281 (a1.toInt.toNat)).toInt := w6287
  have q6288 := Xy6286.keepA e6276 (by decide) rfl (a2.toInt.toNat)
  have q6289 := Xy6286.keepA e6277 (by decide) rfl (a2.toInt.toNat)
  have W6290 := W6273.keep Iy6270 Xy6286 (by decide) (by decide) (by decide)
  have Xz6291 : EM [21, 22, 23, 24, 25] a0 P Y6284 := EM.tr ha0 Xz6275 (Xy6286.mono (by decide))
  have e6292 := Xy6286.ref h6278 (by decide) e6276
  have e6293 := Xy6286.ref h6278 (by decide) e6277
  have e6294 := Xy6286.ref h6278 (by decide) e6282
  have h6295 := Xy6286.at h6278
  have h6296 := Xy6286.ar h6279
  have h6297 := Xy6286.ar h6280
  have h6298 := Xy6286.ar h6283
  refine g_aload_n C dX12_moves_36 rfl 0 rfl ?_
  obtain ⟨b6299, e6300, h6301⟩ := Iy6285.fld (h6295) 24 13 800 rfl
  refine g_getR C fi_X12_81 rfl e6300 (h6295).1 (h6295).2 dX12_moves_37 ?_
  refine g_iload_n C dX12_moves_40 rfl 2 rfl ?_
  refine g_aload_n C dX12_moves_41 rfl 0 rfl ?_
  refine g_getR C fi_X12_81 rfl e6300 (h6295).1 (h6295).2 dX12_moves_42 ?_
  refine g_iload_n C dX12_moves_45 rfl 1 rfl ?_
  refine g_iald (j := (a1.toInt.toNat)) C h6301.1 h6301.2.1 (ix_in h6301.2.2 (by omega)) dX12_moves_46 ?_
  refine g_iast (j := (a2.toInt.toNat)) C h6301.1 h6301.2.1 (ix_in h6301.2.2 (by omega)) dX12_moves_47 ?_
  refine gqW (ks := [24]) (Iy6285.setA e6300 h6301 (by decide) (arOk.none rfl)) (EM.setA Iy6285 e6300 rfl (by decide)) (fun Y6302 Iy6303 Xy6304 w6305 => ?_)
  have w6305 : (pI Y6302 b6299 (a2.toInt.toNat)).toInt = (pI Y6284 b6299 (a1.toInt.toNat)).toInt := w6305
  have q6306 := Xy6304.keepA e6292 (by decide) rfl (a2.toInt.toNat)
  have q6307 := Xy6304.keepA e6293 (by decide) rfl (a2.toInt.toNat)
  have q6308 := Xy6304.keepA e6294 (by decide) rfl (a2.toInt.toNat)
  have W6309 := W6290.keep Iy6285 Xy6304 (by decide) (by decide) (by decide)
  have Xz6310 : EM [21, 22, 23, 24, 25] a0 P Y6302 := EM.tr ha0 Xz6291 (Xy6304.mono (by decide))
  have e6311 := Xy6304.ref h6295 (by decide) e6292
  have e6312 := Xy6304.ref h6295 (by decide) e6293
  have e6313 := Xy6304.ref h6295 (by decide) e6294
  have e6314 := Xy6304.ref h6295 (by decide) e6300
  have h6315 := Xy6304.at h6295
  have h6316 := Xy6304.ar h6296
  have h6317 := Xy6304.ar h6297
  have h6318 := Xy6304.ar h6298
  have h6319 := Xy6304.ar h6301
  refine g_aload_n C dX12_moves_48 rfl 0 rfl ?_
  obtain ⟨b6320, e6321, h6322⟩ := Iy6303.fld (h6315) 25 13 800 rfl
  refine g_getR C fi_X12_84 rfl e6321 (h6315).1 (h6315).2 dX12_moves_49 ?_
  refine g_iload_n C dX12_moves_52 rfl 2 rfl ?_
  refine g_aload_n C dX12_moves_53 rfl 0 rfl ?_
  refine g_getR C fi_X12_84 rfl e6321 (h6315).1 (h6315).2 dX12_moves_54 ?_
  refine g_iload_n C dX12_moves_57 rfl 1 rfl ?_
  refine g_iald (j := (a1.toInt.toNat)) C h6322.1 h6322.2.1 (ix_in h6322.2.2 (by omega)) dX12_moves_58 ?_
  refine g_iast (j := (a2.toInt.toNat)) C h6322.1 h6322.2.1 (ix_in h6322.2.2 (by omega)) dX12_moves_59 ?_
  refine gqW (ks := [25]) (Iy6303.setA e6321 h6322 (by decide) (arOk.none rfl)) (EM.setA Iy6303 e6321 rfl (by decide)) (fun Y6323 Iy6324 Xy6325 w6326 => ?_)
  have w6326 : (pI Y6323 b6320 (a2.toInt.toNat)).toInt = (pI Y6302 b6320 (a1.toInt.toNat)).toInt := w6326
  have q6327 := Xy6325.keepA e6311 (by decide) rfl (a2.toInt.toNat)
  have q6328 := Xy6325.keepA e6312 (by decide) rfl (a2.toInt.toNat)
  have q6329 := Xy6325.keepA e6313 (by decide) rfl (a2.toInt.toNat)
  have q6330 := Xy6325.keepA e6314 (by decide) rfl (a2.toInt.toNat)
  have W6331 := W6309.keep Iy6303 Xy6325 (by decide) (by decide) (by decide)
  have Xz6332 : EM [21, 22, 23, 24, 25] a0 P Y6323 := EM.tr ha0 Xz6310 (Xy6325.mono (by decide))
  have e6333 := Xy6325.ref h6315 (by decide) e6311
  have e6334 := Xy6325.ref h6315 (by decide) e6312
  have e6335 := Xy6325.ref h6315 (by decide) e6313
  have e6336 := Xy6325.ref h6315 (by decide) e6314
  have e6337 := Xy6325.ref h6315 (by decide) e6321
  have h6338 := Xy6325.at h6315
  have h6339 := Xy6325.ar h6316
  have h6340 := Xy6325.ar h6317
  have h6341 := Xy6325.ar h6318
  have h6342 := Xy6325.ar h6319
  have h6343 := Xy6325.ar h6322
  exact ret _ _ _ _ _ dX12_moves_60 (by decide) (by decide) ⟨Iy6324, Xz6332, W6331⟩
theorem dX12_takesOut_40 : decode cX12_takesOut 40 = .ok (.iinc 3 1, 3) := by decide +kernel
theorem dX12_takesOut_43 : decode cX12_takesOut 43 = .ok (.goto (-31), 3) := by decide +kernel
set_option maxHeartbeats 4000000 in
set_option maxRecDepth 100000 in
theorem s_X12_takesOut {P : PP} {a0 : Nat} {a1 : Int32} {a2 : Int32} (I : IM P a0) (ha1 : 0 ≤ a1.toInt ∧ a1.toInt ≤ 3) (ha2 : 0 ≤ a2.toInt ∧ a2.toInt ≤ 39) (hf0 : ∀ b, pR P a0 20 = some b → 1 ≤ (pI P b (a1.toInt.toNat)).toInt ∧ (pI P b (a1.toInt.toNat)).toInt ≤ 40) (hW : MW P a0) : CtrV yX12_takesOut cX12_takesOut 4 none ({ frames := 2, cells := 0, slots := 0, locals := 128 } : Room) 0 0 P [.ref a0, .int a1, .int a2] (fun P2 => IM P2 a0 ∧ EM [20, 21, 22, 23, 24, 25] a0 P P2 ∧ MW P2 a0 ∧ (∀ b, pR P a0 20 = some b → (pI P2 b (a1.toInt.toNat)).toInt = (pI P b (a1.toInt.toNat)).toInt - 1)) := by
  refine enV (lv := [(0, .ref a0), (1, .int a1), (2, .int a2)]) (by decide) (Nat.le_of_ble_eq_true rfl) rfl (fun E D cy C Ci0 ret => ?_)
  have ha0 := I.2.1
  have J12 : ∀ (n12 : Nat) (P12 : PP) (v12_3 : Int32), (39 - v12_3.toInt).toNat < n12 → (IM P12 a0) → (EM [20, 21, 22, 23, 24, 25] a0 P P12) → (MW P12 a0) → (0 ≤ v12_3.toInt ∧ v12_3.toInt ≤ 39) → (∀ b, pR P12 a0 20 = some b → 0 ≤ (pI P12 b (a1.toInt.toNat)).toInt ∧ (pI P12 b (a1.toInt.toNat)).toInt ≤ 39) → (∀ b920, pR P12 a0 20 = some b920 → (pI P12 b920 (a1.toInt.toNat)).toInt = (pI P b920 (a1.toInt.toNat)).toInt - 1) → G E ({ frames := 2, cells := 0, slots := 0, locals := 128 } : Room) D cy 4 P12 0 0 12 [(0, .ref a0), (1, .int a1), (3, .int v12_3)] [] := by
    intro n12
    induction n12 with
    | zero => intro P12 v12_3 hm12 I12 X12 W12 hv12_3 hq12_0 rel12_0; omega
    | succ n12 ih12 =>
      intro P12 v12_3 hm12 I12 X12 W12 hv12_3 hq12_0 rel12_0
      have h6387 := X12.at ha0
      obtain ⟨b6388, e6389, h6390⟩ := I12.fld (h6387) 20 13 20 rfl
      have hq12_0 := hq12_0 b6388 e6389
      have rel12_0 := rel12_0 b6388 e6389
      have h6391 := I.arr (EM.refB X12 ha0 e6389) rfl (a1.toInt.toNat)
      refine g_iload_n C dX12_takesOut_12 rfl 2 rfl ?_
      refine g_aload_n C dX12_takesOut_13 rfl 0 rfl ?_
      refine g_getR C fi_X12_69 rfl e6389 (h6387).1 (h6387).2 dX12_takesOut_14 ?_
      refine g_iload_n C dX12_takesOut_17 rfl 1 rfl ?_
      refine g_iald (j := (a1.toInt.toNat)) C h6390.1 h6390.2.1 (ix_in h6390.2.2 (by omega)) dX12_takesOut_18 ?_
      refine b_icmp_ge C 46 dX12_takesOut_19 (by decide) (fun h6392 => ?_) (fun h6392 => ?_)
      · have h6392 : (pI P12 b6388 (a1.toInt.toNat)).toInt ≤ v12_3.toInt := h6392
        exact ret _ _ _ _ _ dX12_takesOut_46 (by decide) (by decide) ⟨I12, X12, W12, (fun b9 e9 => by have e8 := EM.ref X12 ha0 (by decide) e9; rw [e6389] at e8; cases e8; show (pI P12 b6388 (a1.toInt.toNat)).toInt = (pI P b6388 (a1.toInt.toNat)).toInt - 1; omega)⟩
      · have h6392 : v12_3.toInt < (pI P12 b6388 (a1.toInt.toNat)).toInt := h6392
        refine g_aload_n C dX12_takesOut_22 rfl 0 rfl ?_
        refine g_bipush (v := 40) C dX12_takesOut_23 (by decide) ?_
        refine g_iload_n C dX12_takesOut_25 rfl 1 rfl ?_
        refine s_imul C dX12_takesOut_26 (by show -2147483648 ≤ 40 * a1.toInt ∧ 40 * a1.toInt ≤ 2147483647; omega) (fun z6393 h6394 => ?_)
        have h6394 : z6393.toInt = 40 * a1.toInt := h6394
        refine g_iload_n C dX12_takesOut_27 rfl 2 rfl ?_
        refine s_iadd C dX12_takesOut_28 (by show -2147483648 ≤ z6393.toInt + v12_3.toInt ∧ z6393.toInt + v12_3.toInt ≤ 2147483647; omega) (fun z6395 h6396 => ?_)
        have h6396 : z6395.toInt = z6393.toInt + v12_3.toInt := h6396
        refine g_iconst (v := 1) C dX12_takesOut_29 (by decide) ?_
        refine s_iadd C dX12_takesOut_30 (by show -2147483648 ≤ z6395.toInt + 1 ∧ z6395.toInt + 1 ≤ 2147483647; omega) (fun z6397 h6398 => ?_)
        have h6398 : z6397.toInt = z6395.toInt + 1 := h6398
        refine g_bipush (v := 40) C dX12_takesOut_31 (by decide) ?_
        refine g_iload_n C dX12_takesOut_33 rfl 1 rfl ?_
        refine s_imul C dX12_takesOut_34 (by show -2147483648 ≤ 40 * a1.toInt ∧ 40 * a1.toInt ≤ 2147483647; omega) (fun z6399 h6400 => ?_)
        have h6400 : z6399.toInt = 40 * a1.toInt := h6400
        refine g_iload_n C dX12_takesOut_35 rfl 2 rfl ?_
        refine s_iadd C dX12_takesOut_36 (by show -2147483648 ≤ z6399.toInt + v12_3.toInt ∧ z6399.toInt + v12_3.toInt ≤ 2147483647; omega) (fun z6401 h6402 => ?_)
        have h6402 : z6401.toInt = z6399.toInt + v12_3.toInt := h6402
        refine g_callVV (rest := []) C mv_X12_274 [.int z6397, .int z6401] (s_X12_moves I12 (by omega) (by omega) W12) (h6387).1 (h6387).2 rfl rfl (by decide) (Nat.le_of_ble_eq_true rfl) (by decide) dX12_takesOut_37 (fun Y6404 h6405 => ?_)
        obtain ⟨Iy6406, Xy6407, W6408⟩ := h6405
        have q6409 := Xy6407.keepA e6389 (by decide) rfl (a1.toInt.toNat)
        have Xz6410 : EM [20, 21, 22, 23, 24, 25] a0 P Y6404 := EM.tr ha0 X12 (Xy6407.mono (by decide))
        have e6411 := Xy6407.ref h6387 (by decide) e6389
        have h6412 := Xy6407.at h6387
        have h6413 := Xy6407.ar h6390
        refine s_iinc (lv0 := [(0, .ref a0), (1, .int a1)]) (m := 1) C dX12_takesOut_40 2 rfl (by decide) rfl (by decide) (by omega) (fun z6414 h6415 => ?_)
        have h6415 : z6414.toInt = v12_3.toInt + 1 := h6415
        refine g_goto C 12 dX12_takesOut_43 (by decide) ?_
        refine g_lv (lv' := [(0, .ref a0), (1, .int a1), (3, .int z6414)]) [1, 2, 0] rfl ?_
        exact ih12 Y6404 z6414 (by omega) Iy6406 Xz6410 W6408 (by omega) (fun b9 e9 => by rw [e6411] at e9; cases e9; omega) (by intro b920 e920; rw [e6411] at e920; cases e920; show (pI Y6404 b6388 (a1.toInt.toNat)).toInt = (pI P b6388 (a1.toInt.toNat)).toInt - 1; omega)
  obtain ⟨b6416, e6417, h6418⟩ := I.fld (ha0) 20 13 20 rfl
  have hf0 := hf0 b6416 e6417
  refine g_aload_n C dX12_takesOut_0 rfl 0 rfl ?_
  refine g_getR C fi_X12_69 rfl e6417 (ha0).1 (ha0).2 dX12_takesOut_1 ?_
  refine g_iload_n C dX12_takesOut_4 rfl 1 rfl ?_
  refine g_dup2_11 C dX12_takesOut_5 rfl rfl ?_
  refine g_iald (j := (a1.toInt.toNat)) C h6418.1 h6418.2.1 (ix_in h6418.2.2 (by omega)) dX12_takesOut_6 ?_
  refine g_iconst (v := 1) C dX12_takesOut_7 (by decide) ?_
  refine s_isub C dX12_takesOut_8 (by show -2147483648 ≤ (pI P b6416 (a1.toInt.toNat)).toInt - 1 ∧ (pI P b6416 (a1.toInt.toNat)).toInt - 1 ≤ 2147483647; omega) (fun z6419 h6420 => ?_)
  have h6420 : z6419.toInt = (pI P b6416 (a1.toInt.toNat)).toInt - 1 := h6420
  refine g_iast (j := (a1.toInt.toNat)) C h6418.1 h6418.2.1 (ix_in h6418.2.2 (by omega)) dX12_takesOut_9 ?_
  refine gqW (ks := [20]) (I.setA e6417 h6418 (by decide) (arOk.of rfl (by omega))) (EM.setA I e6417 rfl (by decide)) (fun Y6421 Iy6422 Xy6423 w6424 => ?_)
  have w6424 : (pI Y6421 b6416 (a1.toInt.toNat)).toInt = z6419.toInt := w6424
  have W6425 := hW.keep I Xy6423 (by decide) (by decide) (by decide)
  have Xz6426 : EM [20, 21, 22, 23, 24, 25] a0 P Y6421 := Xy6423.mono (by decide)
  have e6427 := Xy6423.ref ha0 (by decide) e6417
  have h6428 := Xy6423.at ha0
  have h6429 := Xy6423.ar h6418
  refine g_iload_n C dX12_takesOut_10 rfl 2 rfl ?_
  refine g_istore_n (lv' := [(3, .int a2), (0, .ref a0), (1, .int a1), (2, .int a2)]) C dX12_takesOut_11 rfl (by decide) rfl ?_
  refine g_lv (lv' := [(0, .ref a0), (1, .int a1), (3, .int a2)]) [1, 2, 0] rfl ?_
  exact J12 _ Y6421 a2 (Nat.lt_succ_self _) Iy6422 Xz6426 W6425 (by omega) (fun b9 e9 => by rw [e6427] at e9; cases e9; omega) (by intro b920 e920; rw [e6427] at e920; cases e920; show (pI Y6421 b6416 (a1.toInt.toNat)).toInt = (pI P b6416 (a1.toInt.toNat)).toInt - 1; omega)
theorem dX12_away_14 : decode cX12_away 14 = .ok (.iconst 0, 1) := by decide +kernel
theorem dX12_away_15 : decode cX12_away 15 = .ok (.ireturn, 1) := by decide +kernel
theorem dX12_away_22 : decode cX12_away 22 = .ok (.iconst 1, 1) := by decide +kernel
theorem dX12_away_23 : decode cX12_away 23 = .ok (.ireturn, 1) := by decide +kernel
set_option maxHeartbeats 4000000 in
set_option maxRecDepth 100000 in
theorem s_X12_away {P : PP} {a0 : Nat} {a1 : Int32} {a2 : Int32} (I : IM P a0) (hW : MW P a0) : CtrI yX12_away cX12_away 3 (some Jvm.ClassFile.FieldType.boolean) ({ frames := 4, cells := 0, slots := 0, locals := 256 } : Room) 0 0 P [.ref a0, .int a1, .int a2] (fun r P2 => IM P2 a0 ∧ EM [0, 20, 21, 22, 23, 24, 25] a0 P P2 ∧ MW P2 a0 ∧ (0 ≤ r.toInt ∧ r.toInt ≤ 1) ∧ (r.toInt = 0 ∨ (((0 : Int) ≤ a1.toInt ∧ a1.toInt ≤ (3 : Int)) ∧ ((0 : Int) ≤ a2.toInt ∧ a2.toInt ≤ (39 : Int))))) := by
  refine enI (lv := [(0, .ref a0), (1, .int a1), (2, .int a2)]) (by decide) (Nat.le_of_ble_eq_true rfl) rfl (fun E D cy C Ci0 ret => ?_)
  have ha0 := I.2.1
  refine g_aload_n C dX12_away_0 rfl 0 rfl ?_
  refine g_iconst (v := 0) C dX12_away_1 (by decide) ?_
  refine g_putI C fi_X12_1 rfl (ha0).1 (ha0).2 dX12_away_2 ?_
  refine gqW (ks := [0]) (I.setI (rgOk.of rfl (by decide))) (EM.setI I (by decide)) (fun Y6459 Iy6460 Xy6461 w6462 => ?_)
  have w6462 : (pI Y6459 a0 0).toInt = 0 := w6462
  have W6463 := hW.keep I Xy6461 (by decide) (by decide) (by decide)
  have Xz6464 : EM [0, 20, 21, 22, 23, 24, 25] a0 P Y6459 := Xy6461.mono (by decide)
  have h6465 := Xy6461.at ha0
  refine g_aload_n C dX12_away_5 rfl 0 rfl ?_
  refine g_iload_n C dX12_away_6 rfl 1 rfl ?_
  refine g_iload_n C dX12_away_7 rfl 2 rfl ?_
  refine g_callVI (rest := []) C mv_X12_298 [.int a1, .int a2] (s_X12_isPaper Iy6460 W6463) (h6465).1 (h6465).2 rfl rfl (by decide) (Nat.le_of_ble_eq_true rfl) (by decide) dX12_away_8 (fun r6466 Y6467 h6468 => ?_)
  obtain ⟨rfl, h6468⟩ := h6468
  obtain ⟨h6468, hi6469, hi6470⟩ := h6468
  have hi6469 : r6466.toInt = 0 ∨ (((0 : Int) ≤ a1.toInt ∧ a1.toInt ≤ (3 : Int)) ∧ ((0 : Int) ≤ a2.toInt ∧ a2.toInt ≤ (39 : Int))) := hi6469
  have h6468 : 0 ≤ r6466.toInt ∧ r6466.toInt ≤ 1 := h6468
  refine b_if_ne C 16 dX12_away_11 (by decide) (fun h6471 => ?_) (fun h6471 => ?_)
  · have h6471 : r6466.toInt ≠ 0 := ti_ne h6471
    replace hi6469 := hi6469.resolve_left (by omega)
    obtain ⟨b6472, e6473, h6474⟩ := Iy6460.fld (h6465) 20 13 20 rfl
    have hi6470 := (hi6470.resolve_left (by omega)) b6472 e6473
    have hi6470 : a2.toInt < (pI Y6459 b6472 (a1.toInt.toNat)).toInt ∧ 0 ≤ a2.toInt := hi6470
    have h6475 := Iy6460.arr e6473 rfl (a1.toInt.toNat)
    refine g_aload_n C dX12_away_16 rfl 0 rfl ?_
    refine g_iload_n C dX12_away_17 rfl 1 rfl ?_
    refine g_iload_n C dX12_away_18 rfl 2 rfl ?_
    refine g_callVV (rest := []) C mv_X12_185 [.int a1, .int a2] (s_X12_takesOut Iy6460 (by omega) (by omega) (fun b9 e9 => by rw [e6473] at e9; cases e9; show 1 ≤ (pI Y6459 b6472 (a1.toInt.toNat)).toInt ∧ (pI Y6459 b6472 (a1.toInt.toNat)).toInt ≤ 40; omega) W6463) (h6465).1 (h6465).2 rfl rfl (by decide) (Nat.le_of_ble_eq_true rfl) (by decide) dX12_away_19 (fun Y6477 h6478 => ?_)
    obtain ⟨Iy6479, Xy6480, W6481, p6482⟩ := h6478
    have p6482 := p6482 b6472 e6473
    have p6482 : (pI Y6477 b6472 (a1.toInt.toNat)).toInt = (pI Y6459 b6472 (a1.toInt.toNat)).toInt - 1 := p6482
    have q6483 := Xy6480.keepF 0 (by decide)
    have Xz6484 : EM [0, 20, 21, 22, 23, 24, 25] a0 P Y6477 := EM.tr ha0 Xz6464 (Xy6480.mono (by decide))
    have e6485 := Xy6480.ref h6465 (by decide) e6473
    have h6486 := Xy6480.at h6465
    have h6487 := Xy6480.ar h6474
    refine g_iconst (v := 1) C dX12_away_22 (by decide) ?_
    exact ret _ _ _ _ _ _ dX12_away_23 rfl (by decide) (by decide) ⟨Iy6479, Xz6484, W6481, (by decide), Or.inr (by omega)⟩
  · have h6471 : r6466.toInt = 0 := congrArg Int32.toInt h6471
    clear hi6469
    refine g_iconst (v := 0) C dX12_away_14 (by decide) ?_
    exact ret _ _ _ _ _ _ dX12_away_15 rfl (by decide) (by decide) ⟨Iy6460, Xz6464, W6463, (by decide), Or.inl rfl⟩
theorem dX12_begins_0 : decode cX12_begins 0 = .ok (.aload_n 0, 1) := by decide +kernel
theorem dX12_begins_1 : decode cX12_begins 1 = .ok (.iconst 0, 1) := by decide +kernel
theorem dX12_begins_2 : decode cX12_begins 2 = .ok (.putfield 305, 3) := by decide +kernel
theorem dX12_begins_5 : decode cX12_begins 5 = .ok (.iconst 0, 1) := by decide +kernel
theorem dX12_begins_6 : decode cX12_begins 6 = .ok (.istore_n 2, 1) := by decide +kernel
theorem dX12_begins_7 : decode cX12_begins 7 = .ok (.iload_n 2, 1) := by decide +kernel
theorem dX12_begins_8 : decode cX12_begins 8 = .ok (.aload_n 0, 1) := by decide +kernel
theorem dX12_begins_9 : decode cX12_begins 9 = .ok (.getfield 60, 3) := by decide +kernel
theorem dX12_begins_12 : decode cX12_begins 12 = .ok (.iload_n 1, 1) := by decide +kernel
theorem dX12_begins_13 : decode cX12_begins 13 = .ok (.iaload, 1) := by decide +kernel
theorem dX12_begins_14 : decode cX12_begins 14 = .ok (.if_icmp .ge 36, 3) := by decide +kernel
theorem dX12_begins_17 : decode cX12_begins 17 = .ok (.aload_n 0, 1) := by decide +kernel
theorem dX12_begins_18 : decode cX12_begins 18 = .ok (.aload_n 0, 1) := by decide +kernel
theorem dX12_begins_19 : decode cX12_begins 19 = .ok (.getfield 63, 3) := by decide +kernel
theorem dX12_begins_22 : decode cX12_begins 22 = .ok (.iconst 4, 1) := by decide +kernel
theorem dX12_begins_23 : decode cX12_begins 23 = .ok (.iload_n 1, 1) := by decide +kernel
theorem dX12_begins_24 : decode cX12_begins 24 = .ok (.imul, 1) := by decide +kernel
theorem dX12_begins_25 : decode cX12_begins 25 = .ok (.iload_n 2, 1) := by decide +kernel
theorem dX12_begins_26 : decode cX12_begins 26 = .ok (.iadd, 1) := by decide +kernel
theorem dX12_begins_27 : decode cX12_begins 27 = .ok (.iaload, 1) := by decide +kernel
theorem dX12_begins_28 : decode cX12_begins 28 = .ok (.iconst 1, 1) := by decide +kernel
theorem dX12_begins_29 : decode cX12_begins 29 = .ok (.aload_n 0, 1) := by decide +kernel
theorem dX12_begins_30 : decode cX12_begins 30 = .ok (.getfield 45, 3) := by decide +kernel
theorem dX12_begins_33 : decode cX12_begins 33 = .ok (.iload_n 1, 1) := by decide +kernel
theorem dX12_begins_34 : decode cX12_begins 34 = .ok (.iaload, 1) := by decide +kernel
theorem dX12_begins_35 : decode cX12_begins 35 = .ok (.iload_n 2, 1) := by decide +kernel
theorem dX12_begins_36 : decode cX12_begins 36 = .ok (.iadd, 1) := by decide +kernel
theorem dX12_begins_37 : decode cX12_begins 37 = .ok (.ishl, 1) := by decide +kernel
theorem dX12_begins_38 : decode cX12_begins 38 = .ok (.ior, 1) := by decide +kernel
theorem dX12_begins_39 : decode cX12_begins 39 = .ok (.iconst 0, 1) := by decide +kernel
theorem dX12_begins_40 : decode cX12_begins 40 = .ok (.iconst (-1), 1) := by decide +kernel
theorem dX12_begins_41 : decode cX12_begins 41 = .ok (.invokevirtual 308, 3) := by decide +kernel
theorem dX12_begins_44 : decode cX12_begins 44 = .ok (.iinc 2 1, 3) := by decide +kernel
theorem dX12_begins_47 : decode cX12_begins 47 = .ok (.goto (-40), 3) := by decide +kernel
theorem dX12_begins_50 : decode cX12_begins 50 = .ok (.return_, 1) := by decide +kernel
set_option maxHeartbeats 4000000 in
set_option maxRecDepth 100000 in
theorem s_X12_begins {P : PP} {a0 : Nat} {a1 : Int32} (I : IM P a0) (ha1 : 0 ≤ a1.toInt ∧ a1.toInt ≤ 1) (hW : MW P a0) : CtrV yX12_begins cX12_begins 3 none ({ frames := 2, cells := 0, slots := 0, locals := 128 } : Room) 0 0 P [.ref a0, .int a1] (fun P2 => IM P2 a0 ∧ EM [28, 29, 30, 31] a0 P P2 ∧ MW P2 a0 ∧ ((pI P2 a0 28).toInt ≤ 4)) := by
  refine enV (lv := [(0, .ref a0), (1, .int a1)]) (by decide) (Nat.le_of_ble_eq_true rfl) rfl (fun E D cy C Ci0 ret => ?_)
  have ha0 := I.2.1
  have J7 : ∀ (n7 : Nat) (P7 : PP) (v7_2 : Int32), (4 - v7_2.toInt).toNat < n7 → (IM P7 a0) → (EM [28, 29, 30, 31] a0 P P7) → (MW P7 a0) → (0 ≤ v7_2.toInt ∧ v7_2.toInt ≤ 4) → (0 ≤ (pI P7 a0 28).toInt) → ((pI P7 a0 28).toInt ≤ v7_2.toInt) → G E ({ frames := 2, cells := 0, slots := 0, locals := 128 } : Room) D cy 3 P7 0 0 7 [(0, .ref a0), (1, .int a1), (2, .int v7_2)] [] := by
    intro n7
    induction n7 with
    | zero => intro P7 v7_2 hm7 I7 X7 W7 hv7_2 hq7_0 rel7_0; omega
    | succ n7 ih7 =>
      intro P7 v7_2 hm7 I7 X7 W7 hv7_2 hq7_0 rel7_0
      have h7848 := X7.at ha0
      refine g_iload_n C dX12_begins_7 rfl 2 rfl ?_
      refine g_aload_n C dX12_begins_8 rfl 0 rfl ?_
      obtain ⟨b7849, e7850, h7851⟩ := I7.fld (h7848) 15 13 3 rfl
      refine g_getR C fi_X12_60 rfl e7850 (h7848).1 (h7848).2 dX12_begins_9 ?_
      refine g_iload_n C dX12_begins_12 rfl 1 rfl ?_
      refine g_iald (j := (a1.toInt.toNat)) C h7851.1 h7851.2.1 (ix_in h7851.2.2 (by omega)) dX12_begins_13 ?_
      have h7852 := I7.arr e7850 rfl (a1.toInt.toNat)
      refine b_icmp_ge C 50 dX12_begins_14 (by decide) (fun h7853 => ?_) (fun h7853 => ?_)
      · have h7853 : (pI P7 b7849 (a1.toInt.toNat)).toInt ≤ v7_2.toInt := h7853
        exact ret _ _ _ _ _ dX12_begins_50 (by decide) (by decide) ⟨I7, X7, W7, (by show (pI P7 a0 28).toInt ≤ 4; omega)⟩
      · have h7853 : v7_2.toInt < (pI P7 b7849 (a1.toInt.toNat)).toInt := h7853
        refine g_aload_n C dX12_begins_17 rfl 0 rfl ?_
        refine g_aload_n C dX12_begins_18 rfl 0 rfl ?_
        obtain ⟨b7854, e7855, h7856⟩ := I7.fld (h7848) 16 13 12 rfl
        refine g_getR C fi_X12_63 rfl e7855 (h7848).1 (h7848).2 dX12_begins_19 ?_
        refine g_iconst (v := 4) C dX12_begins_22 (by decide) ?_
        refine g_iload_n C dX12_begins_23 rfl 1 rfl ?_
        refine s_imul C dX12_begins_24 (by show -2147483648 ≤ 4 * a1.toInt ∧ 4 * a1.toInt ≤ 2147483647; omega) (fun z7857 h7858 => ?_)
        have h7858 : z7857.toInt = 4 * a1.toInt := h7858
        refine g_iload_n C dX12_begins_25 rfl 2 rfl ?_
        refine s_iadd C dX12_begins_26 (by show -2147483648 ≤ z7857.toInt + v7_2.toInt ∧ z7857.toInt + v7_2.toInt ≤ 2147483647; omega) (fun z7859 h7860 => ?_)
        have h7860 : z7859.toInt = z7857.toInt + v7_2.toInt := h7860
        refine g_iald (j := (z7859.toInt.toNat)) C h7856.1 h7856.2.1 (ix_in h7856.2.2 (by omega)) dX12_begins_27 ?_
        refine g_iconst (v := 1) C dX12_begins_28 (by decide) ?_
        refine g_aload_n C dX12_begins_29 rfl 0 rfl ?_
        obtain ⟨b7861, e7862, h7863⟩ := I7.fld (h7848) 10 13 2 rfl
        refine g_getR C fi_X12_45 rfl e7862 (h7848).1 (h7848).2 dX12_begins_30 ?_
        refine g_iload_n C dX12_begins_33 rfl 1 rfl ?_
        refine g_iald (j := (a1.toInt.toNat)) C h7863.1 h7863.2.1 (ix_in h7863.2.2 (by omega)) dX12_begins_34 ?_
        have h7864 := I7.arr e7862 rfl (a1.toInt.toNat)
        refine g_iload_n C dX12_begins_35 rfl 2 rfl ?_
        refine s_iadd C dX12_begins_36 (by show -2147483648 ≤ (pI P7 b7861 (a1.toInt.toNat)).toInt + v7_2.toInt ∧ (pI P7 b7861 (a1.toInt.toNat)).toInt + v7_2.toInt ≤ 2147483647; omega) (fun z7865 h7866 => ?_)
        have h7866 : z7865.toInt = (pI P7 b7861 (a1.toInt.toNat)).toInt + v7_2.toInt := h7866
        refine a_ishl C dX12_begins_37 (fun z7867 => ?_)
        refine a_ior C dX12_begins_38 (fun z7869 => ?_)
        refine g_iconst (v := 0) C dX12_begins_39 (by decide) ?_
        refine g_iconst (v := (-1)) C dX12_begins_40 (by decide) ?_
        refine g_callVV (rest := []) C mv_X12_308 [.int z7869, .int 0, .int (-1)] (s_X12_adds I7 (by omega) W7) (h7848).1 (h7848).2 rfl rfl (by decide) (Nat.le_of_ble_eq_true rfl) (by decide) dX12_begins_41 (fun Y7872 h7873 => ?_)
        obtain ⟨Iy7874, Xy7875, W7876, p7877⟩ := h7873
        have p7877 : (pI Y7872 a0 28).toInt = (pI P7 a0 28).toInt + 1 := p7877
        have q7878 := Xy7875.keepA e7850 (by decide) rfl (a1.toInt.toNat)
        have q7879 := Xy7875.keepA e7862 (by decide) rfl (a1.toInt.toNat)
        have Xz7880 : EM [28, 29, 30, 31] a0 P Y7872 := EM.tr ha0 X7 (Xy7875.mono (by decide))
        have e7881 := Xy7875.ref h7848 (by decide) e7850
        have e7882 := Xy7875.ref h7848 (by decide) e7862
        have h7883 := Xy7875.at h7848
        have h7884 := Xy7875.ar h7851
        have h7885 := Xy7875.ar h7863
        have h7886 := Iy7874.rg h7883 28 rfl
        refine s_iinc (lv0 := [(0, .ref a0), (1, .int a1)]) (m := 1) C dX12_begins_44 2 rfl (by decide) rfl (by decide) (by omega) (fun z7887 h7888 => ?_)
        have h7888 : z7887.toInt = v7_2.toInt + 1 := h7888
        refine g_goto C 7 dX12_begins_47 (by decide) ?_
        refine g_lv (lv' := [(0, .ref a0), (1, .int a1), (2, .int z7887)]) [1, 2, 0] rfl ?_
        exact ih7 Y7872 z7887 (by omega) Iy7874 Xz7880 W7876 (by omega) (by omega) (by show (pI Y7872 a0 28).toInt ≤ z7887.toInt; omega)
  refine g_aload_n C dX12_begins_0 rfl 0 rfl ?_
  refine g_iconst (v := 0) C dX12_begins_1 (by decide) ?_
  refine g_putI C fi_X12_305 rfl (ha0).1 (ha0).2 dX12_begins_2 ?_
  refine gqW (ks := [28]) (I.setI (rgOk.of rfl (by decide))) (EM.setI I (by decide)) (fun Y7889 Iy7890 Xy7891 w7892 => ?_)
  have w7892 : (pI Y7889 a0 28).toInt = 0 := w7892
  have W7893 := hW.keep I Xy7891 (by decide) (by decide) (by decide)
  have Xz7894 : EM [28, 29, 30, 31] a0 P Y7889 := Xy7891.mono (by decide)
  have h7895 := Xy7891.at ha0
  refine g_iconst (v := 0) C dX12_begins_5 (by decide) ?_
  refine g_istore_n (lv' := [(2, .int 0), (0, .ref a0), (1, .int a1)]) C dX12_begins_6 rfl (by decide) rfl ?_
  refine g_lv (lv' := [(0, .ref a0), (1, .int a1), (2, .int 0)]) [1, 2, 0] rfl ?_
  exact J7 _ Y7889 0 (Nat.lt_succ_self _) Iy7890 Xz7894 W7893 (by decide) (by omega) (by show (pI Y7889 a0 28).toInt ≤ 0; omega)
theorem dX12_bits_0 : decode cX12_bits 0 = .ok (.iconst 0, 1) := by decide +kernel
theorem dX12_bits_1 : decode cX12_bits 1 = .ok (.istore_n 1, 1) := by decide +kernel
theorem dX12_bits_2 : decode cX12_bits 2 = .ok (.iconst 0, 1) := by decide +kernel
theorem dX12_bits_3 : decode cX12_bits 3 = .ok (.istore_n 2, 1) := by decide +kernel
theorem dX12_bits_4 : decode cX12_bits 4 = .ok (.iload_n 2, 1) := by decide +kernel
theorem dX12_bits_5 : decode cX12_bits 5 = .ok (.bipush 20, 2) := by decide +kernel
theorem dX12_bits_7 : decode cX12_bits 7 = .ok (.if_icmp .ge 17, 3) := by decide +kernel
theorem dX12_bits_10 : decode cX12_bits 10 = .ok (.iload_n 1, 1) := by decide +kernel
theorem dX12_bits_11 : decode cX12_bits 11 = .ok (.iload_n 0, 1) := by decide +kernel
theorem dX12_bits_12 : decode cX12_bits 12 = .ok (.iload_n 2, 1) := by decide +kernel
theorem dX12_bits_13 : decode cX12_bits 13 = .ok (.ishr, 1) := by decide +kernel
theorem dX12_bits_14 : decode cX12_bits 14 = .ok (.iconst 1, 1) := by decide +kernel
theorem dX12_bits_15 : decode cX12_bits 15 = .ok (.iand, 1) := by decide +kernel
theorem dX12_bits_16 : decode cX12_bits 16 = .ok (.iadd, 1) := by decide +kernel
theorem dX12_bits_17 : decode cX12_bits 17 = .ok (.istore_n 1, 1) := by decide +kernel
theorem dX12_bits_18 : decode cX12_bits 18 = .ok (.iinc 2 1, 3) := by decide +kernel
theorem dX12_bits_21 : decode cX12_bits 21 = .ok (.goto (-17), 3) := by decide +kernel
theorem dX12_bits_24 : decode cX12_bits 24 = .ok (.iload_n 1, 1) := by decide +kernel
theorem dX12_bits_25 : decode cX12_bits 25 = .ok (.ireturn, 1) := by decide +kernel
set_option maxHeartbeats 4000000 in
set_option maxRecDepth 100000 in
theorem s_X12_bits {P : PP} {a0 : Int32} (I : IV P) : CtrI yX12_bits cX12_bits 3 (some Jvm.ClassFile.FieldType.int) ({ frames := 1, cells := 0, slots := 0, locals := 64 } : Room) 0 0 P [.int a0] (fun r P2 => P = P2 ∧ (0 ≤ r.toInt ∧ r.toInt ≤ 20) ∧ (r.toInt = 0 ∨ a0.toInt ≠ 0)) := by
  refine enI (lv := [(0, .int a0)]) (by decide) (Nat.le_of_ble_eq_true rfl) rfl (fun E D cy C Ci0 ret => ?_)
  have J4 : ∀ (n4 : Nat) (v4_1 : Int32) (v4_2 : Int32), (20 - v4_2.toInt).toNat < n4 → (0 ≤ v4_1.toInt ∧ v4_1.toInt ≤ 20) → (0 ≤ v4_2.toInt ∧ v4_2.toInt ≤ 20) → (a0.toInt ≠ 0 ∨ v4_1.toInt = 0) → (v4_1.toInt ≤ v4_2.toInt) → G E ({ frames := 1, cells := 0, slots := 0, locals := 64 } : Room) D cy 3 P 0 0 4 [(0, .int a0), (1, .int v4_1), (2, .int v4_2)] [] := by
    intro n4
    induction n4 with
    | zero => intro v4_1 v4_2 hm4 hv4_1 hv4_2 rel4_0 rel4_1; omega
    | succ n4 ih4 =>
      intro v4_1 v4_2 hm4 hv4_1 hv4_2 rel4_0 rel4_1
      refine g_iload_n C dX12_bits_4 rfl 2 rfl ?_
      refine g_bipush (v := 20) C dX12_bits_5 (by decide) ?_
      refine b_icmp_ge C 24 dX12_bits_7 (by decide) (fun h8039 => ?_) (fun h8039 => ?_)
      · have h8039 : 20 ≤ v4_2.toInt := h8039
        refine g_iload_n C dX12_bits_24 rfl 1 rfl ?_
        exact ret _ _ _ _ _ _ dX12_bits_25 rfl (by decide) (by decide) ⟨rfl, (by omega), (by show v4_1.toInt = 0 ∨ a0.toInt ≠ 0; omega)⟩
      · have h8039 : v4_2.toInt < 20 := h8039
        refine g_iload_n C dX12_bits_10 rfl 1 rfl ?_
        refine g_iload_n C dX12_bits_11 rfl 0 rfl ?_
        refine g_iload_n C dX12_bits_12 rfl 2 rfl ?_
        refine g_ishr C dX12_bits_13 ?_
        refine g_topi (fun z8040 h8041 => ?_)
        refine g_iconst (v := 1) C dX12_bits_14 (by decide) ?_
        refine g_iand C dX12_bits_15 ?_
        refine g_topi (fun z8042 h8043 => ?_)
        have hb8044 := bit_of0 h8041 h8043 (by omega)
        have h8045 : 0 ≤ z8042.toInt ∧ z8042.toInt ≤ 1 := by rw [h8043]; exact i_and (by decide)
        refine s_iadd C dX12_bits_16 (by show -2147483648 ≤ v4_1.toInt + z8042.toInt ∧ v4_1.toInt + z8042.toInt ≤ 2147483647; omega) (fun z8046 h8047 => ?_)
        have h8047 : z8046.toInt = v4_1.toInt + z8042.toInt := h8047
        refine g_istore_n (lv' := [(1, .int z8046), (0, .int a0), (2, .int v4_2)]) C dX12_bits_17 rfl (by decide) rfl ?_
        refine s_iinc (lv0 := [(1, .int z8046), (0, .int a0)]) (m := 1) C dX12_bits_18 2 rfl (by decide) rfl (by decide) (by omega) (fun z8048 h8049 => ?_)
        have h8049 : z8048.toInt = v4_2.toInt + 1 := h8049
        refine g_goto C 4 dX12_bits_21 (by decide) ?_
        refine g_lv (lv' := [(0, .int a0), (1, .int z8046), (2, .int z8048)]) [2, 1, 0] rfl ?_
        exact ih4 z8046 z8048 (by omega) (by omega) (by omega) (by show a0.toInt ≠ 0 ∨ z8046.toInt = 0; omega) (by show z8046.toInt ≤ z8048.toInt; omega)
  refine g_iconst (v := 0) C dX12_bits_0 (by decide) ?_
  refine g_istore_n (lv' := [(1, .int 0), (0, .int a0)]) C dX12_bits_1 rfl (by decide) rfl ?_
  refine g_iconst (v := 0) C dX12_bits_2 (by decide) ?_
  refine g_istore_n (lv' := [(2, .int 0), (1, .int 0), (0, .int a0)]) C dX12_bits_3 rfl (by decide) rfl ?_
  refine g_lv (lv' := [(0, .int a0), (1, .int 0), (2, .int 0)]) [2, 1, 0] rfl ?_
  exact J4 _ 0 0 (Nat.lt_succ_self _) (by decide) (by decide) (by show a0.toInt ≠ 0 ∨ 0 = 0; omega) (by show 0 ≤ 0; omega)
theorem dX12_book_0 : decode cX12_book 0 = .ok (.aload_n 0, 1) := by decide +kernel
theorem dX12_book_1 : decode cX12_book 1 = .ok (.iconst 0, 1) := by decide +kernel
theorem dX12_book_2 : decode cX12_book 2 = .ok (.putfield 1, 3) := by decide +kernel
theorem dX12_book_5 : decode cX12_book 5 = .ok (.iload_n 1, 1) := by decide +kernel
theorem dX12_book_6 : decode cX12_book 6 = .ok (.iconst 0, 1) := by decide +kernel
theorem dX12_book_7 : decode cX12_book 7 = .ok (.iconst 1, 1) := by decide +kernel
theorem dX12_book_8 : decode cX12_book 8 = .ok (.invokestatic 178, 3) := by decide +kernel
theorem dX12_book_11 : decode cX12_book 11 = .ok (.ifCond .eq 13, 3) := by decide +kernel
theorem dX12_book_14 : decode cX12_book 14 = .ok (.iload_n 2, 1) := by decide +kernel
theorem dX12_book_15 : decode cX12_book 15 = .ok (.iconst 1, 1) := by decide +kernel
theorem dX12_book_16 : decode cX12_book 16 = .ok (.bipush 16, 2) := by decide +kernel
theorem dX12_book_18 : decode cX12_book 18 = .ok (.invokestatic 178, 3) := by decide +kernel
theorem dX12_book_21 : decode cX12_book 21 = .ok (.ifCond .ne 5, 3) := by decide +kernel
theorem dX12_book_24 : decode cX12_book 24 = .ok (.iconst 0, 1) := by decide +kernel
theorem dX12_book_25 : decode cX12_book 25 = .ok (.ireturn, 1) := by decide +kernel
theorem dX12_book_26 : decode cX12_book 26 = .ok (.aload_n 0, 1) := by decide +kernel
theorem dX12_book_27 : decode cX12_book 27 = .ok (.getfield 45, 3) := by decide +kernel
theorem dX12_book_30 : decode cX12_book 30 = .ok (.iload_n 1, 1) := by decide +kernel
theorem dX12_book_31 : decode cX12_book 31 = .ok (.iload_n 2, 1) := by decide +kernel
theorem dX12_book_32 : decode cX12_book 32 = .ok (.iastore, 1) := by decide +kernel
theorem dX12_book_33 : decode cX12_book 33 = .ok (.iconst 0, 1) := by decide +kernel
theorem dX12_book_34 : decode cX12_book 34 = .ok (.istore_n 3, 1) := by decide +kernel
theorem dX12_book_35 : decode cX12_book 35 = .ok (.iload_n 3, 1) := by decide +kernel
theorem dX12_book_36 : decode cX12_book 36 = .ok (.bipush 16, 2) := by decide +kernel
theorem dX12_book_38 : decode cX12_book 38 = .ok (.if_icmp .ge 21, 3) := by decide +kernel
theorem dX12_book_41 : decode cX12_book 41 = .ok (.aload_n 0, 1) := by decide +kernel
theorem dX12_book_42 : decode cX12_book 42 = .ok (.getfield 48, 3) := by decide +kernel
theorem dX12_book_45 : decode cX12_book 45 = .ok (.bipush 16, 2) := by decide +kernel
theorem dX12_book_47 : decode cX12_book 47 = .ok (.iload_n 1, 1) := by decide +kernel
theorem dX12_book_48 : decode cX12_book 48 = .ok (.imul, 1) := by decide +kernel
theorem dX12_book_49 : decode cX12_book 49 = .ok (.iload_n 3, 1) := by decide +kernel
theorem dX12_book_50 : decode cX12_book 50 = .ok (.iadd, 1) := by decide +kernel
theorem dX12_book_51 : decode cX12_book 51 = .ok (.iconst 0, 1) := by decide +kernel
theorem dX12_book_52 : decode cX12_book 52 = .ok (.iastore, 1) := by decide +kernel
theorem dX12_book_53 : decode cX12_book 53 = .ok (.iinc 3 1, 3) := by decide +kernel
theorem dX12_book_56 : decode cX12_book 56 = .ok (.goto (-21), 3) := by decide +kernel
theorem dX12_book_59 : decode cX12_book 59 = .ok (.aload_n 0, 1) := by decide +kernel
theorem dX12_book_60 : decode cX12_book 60 = .ok (.iload_n 1, 1) := by decide +kernel
theorem dX12_book_61 : decode cX12_book 61 = .ok (.invokevirtual 182, 3) := by decide +kernel
theorem dX12_forgetsDraw_0 : decode cX12_forgetsDraw 0 = .ok (.iconst 0, 1) := by decide +kernel
theorem dX12_forgetsDraw_1 : decode cX12_forgetsDraw 1 = .ok (.istore_n 2, 1) := by decide +kernel
theorem dX12_forgetsDraw_2 : decode cX12_forgetsDraw 2 = .ok (.iload_n 2, 1) := by decide +kernel
theorem dX12_forgetsDraw_3 : decode cX12_forgetsDraw 3 = .ok (.bipush 21, 2) := by decide +kernel
theorem dX12_forgetsDraw_5 : decode cX12_forgetsDraw 5 = .ok (.if_icmp .ge 21, 3) := by decide +kernel
theorem dX12_forgetsDraw_8 : decode cX12_forgetsDraw 8 = .ok (.aload_n 0, 1) := by decide +kernel
theorem dX12_forgetsDraw_9 : decode cX12_forgetsDraw 9 = .ok (.getfield 51, 3) := by decide +kernel
theorem dX12_forgetsDraw_12 : decode cX12_forgetsDraw 12 = .ok (.bipush 21, 2) := by decide +kernel
theorem dX12_forgetsDraw_14 : decode cX12_forgetsDraw 14 = .ok (.iload_n 1, 1) := by decide +kernel
theorem dX12_forgetsDraw_15 : decode cX12_forgetsDraw 15 = .ok (.imul, 1) := by decide +kernel
theorem dX12_forgetsDraw_16 : decode cX12_forgetsDraw 16 = .ok (.iload_n 2, 1) := by decide +kernel
theorem dX12_forgetsDraw_17 : decode cX12_forgetsDraw 17 = .ok (.iadd, 1) := by decide +kernel
theorem dX12_forgetsDraw_18 : decode cX12_forgetsDraw 18 = .ok (.iconst (-1), 1) := by decide +kernel
theorem dX12_forgetsDraw_19 : decode cX12_forgetsDraw 19 = .ok (.iastore, 1) := by decide +kernel
theorem dX12_forgetsDraw_20 : decode cX12_forgetsDraw 20 = .ok (.iinc 2 1, 3) := by decide +kernel
theorem dX12_forgetsDraw_23 : decode cX12_forgetsDraw 23 = .ok (.goto (-21), 3) := by decide +kernel
theorem dX12_forgetsDraw_26 : decode cX12_forgetsDraw 26 = .ok (.aload_n 0, 1) := by decide +kernel
theorem dX12_forgetsDraw_27 : decode cX12_forgetsDraw 27 = .ok (.getfield 54, 3) := by decide +kernel
theorem dX12_forgetsDraw_30 : decode cX12_forgetsDraw 30 = .ok (.iload_n 1, 1) := by decide +kernel
theorem dX12_forgetsDraw_31 : decode cX12_forgetsDraw 31 = .ok (.iconst 0, 1) := by decide +kernel
theorem dX12_forgetsDraw_32 : decode cX12_forgetsDraw 32 = .ok (.iastore, 1) := by decide +kernel
theorem dX12_forgetsDraw_33 : decode cX12_forgetsDraw 33 = .ok (.aload_n 0, 1) := by decide +kernel
theorem dX12_forgetsDraw_34 : decode cX12_forgetsDraw 34 = .ok (.getfield 57, 3) := by decide +kernel
theorem dX12_forgetsDraw_37 : decode cX12_forgetsDraw 37 = .ok (.iload_n 1, 1) := by decide +kernel
theorem dX12_forgetsDraw_38 : decode cX12_forgetsDraw 38 = .ok (.iconst 1, 1) := by decide +kernel
theorem dX12_forgetsDraw_39 : decode cX12_forgetsDraw 39 = .ok (.iastore, 1) := by decide +kernel
theorem dX12_forgetsDraw_40 : decode cX12_forgetsDraw 40 = .ok (.aload_n 0, 1) := by decide +kernel
theorem dX12_forgetsDraw_41 : decode cX12_forgetsDraw 41 = .ok (.getfield 60, 3) := by decide +kernel
theorem dX12_forgetsDraw_44 : decode cX12_forgetsDraw 44 = .ok (.iload_n 1, 1) := by decide +kernel
theorem dX12_forgetsDraw_45 : decode cX12_forgetsDraw 45 = .ok (.iconst 0, 1) := by decide +kernel
theorem dX12_forgetsDraw_46 : decode cX12_forgetsDraw 46 = .ok (.iastore, 1) := by decide +kernel
theorem dX12_forgetsDraw_47 : decode cX12_forgetsDraw 47 = .ok (.aload_n 0, 1) := by decide +kernel
theorem dX12_forgetsDraw_48 : decode cX12_forgetsDraw 48 = .ok (.getfield 66, 3) := by decide +kernel
theorem dX12_forgetsDraw_51 : decode cX12_forgetsDraw 51 = .ok (.iload_n 1, 1) := by decide +kernel
theorem dX12_forgetsDraw_52 : decode cX12_forgetsDraw 52 = .ok (.iconst 0, 1) := by decide +kernel
theorem dX12_forgetsDraw_53 : decode cX12_forgetsDraw 53 = .ok (.iastore, 1) := by decide +kernel
theorem dX12_forgetsDraw_54 : decode cX12_forgetsDraw 54 = .ok (.return_, 1) := by decide +kernel
set_option maxHeartbeats 4000000 in
set_option maxRecDepth 100000 in
theorem s_X12_forgetsDrawx {P : PP} {a0 : Nat} {a1 : Int32} (I : IM P a0) (ha1 : 0 ≤ a1.toInt ∧ a1.toInt ≤ 2) (hW : MX P a0 (a1.toInt.toNat)) : CtrV yX12_forgetsDraw cX12_forgetsDraw 3 none ({ frames := 1, cells := 0, slots := 0, locals := 64 } : Room) 0 0 P [.ref a0, .int a1] (fun P2 => IM P2 a0 ∧ EM [12, 13, 14, 15, 17] a0 P P2 ∧ MX P2 a0 (a1.toInt.toNat) ∧ (∀ b, pR P a0 14 = some b → (pI P2 b (a1.toInt.toNat)).toInt = 1)) := by
  refine enV (lv := [(0, .ref a0), (1, .int a1)]) (by decide) (Nat.le_of_ble_eq_true rfl) rfl (fun E D cy C Ci0 ret => ?_)
  have ha0 := I.2.1
  have J2 : ∀ (n2 : Nat) (P2 : PP) (v2_2 : Int32), (21 - v2_2.toInt).toNat < n2 → (IM P2 a0) → (EM [12, 13, 14, 15, 17] a0 P P2) → (MX P2 a0 (a1.toInt.toNat)) → (0 ≤ v2_2.toInt ∧ v2_2.toInt ≤ 21) → G E ({ frames := 1, cells := 0, slots := 0, locals := 64 } : Room) D cy 3 P2 0 0 2 [(0, .ref a0), (1, .int a1), (2, .int v2_2)] [] := by
    intro n2
    induction n2 with
    | zero => intro P2 v2_2 hm2 I2 X2 W2 hv2_2; omega
    | succ n2 ih2 =>
      intro P2 v2_2 hm2 I2 X2 W2 hv2_2
      have h8701 := X2.at ha0
      refine g_iload_n C dX12_forgetsDraw_2 rfl 2 rfl ?_
      refine g_bipush (v := 21) C dX12_forgetsDraw_3 (by decide) ?_
      refine b_icmp_ge C 26 dX12_forgetsDraw_5 (by decide) (fun h8702 => ?_) (fun h8702 => ?_)
      · have h8702 : 21 ≤ v2_2.toInt := h8702
        refine g_aload_n C dX12_forgetsDraw_26 rfl 0 rfl ?_
        obtain ⟨b8703, e8704, h8705⟩ := I2.fld (h8701) 13 13 3 rfl
        refine g_getR C fi_X12_54 rfl e8704 (h8701).1 (h8701).2 dX12_forgetsDraw_27 ?_
        refine g_iload_n C dX12_forgetsDraw_30 rfl 1 rfl ?_
        refine g_iconst (v := 0) C dX12_forgetsDraw_31 (by decide) ?_
        refine g_iast (j := (a1.toInt.toNat)) C h8705.1 h8705.2.1 (ix_in h8705.2.2 (by omega)) dX12_forgetsDraw_32 ?_
        refine gqW (ks := [13]) (I2.setA e8704 h8705 (by decide) (arOk.none rfl)) (EM.setA I2 e8704 rfl (by decide)) (fun Y8706 Iy8707 Xy8708 w8709 => ?_)
        have w8709 : (pI Y8706 b8703 (a1.toInt.toNat)).toInt = 0 := w8709
        have W8710 := W2.keep I2 Xy8708 (by decide) (by decide) (by decide)
        have Xz8711 : EM [12, 13, 14, 15, 17] a0 P Y8706 := EM.tr ha0 X2 (Xy8708.mono (by decide))
        have e8712 := Xy8708.ref h8701 (by decide) e8704
        have h8713 := Xy8708.at h8701
        have h8714 := Xy8708.ar h8705
        refine g_aload_n C dX12_forgetsDraw_33 rfl 0 rfl ?_
        obtain ⟨b8715, e8716, h8717⟩ := Iy8707.fld (h8713) 14 13 3 rfl
        refine g_getR C fi_X12_57 rfl e8716 (h8713).1 (h8713).2 dX12_forgetsDraw_34 ?_
        refine g_iload_n C dX12_forgetsDraw_37 rfl 1 rfl ?_
        refine g_iconst (v := 1) C dX12_forgetsDraw_38 (by decide) ?_
        refine g_iast (j := (a1.toInt.toNat)) C h8717.1 h8717.2.1 (ix_in h8717.2.2 (by omega)) dX12_forgetsDraw_39 ?_
        refine gqX (ks := [14]) (W := (fun P => MX P a0 (a1.toInt.toNat))) (Iy8707.setA e8716 h8717 (by decide) (arOk.of rfl (by decide))) (EM.setA Iy8707 e8716 rfl (by decide)) (W8710.set14 Iy8707 e8716 rfl) (fun Y8718 Iy8719 Xy8720 w8721 W8722 => ?_)
        have w8721 : (pI Y8718 b8715 (a1.toInt.toNat)).toInt = 1 := w8721
        have q8723 := Xy8720.keepA e8712 (by decide) rfl (a1.toInt.toNat)
        have Xz8724 : EM [12, 13, 14, 15, 17] a0 P Y8718 := EM.tr ha0 Xz8711 (Xy8720.mono (by decide))
        have e8725 := Xy8720.ref h8713 (by decide) e8712
        have e8726 := Xy8720.ref h8713 (by decide) e8716
        have h8727 := Xy8720.at h8713
        have h8728 := Xy8720.ar h8714
        have h8729 := Xy8720.ar h8717
        refine g_aload_n C dX12_forgetsDraw_40 rfl 0 rfl ?_
        obtain ⟨b8730, e8731, h8732⟩ := Iy8719.fld (h8727) 15 13 3 rfl
        refine g_getR C fi_X12_60 rfl e8731 (h8727).1 (h8727).2 dX12_forgetsDraw_41 ?_
        refine g_iload_n C dX12_forgetsDraw_44 rfl 1 rfl ?_
        refine g_iconst (v := 0) C dX12_forgetsDraw_45 (by decide) ?_
        refine g_iast (j := (a1.toInt.toNat)) C h8732.1 h8732.2.1 (ix_in h8732.2.2 (by omega)) dX12_forgetsDraw_46 ?_
        refine gqW (ks := [15]) (Iy8719.setA e8731 h8732 (by decide) (arOk.of rfl (by decide))) (EM.setA Iy8719 e8731 rfl (by decide)) (fun Y8733 Iy8734 Xy8735 w8736 => ?_)
        have w8736 : (pI Y8733 b8730 (a1.toInt.toNat)).toInt = 0 := w8736
        have q8737 := Xy8735.keepA e8725 (by decide) rfl (a1.toInt.toNat)
        have q8738 := Xy8735.keepA e8726 (by decide) rfl (a1.toInt.toNat)
        have W8739 := W8722.keep Iy8719 Xy8735 (by decide) (by decide) (by decide)
        have Xz8740 : EM [12, 13, 14, 15, 17] a0 P Y8733 := EM.tr ha0 Xz8724 (Xy8735.mono (by decide))
        have e8741 := Xy8735.ref h8727 (by decide) e8725
        have e8742 := Xy8735.ref h8727 (by decide) e8726
        have e8743 := Xy8735.ref h8727 (by decide) e8731
        have h8744 := Xy8735.at h8727
        have h8745 := Xy8735.ar h8728
        have h8746 := Xy8735.ar h8729
        have h8747 := Xy8735.ar h8732
        refine g_aload_n C dX12_forgetsDraw_47 rfl 0 rfl ?_
        obtain ⟨b8748, e8749, h8750⟩ := Iy8734.fld (h8744) 17 13 3 rfl
        refine g_getR C fi_X12_66 rfl e8749 (h8744).1 (h8744).2 dX12_forgetsDraw_48 ?_
        refine g_iload_n C dX12_forgetsDraw_51 rfl 1 rfl ?_
        refine g_iconst (v := 0) C dX12_forgetsDraw_52 (by decide) ?_
        refine g_iast (j := (a1.toInt.toNat)) C h8750.1 h8750.2.1 (ix_in h8750.2.2 (by omega)) dX12_forgetsDraw_53 ?_
        refine gqW (ks := [17]) (Iy8734.setA e8749 h8750 (by decide) (arOk.none rfl)) (EM.setA Iy8734 e8749 rfl (by decide)) (fun Y8751 Iy8752 Xy8753 w8754 => ?_)
        have w8754 : (pI Y8751 b8748 (a1.toInt.toNat)).toInt = 0 := w8754
        have q8755 := Xy8753.keepA e8741 (by decide) rfl (a1.toInt.toNat)
        have q8756 := Xy8753.keepA e8742 (by decide) rfl (a1.toInt.toNat)
        have q8757 := Xy8753.keepA e8743 (by decide) rfl (a1.toInt.toNat)
        have W8758 := W8739.keep Iy8734 Xy8753 (by decide) (by decide) (by decide)
        have Xz8759 : EM [12, 13, 14, 15, 17] a0 P Y8751 := EM.tr ha0 Xz8740 (Xy8753.mono (by decide))
        have e8760 := Xy8753.ref h8744 (by decide) e8741
        have e8761 := Xy8753.ref h8744 (by decide) e8742
        have e8762 := Xy8753.ref h8744 (by decide) e8743
        have e8763 := Xy8753.ref h8744 (by decide) e8749
        have h8764 := Xy8753.at h8744
        have h8765 := Xy8753.ar h8745
        have h8766 := Xy8753.ar h8746
        have h8767 := Xy8753.ar h8747
        have h8768 := Xy8753.ar h8750
        exact ret _ _ _ _ _ dX12_forgetsDraw_54 (by decide) (by decide) ⟨Iy8752, Xz8759, W8758, (fun b9 e9 => by have e8 := EM.ref Xz8759 ha0 (by decide) e9; rw [e8761] at e8; cases e8; show (pI Y8751 b8715 (a1.toInt.toNat)).toInt = 1; omega)⟩
      · have h8702 : v2_2.toInt < 21 := h8702
        refine g_aload_n C dX12_forgetsDraw_8 rfl 0 rfl ?_
        obtain ⟨b8769, e8770, h8771⟩ := I2.fld (h8701) 12 13 63 rfl
        refine g_getR C fi_X12_51 rfl e8770 (h8701).1 (h8701).2 dX12_forgetsDraw_9 ?_
        refine g_bipush (v := 21) C dX12_forgetsDraw_12 (by decide) ?_
        refine g_iload_n C dX12_forgetsDraw_14 rfl 1 rfl ?_
        refine s_imul C dX12_forgetsDraw_15 (by show -2147483648 ≤ 21 * a1.toInt ∧ 21 * a1.toInt ≤ 2147483647; omega) (fun z8772 h8773 => ?_)
        have h8773 : z8772.toInt = 21 * a1.toInt := h8773
        refine g_iload_n C dX12_forgetsDraw_16 rfl 2 rfl ?_
        refine s_iadd C dX12_forgetsDraw_17 (by show -2147483648 ≤ z8772.toInt + v2_2.toInt ∧ z8772.toInt + v2_2.toInt ≤ 2147483647; omega) (fun z8774 h8775 => ?_)
        have h8775 : z8774.toInt = z8772.toInt + v2_2.toInt := h8775
        refine g_iconst (v := (-1)) C dX12_forgetsDraw_18 (by decide) ?_
        refine g_iast (j := (z8774.toInt.toNat)) C h8771.1 h8771.2.1 (ix_in h8771.2.2 (by omega)) dX12_forgetsDraw_19 ?_
        refine gqW (ks := [12]) (I2.setA e8770 h8771 (by decide) (arOk.of rfl (by decide))) (EM.setA I2 e8770 rfl (by decide)) (fun Y8776 Iy8777 Xy8778 w8779 => ?_)
        have w8779 : (pI Y8776 b8769 (z8774.toInt.toNat)).toInt = (-1) := w8779
        have W8780 := W2.keep I2 Xy8778 (by decide) (by decide) (by decide)
        have Xz8781 : EM [12, 13, 14, 15, 17] a0 P Y8776 := EM.tr ha0 X2 (Xy8778.mono (by decide))
        have e8782 := Xy8778.ref h8701 (by decide) e8770
        have h8783 := Xy8778.at h8701
        have h8784 := Xy8778.ar h8771
        refine s_iinc (lv0 := [(0, .ref a0), (1, .int a1)]) (m := 1) C dX12_forgetsDraw_20 2 rfl (by decide) rfl (by decide) (by omega) (fun z8785 h8786 => ?_)
        have h8786 : z8785.toInt = v2_2.toInt + 1 := h8786
        refine g_goto C 2 dX12_forgetsDraw_23 (by decide) ?_
        refine g_lv (lv' := [(0, .ref a0), (1, .int a1), (2, .int z8785)]) [1, 2, 0] rfl ?_
        exact ih2 Y8776 z8785 (by omega) Iy8777 Xz8781 W8780 (by omega)
  refine g_iconst (v := 0) C dX12_forgetsDraw_0 (by decide) ?_
  refine g_istore_n (lv' := [(2, .int 0), (0, .ref a0), (1, .int a1)]) C dX12_forgetsDraw_1 rfl (by decide) rfl ?_
  refine g_lv (lv' := [(0, .ref a0), (1, .int a1), (2, .int 0)]) [1, 2, 0] rfl ?_
  exact J2 _ P 0 (Nat.lt_succ_self _) I EM.rf hW (by decide)
theorem dX12_book_64 : decode cX12_book 64 = .ok (.iconst 0, 1) := by decide +kernel
theorem dX12_book_65 : decode cX12_book 65 = .ok (.istore_n 3, 1) := by decide +kernel
theorem dX12_book_66 : decode cX12_book 66 = .ok (.iload_n 3, 1) := by decide +kernel
theorem dX12_book_67 : decode cX12_book 67 = .ok (.iconst 4, 1) := by decide +kernel
theorem dX12_book_68 : decode cX12_book 68 = .ok (.if_icmp .ge 68, 3) := by decide +kernel
theorem dX12_book_71 : decode cX12_book 71 = .ok (.aload_n 0, 1) := by decide +kernel
theorem dX12_book_72 : decode cX12_book 72 = .ok (.getfield 69, 3) := by decide +kernel
theorem dX12_book_75 : decode cX12_book 75 = .ok (.iload_n 3, 1) := by decide +kernel
theorem dX12_book_76 : decode cX12_book 76 = .ok (.iaload, 1) := by decide +kernel
theorem dX12_book_77 : decode cX12_book 77 = .ok (.iconst 1, 1) := by decide +kernel
theorem dX12_book_78 : decode cX12_book 78 = .ok (.isub, 1) := by decide +kernel
theorem dX12_book_79 : decode cX12_book 79 = .ok (.istore 4, 2) := by decide +kernel
theorem dX12_book_81 : decode cX12_book 81 = .ok (.iload 4, 2) := by decide +kernel
theorem dX12_book_83 : decode cX12_book 83 = .ok (.ifCond .lt 47, 3) := by decide +kernel
theorem dX12_book_86 : decode cX12_book 86 = .ok (.aload_n 0, 1) := by decide +kernel
theorem dX12_book_87 : decode cX12_book 87 = .ok (.getfield 75, 3) := by decide +kernel
theorem dX12_book_90 : decode cX12_book 90 = .ok (.bipush 40, 2) := by decide +kernel
theorem dX12_book_92 : decode cX12_book 92 = .ok (.iload_n 3, 1) := by decide +kernel
theorem dX12_book_93 : decode cX12_book 93 = .ok (.imul, 1) := by decide +kernel
theorem dX12_book_94 : decode cX12_book 94 = .ok (.iload 4, 2) := by decide +kernel
theorem dX12_book_96 : decode cX12_book 96 = .ok (.iadd, 1) := by decide +kernel
theorem dX12_book_97 : decode cX12_book 97 = .ok (.iaload, 1) := by decide +kernel
theorem dX12_book_98 : decode cX12_book 98 = .ok (.iload_n 1, 1) := by decide +kernel
theorem dX12_book_99 : decode cX12_book 99 = .ok (.if_icmp .eq 18, 3) := by decide +kernel
theorem dX12_book_102 : decode cX12_book 102 = .ok (.aload_n 0, 1) := by decide +kernel
theorem dX12_book_103 : decode cX12_book 103 = .ok (.getfield 75, 3) := by decide +kernel
theorem dX12_book_106 : decode cX12_book 106 = .ok (.bipush 40, 2) := by decide +kernel
theorem dX12_book_108 : decode cX12_book 108 = .ok (.iload_n 3, 1) := by decide +kernel
theorem dX12_book_109 : decode cX12_book 109 = .ok (.imul, 1) := by decide +kernel
theorem dX12_book_110 : decode cX12_book 110 = .ok (.iload 4, 2) := by decide +kernel
theorem dX12_book_112 : decode cX12_book 112 = .ok (.iadd, 1) := by decide +kernel
theorem dX12_book_113 : decode cX12_book 113 = .ok (.iaload, 1) := by decide +kernel
theorem dX12_book_114 : decode cX12_book 114 = .ok (.ifCond .ge 10, 3) := by decide +kernel
theorem dX12_book_117 : decode cX12_book 117 = .ok (.aload_n 0, 1) := by decide +kernel
theorem dX12_book_118 : decode cX12_book 118 = .ok (.iload_n 3, 1) := by decide +kernel
theorem dX12_book_119 : decode cX12_book 119 = .ok (.iload 4, 2) := by decide +kernel
theorem dX12_book_121 : decode cX12_book 121 = .ok (.invokevirtual 185, 3) := by decide +kernel
theorem dX12_book_124 : decode cX12_book 124 = .ok (.iinc 4 (-1), 3) := by decide +kernel
theorem dX12_book_127 : decode cX12_book 127 = .ok (.goto (-46), 3) := by decide +kernel
theorem dX12_book_130 : decode cX12_book 130 = .ok (.iinc 3 1, 3) := by decide +kernel
theorem dX12_book_133 : decode cX12_book 133 = .ok (.goto (-67), 3) := by decide +kernel
theorem dX12_book_136 : decode cX12_book 136 = .ok (.aload_n 0, 1) := by decide +kernel
theorem dX12_book_137 : decode cX12_book 137 = .ok (.invokevirtual 189, 3) := by decide +kernel
theorem dX12_forgetsMarks_0 : decode cX12_forgetsMarks 0 = .ok (.iconst 0, 1) := by decide +kernel
theorem dX12_forgetsMarks_1 : decode cX12_forgetsMarks 1 = .ok (.istore_n 1, 1) := by decide +kernel
theorem dX12_forgetsMarks_2 : decode cX12_forgetsMarks 2 = .ok (.iload_n 1, 1) := by decide +kernel
theorem dX12_forgetsMarks_3 : decode cX12_forgetsMarks 3 = .ok (.iconst 4, 1) := by decide +kernel
theorem dX12_forgetsMarks_4 : decode cX12_forgetsMarks 4 = .ok (.if_icmp .ge 16, 3) := by decide +kernel
theorem dX12_forgetsMarks_7 : decode cX12_forgetsMarks 7 = .ok (.aload_n 0, 1) := by decide +kernel
theorem dX12_forgetsMarks_8 : decode cX12_forgetsMarks 8 = .ok (.getfield 87, 3) := by decide +kernel
theorem dX12_forgetsMarks_11 : decode cX12_forgetsMarks 11 = .ok (.iload_n 1, 1) := by decide +kernel
theorem dX12_forgetsMarks_12 : decode cX12_forgetsMarks 12 = .ok (.iconst 0, 1) := by decide +kernel
theorem dX12_forgetsMarks_13 : decode cX12_forgetsMarks 13 = .ok (.bastore, 1) := by decide +kernel
theorem dX12_forgetsMarks_14 : decode cX12_forgetsMarks 14 = .ok (.iinc 1 1, 3) := by decide +kernel
theorem dX12_forgetsMarks_17 : decode cX12_forgetsMarks 17 = .ok (.goto (-15), 3) := by decide +kernel
theorem dX12_forgetsMarks_20 : decode cX12_forgetsMarks 20 = .ok (.return_, 1) := by decide +kernel
set_option maxHeartbeats 4000000 in
set_option maxRecDepth 100000 in
theorem s_X12_forgetsMarks {P : PP} {a0 : Nat} (I : IM P a0) (hW : MW P a0) : CtrV yX12_forgetsMarks cX12_forgetsMarks 2 none ({ frames := 1, cells := 0, slots := 0, locals := 64 } : Room) 0 0 P [.ref a0] (fun P2 => IM P2 a0 ∧ EM [26] a0 P P2 ∧ MW P2 a0) := by
  refine enV (lv := [(0, .ref a0)]) (by decide) (Nat.le_of_ble_eq_true rfl) rfl (fun E D cy C Ci0 ret => ?_)
  have ha0 := I.2.1
  have J2 : ∀ (n2 : Nat) (P2 : PP) (v2_1 : Int32), (4 - v2_1.toInt).toNat < n2 → (IM P2 a0) → (EM [26] a0 P P2) → (MW P2 a0) → (0 ≤ v2_1.toInt ∧ v2_1.toInt ≤ 4) → G E ({ frames := 1, cells := 0, slots := 0, locals := 64 } : Room) D cy 2 P2 0 0 2 [(0, .ref a0), (1, .int v2_1)] [] := by
    intro n2
    induction n2 with
    | zero => intro P2 v2_1 hm2 I2 X2 W2 hv2_1; omega
    | succ n2 ih2 =>
      intro P2 v2_1 hm2 I2 X2 W2 hv2_1
      have h9466 := X2.at ha0
      refine g_iload_n C dX12_forgetsMarks_2 rfl 1 rfl ?_
      refine g_iconst (v := 4) C dX12_forgetsMarks_3 (by decide) ?_
      refine b_icmp_ge C 20 dX12_forgetsMarks_4 (by decide) (fun h9467 => ?_) (fun h9467 => ?_)
      · have h9467 : 4 ≤ v2_1.toInt := h9467
        exact ret _ _ _ _ _ dX12_forgetsMarks_20 (by decide) (by decide) ⟨I2, X2, W2⟩
      · have h9467 : v2_1.toInt < 4 := h9467
        refine g_aload_n C dX12_forgetsMarks_7 rfl 0 rfl ?_
        obtain ⟨b9468, e9469, h9470⟩ := I2.fld (h9466) 26 15 4 rfl
        refine g_getR C fi_X12_87 rfl e9469 (h9466).1 (h9466).2 dX12_forgetsMarks_8 ?_
        refine g_iload_n C dX12_forgetsMarks_11 rfl 1 rfl ?_
        refine g_iconst (v := 0) C dX12_forgetsMarks_12 (by decide) ?_
        refine g_zast (j := (v2_1.toInt.toNat)) C h9470.1 h9470.2.1 (ix_in h9470.2.2 (by omega)) (Or.inl rfl) dX12_forgetsMarks_13 ?_
        refine gqW (ks := [26]) (I2.setA e9469 h9470 (by decide) (arOk.none rfl)) (EM.setA I2 e9469 rfl (by decide)) (fun Y9471 Iy9472 Xy9473 w9474 => ?_)
        have w9474 : (pI Y9471 b9468 (v2_1.toInt.toNat)).toInt = 0 := w9474
        have W9475 := W2.keep I2 Xy9473 (by decide) (by decide) (by decide)
        have Xz9476 : EM [26] a0 P Y9471 := EM.tr ha0 X2 (Xy9473.mono (by decide))
        have e9477 := Xy9473.ref h9466 (by decide) e9469
        have h9478 := Xy9473.at h9466
        have h9479 := Xy9473.ar h9470
        refine s_iinc (lv0 := [(0, .ref a0)]) (m := 1) C dX12_forgetsMarks_14 1 rfl (by decide) rfl (by decide) (by omega) (fun z9480 h9481 => ?_)
        have h9481 : z9480.toInt = v2_1.toInt + 1 := h9481
        refine g_goto C 2 dX12_forgetsMarks_17 (by decide) ?_
        refine g_lv (lv' := [(0, .ref a0), (1, .int z9480)]) [1, 0] rfl ?_
        exact ih2 Y9471 z9480 (by omega) Iy9472 Xz9476 W9475 (by omega)
  refine g_iconst (v := 0) C dX12_forgetsMarks_0 (by decide) ?_
  refine g_istore_n (lv' := [(1, .int 0), (0, .ref a0)]) C dX12_forgetsMarks_1 rfl (by decide) rfl ?_
  refine g_lv (lv' := [(0, .ref a0), (1, .int 0)]) [1, 0] rfl ?_
  exact J2 _ P 0 (Nat.lt_succ_self _) I EM.rf hW (by decide)
theorem dX12_book_140 : decode cX12_book 140 = .ok (.iconst 1, 1) := by decide +kernel
theorem dX12_book_141 : decode cX12_book 141 = .ok (.ireturn, 1) := by decide +kernel
set_option maxHeartbeats 4000000 in
set_option maxRecDepth 100000 in
theorem s_X12_book {P : PP} {a0 : Nat} {a1 : Int32} {a2 : Int32} (I : IM P a0) (hW : MW P a0) : CtrI yX12_book cX12_book 5 (some Jvm.ClassFile.FieldType.boolean) ({ frames := 3, cells := 0, slots := 0, locals := 192 } : Room) 0 0 P [.ref a0, .int a1, .int a2] (fun r P2 => IM P2 a0 ∧ EM [0, 10, 11, 12, 13, 14, 15, 17, 20, 21, 22, 23, 24, 25, 26] a0 P P2 ∧ MW P2 a0 ∧ (0 ≤ r.toInt ∧ r.toInt ≤ 1) ∧ (r.toInt = 0 ∨ (((0 : Int) ≤ a1.toInt ∧ a1.toInt ≤ (1 : Int))))) := by
  refine enI (lv := [(0, .ref a0), (1, .int a1), (2, .int a2)]) (by decide) (Nat.le_of_ble_eq_true rfl) rfl (fun E D cy C Ci0 ret => ?_)
  have ha0 := I.2.1
  have J66 : ∀ (n66 : Nat) (P66 : PP) (v66_3 : Int32), (4 - v66_3.toInt).toNat < n66 → (IM P66 a0) → (EM [0, 10, 11, 12, 13, 14, 15, 17, 20, 21, 22, 23, 24, 25, 26] a0 P P66) → (MW P66 a0) → (0 ≤ a1.toInt ∧ a1.toInt ≤ 1) → (0 ≤ v66_3.toInt ∧ v66_3.toInt ≤ 4) → (0 ≤ (pI P66 a0 0).toInt ∧ (pI P66 a0 0).toInt ≤ 0) → (∀ b, pR P66 a0 10 = some b → 1 ≤ (pI P66 b (a1.toInt.toNat)).toInt ∧ (pI P66 b (a1.toInt.toNat)).toInt ≤ 16) → G E ({ frames := 3, cells := 0, slots := 0, locals := 192 } : Room) D cy 5 P66 0 0 66 [(0, .ref a0), (1, .int a1), (3, .int v66_3)] [] := by
    intro n66
    induction n66 with
    | zero => intro P66 v66_3 hm66 I66 X66 W66 hv66_1 hv66_3 hq66_0 hq66_1; omega
    | succ n66 ih66 =>
      intro P66 v66_3 hm66 I66 X66 W66 hv66_1 hv66_3 hq66_0 hq66_1
      have h10133 := X66.at ha0
      obtain ⟨b10134, e10135, h10136⟩ := I66.fld (h10133) 10 13 2 rfl
      have hq66_1 := hq66_1 b10134 e10135
      have J81 : ∀ (n81 : Nat) (P81 : PP) (v81_4 : Int32), (v81_4.toInt - (-1)).toNat < n81 → (IM P81 a0) → (EM [0, 10, 11, 12, 13, 14, 15, 17, 20, 21, 22, 23, 24, 25, 26] a0 P P81) → (MW P81 a0) → (0 ≤ a1.toInt ∧ a1.toInt ≤ 1) → (0 ≤ v66_3.toInt ∧ v66_3.toInt ≤ 3) → (-1 ≤ v81_4.toInt ∧ v81_4.toInt ≤ 39) → (0 ≤ (pI P81 a0 0).toInt ∧ (pI P81 a0 0).toInt ≤ 0) → (∀ b, pR P81 a0 10 = some b → 1 ≤ (pI P81 b (a1.toInt.toNat)).toInt ∧ (pI P81 b (a1.toInt.toNat)).toInt ≤ 16) → (∀ b920, pR P81 a0 20 = some b920 → v81_4.toInt < (pI P81 b920 (v66_3.toInt.toNat)).toInt) → G E ({ frames := 3, cells := 0, slots := 0, locals := 192 } : Room) D cy 5 P81 0 0 81 [(0, .ref a0), (1, .int a1), (3, .int v66_3), (4, .int v81_4)] [] := by
        intro n81
        induction n81 with
        | zero => intro P81 v81_4 hm81 I81 X81 W81 hv81_1 hv81_3 hv81_4 hq81_0 hq81_1 rel81_0; omega
        | succ n81 ih81 =>
          intro P81 v81_4 hm81 I81 X81 W81 hv81_1 hv81_3 hv81_4 hq81_0 hq81_1 rel81_0
          have h10137 := X81.at ha0
          obtain ⟨b10138, e10139, h10140⟩ := I81.fld (h10137) 10 13 2 rfl
          have hq81_1 := hq81_1 b10138 e10139
          obtain ⟨b10141, e10142, h10143⟩ := I81.fld (h10137) 20 13 20 rfl
          have rel81_0 := rel81_0 b10141 e10142
          have h10144 := I81.arr e10142 rfl (v66_3.toInt.toNat)
          have J124 : ∀ (P124 : PP), (IM P124 a0) → (EM [0, 10, 11, 12, 13, 14, 15, 17, 20, 21, 22, 23, 24, 25, 26] a0 P P124) → (MW P124 a0) → (0 ≤ a1.toInt ∧ a1.toInt ≤ 1) → (0 ≤ v66_3.toInt ∧ v66_3.toInt ≤ 3) → (0 ≤ v81_4.toInt ∧ v81_4.toInt ≤ 39) → (0 ≤ (pI P124 a0 0).toInt ∧ (pI P124 a0 0).toInt ≤ 0) → (∀ b, pR P124 a0 10 = some b → 1 ≤ (pI P124 b (a1.toInt.toNat)).toInt ∧ (pI P124 b (a1.toInt.toNat)).toInt ≤ 16) → (∀ b920, pR P124 a0 20 = some b920 → v81_4.toInt ≤ (pI P124 b920 (v66_3.toInt.toNat)).toInt) → G E ({ frames := 3, cells := 0, slots := 0, locals := 192 } : Room) D cy 5 P124 0 0 124 [(0, .ref a0), (1, .int a1), (3, .int v66_3), (4, .int v81_4)] [] := by
            intro P124 I124 X124 W124 hv124_1 hv124_3 hv124_4 hq124_0 hq124_1 rel124_0
            have h10145 := X124.at ha0
            obtain ⟨b10146, e10147, h10148⟩ := I124.fld (h10145) 10 13 2 rfl
            have hq124_1 := hq124_1 b10146 e10147
            obtain ⟨b10149, e10150, h10151⟩ := I124.fld (h10145) 20 13 20 rfl
            have rel124_0 := rel124_0 b10149 e10150
            have h10152 := I124.arr e10150 rfl (v66_3.toInt.toNat)
            refine s_iinc (lv0 := [(0, .ref a0), (1, .int a1), (3, .int v66_3)]) (m := -1) C dX12_book_124 3 rfl (by decide) rfl (by decide) (by omega) (fun z10153 h10154 => ?_)
            have h10154 : z10153.toInt = v81_4.toInt + (-1) := h10154
            refine g_goto C 81 dX12_book_127 (by decide) ?_
            refine g_lv (lv' := [(0, .ref a0), (1, .int a1), (3, .int v66_3), (4, .int z10153)]) [1, 2, 3, 0] rfl ?_
            exact ih81 P124 z10153 (by omega) I124 X124 W124 (by omega) (by omega) (by omega) (by omega) (fun b9 e9 => by rw [e10147] at e9; cases e9; omega) (by intro b920 e920; rw [e10150] at e920; cases e920; show z10153.toInt < (pI P124 b10149 (v66_3.toInt.toNat)).toInt; omega)
          have J117 : (0 ≤ a1.toInt ∧ a1.toInt ≤ 1) → (0 ≤ v66_3.toInt ∧ v66_3.toInt ≤ 3) → (0 ≤ v81_4.toInt ∧ v81_4.toInt ≤ 39) → (0 ≤ (pI P81 a0 0).toInt ∧ (pI P81 a0 0).toInt ≤ 0) → (∀ b, pR P81 a0 10 = some b → 1 ≤ (pI P81 b (a1.toInt.toNat)).toInt ∧ (pI P81 b (a1.toInt.toNat)).toInt ≤ 16) → (∀ b920, pR P81 a0 20 = some b920 → v81_4.toInt < (pI P81 b920 (v66_3.toInt.toNat)).toInt) → G E ({ frames := 3, cells := 0, slots := 0, locals := 192 } : Room) D cy 5 P81 0 0 117 [(0, .ref a0), (1, .int a1), (3, .int v66_3), (4, .int v81_4)] [] := by
            intro hv117_1 hv117_3 hv117_4 hq117_0 hq117_1 rel117_0
            have h10155 := X81.at ha0
            obtain ⟨b10156, e10157, h10158⟩ := I81.fld (h10155) 10 13 2 rfl
            have hq117_1 := hq117_1 b10156 e10157
            obtain ⟨b10159, e10160, h10161⟩ := I81.fld (h10155) 20 13 20 rfl
            have rel117_0 := rel117_0 b10159 e10160
            have h10162 := I81.arr e10160 rfl (v66_3.toInt.toNat)
            refine g_aload_n C dX12_book_117 rfl 0 rfl ?_
            refine g_iload_n C dX12_book_118 rfl 2 rfl ?_
            refine g_iload C dX12_book_119 3 rfl ?_
            refine g_callVV (rest := []) C mv_X12_185 [.int v66_3, .int v81_4] (s_X12_takesOut I81 (by omega) (by omega) (fun b9 e9 => by rw [e10160] at e9; cases e9; show 1 ≤ (pI P81 b10159 (v66_3.toInt.toNat)).toInt ∧ (pI P81 b10159 (v66_3.toInt.toNat)).toInt ≤ 40; omega) W81) (h10155).1 (h10155).2 rfl rfl (by decide) (Nat.le_of_ble_eq_true rfl) (by decide) dX12_book_121 (fun Y10164 h10165 => ?_)
            obtain ⟨Iy10166, Xy10167, W10168, p10169⟩ := h10165
            have p10169 := p10169 b10159 e10160
            have p10169 : (pI Y10164 b10159 (v66_3.toInt.toNat)).toInt = (pI P81 b10159 (v66_3.toInt.toNat)).toInt - 1 := p10169
            have q10170 := Xy10167.keepF 0 (by decide)
            have q10171 := Xy10167.keepA e10157 (by decide) rfl (a1.toInt.toNat)
            have Xz10172 : EM [0, 10, 11, 12, 13, 14, 15, 17, 20, 21, 22, 23, 24, 25, 26] a0 P Y10164 := EM.tr ha0 X81 (Xy10167.mono (by decide))
            have e10173 := Xy10167.ref h10155 (by decide) e10157
            have e10174 := Xy10167.ref h10155 (by decide) e10160
            have h10175 := Xy10167.at h10155
            have h10176 := Xy10167.ar h10158
            have h10177 := Xy10167.ar h10161
            exact J124 Y10164 Iy10166 Xz10172 W10168 (by omega) (by omega) (by omega) (by omega) (fun b9 e9 => by rw [e10173] at e9; cases e9; omega) (by intro b920 e920; rw [e10174] at e920; cases e920; show v81_4.toInt ≤ (pI Y10164 b10159 (v66_3.toInt.toNat)).toInt; omega)
          refine g_iload C dX12_book_81 3 rfl ?_
          refine b_if_lt C 130 dX12_book_83 (by decide) (fun h10178 => ?_) (fun h10178 => ?_)
          · have h10178 : v81_4.toInt < 0 := h10178
            refine s_iinc (lv0 := [(0, .ref a0), (1, .int a1), (4, .int v81_4)]) (m := 1) C dX12_book_130 2 rfl (by decide) rfl (by decide) (by omega) (fun z10179 h10180 => ?_)
            have h10180 : z10179.toInt = v66_3.toInt + 1 := h10180
            refine g_goto C 66 dX12_book_133 (by decide) ?_
            refine g_lv (lv' := [(0, .ref a0), (1, .int a1), (3, .int z10179)]) [1, 2, 0] rfl ?_
            exact ih66 P81 z10179 (by omega) I81 X81 W81 (by omega) (by omega) (by omega) (fun b9 e9 => by rw [e10139] at e9; cases e9; omega)
          · have h10178 : 0 ≤ v81_4.toInt := h10178
            refine g_aload_n C dX12_book_86 rfl 0 rfl ?_
            obtain ⟨b10181, e10182, h10183⟩ := I81.fld (h10137) 22 13 800 rfl
            refine g_getR C fi_X12_75 rfl e10182 (h10137).1 (h10137).2 dX12_book_87 ?_
            refine g_bipush (v := 40) C dX12_book_90 (by decide) ?_
            refine g_iload_n C dX12_book_92 rfl 2 rfl ?_
            refine s_imul C dX12_book_93 (by show -2147483648 ≤ 40 * v66_3.toInt ∧ 40 * v66_3.toInt ≤ 2147483647; omega) (fun z10184 h10185 => ?_)
            have h10185 : z10184.toInt = 40 * v66_3.toInt := h10185
            refine g_iload C dX12_book_94 3 rfl ?_
            refine s_iadd C dX12_book_96 (by show -2147483648 ≤ z10184.toInt + v81_4.toInt ∧ z10184.toInt + v81_4.toInt ≤ 2147483647; omega) (fun z10186 h10187 => ?_)
            have h10187 : z10186.toInt = z10184.toInt + v81_4.toInt := h10187
            refine g_iald (j := (z10186.toInt.toNat)) C h10183.1 h10183.2.1 (ix_in h10183.2.2 (by omega)) dX12_book_97 ?_
            have h10188 := I81.arr e10182 rfl (z10186.toInt.toNat)
            refine g_iload_n C dX12_book_98 rfl 1 rfl ?_
            refine b_icmp_eq C 117 dX12_book_99 (by decide) (fun h10189 => ?_) (fun h10189 => ?_)
            · have h10189 : (pI P81 b10181 (z10186.toInt.toNat)).toInt = a1.toInt := congrArg Int32.toInt h10189
              exact J117 (by omega) (by omega) (by omega) (by omega) (fun b9 e9 => by rw [e10139] at e9; cases e9; omega) (by intro b920 e920; rw [e10142] at e920; cases e920; show v81_4.toInt < (pI P81 b10141 (v66_3.toInt.toNat)).toInt; omega)
            · have h10189 : (pI P81 b10181 (z10186.toInt.toNat)).toInt ≠ a1.toInt := ti_ne h10189
              refine g_aload_n C dX12_book_102 rfl 0 rfl ?_
              refine g_getR C fi_X12_75 rfl e10182 (h10137).1 (h10137).2 dX12_book_103 ?_
              refine g_bipush (v := 40) C dX12_book_106 (by decide) ?_
              refine g_iload_n C dX12_book_108 rfl 2 rfl ?_
              refine s_imul C dX12_book_109 (by show -2147483648 ≤ 40 * v66_3.toInt ∧ 40 * v66_3.toInt ≤ 2147483647; omega) (fun z10190 h10191 => ?_)
              have h10191 : z10190.toInt = 40 * v66_3.toInt := h10191
              refine g_iload C dX12_book_110 3 rfl ?_
              refine s_iadd C dX12_book_112 (by show -2147483648 ≤ z10190.toInt + v81_4.toInt ∧ z10190.toInt + v81_4.toInt ≤ 2147483647; omega) (fun z10192 h10193 => ?_)
              have h10193 : z10192.toInt = z10190.toInt + v81_4.toInt := h10193
              refine g_iald (j := (z10192.toInt.toNat)) C h10183.1 h10183.2.1 (ix_in h10183.2.2 (by omega)) dX12_book_113 ?_
              have h10194 := I81.arr e10182 rfl (z10192.toInt.toNat)
              refine b_if_ge C 124 dX12_book_114 (by decide) (fun h10195 => ?_) (fun h10195 => ?_)
              · have h10195 : 0 ≤ (pI P81 b10181 (z10192.toInt.toNat)).toInt := h10195
                exact J124 P81 I81 X81 W81 (by omega) (by omega) (by omega) (by omega) (fun b9 e9 => by rw [e10139] at e9; cases e9; omega) (by intro b920 e920; rw [e10142] at e920; cases e920; show v81_4.toInt ≤ (pI P81 b10141 (v66_3.toInt.toNat)).toInt; omega)
              · have h10195 : (pI P81 b10181 (z10192.toInt.toNat)).toInt < 0 := h10195
                exact J117 (by omega) (by omega) (by omega) (by omega) (fun b9 e9 => by rw [e10139] at e9; cases e9; omega) (by intro b920 e920; rw [e10142] at e920; cases e920; show v81_4.toInt < (pI P81 b10141 (v66_3.toInt.toNat)).toInt; omega)
      refine g_iload_n C dX12_book_66 rfl 2 rfl ?_
      refine g_iconst (v := 4) C dX12_book_67 (by decide) ?_
      refine b_icmp_ge C 136 dX12_book_68 (by decide) (fun h10196 => ?_) (fun h10196 => ?_)
      · have h10196 : 4 ≤ v66_3.toInt := h10196
        refine g_aload_n C dX12_book_136 rfl 0 rfl ?_
        refine g_callVV (rest := []) C mv_X12_189 [] (s_X12_forgetsMarks I66 W66) (h10133).1 (h10133).2 rfl rfl (by decide) (Nat.le_of_ble_eq_true rfl) (by decide) dX12_book_137 (fun Y10198 h10199 => ?_)
        obtain ⟨Iy10200, Xy10201, W10202⟩ := h10199
        have q10203 := Xy10201.keepF 0 (by decide)
        have q10204 := Xy10201.keepA e10135 (by decide) rfl (a1.toInt.toNat)
        have Xz10205 : EM [0, 10, 11, 12, 13, 14, 15, 17, 20, 21, 22, 23, 24, 25, 26] a0 P Y10198 := EM.tr ha0 X66 (Xy10201.mono (by decide))
        have e10206 := Xy10201.ref h10133 (by decide) e10135
        have h10207 := Xy10201.at h10133
        have h10208 := Xy10201.ar h10136
        refine g_iconst (v := 1) C dX12_book_140 (by decide) ?_
        exact ret _ _ _ _ _ _ dX12_book_141 rfl (by decide) (by decide) ⟨Iy10200, Xz10205, W10202, (by decide), Or.inr (by omega)⟩
      · have h10196 : v66_3.toInt < 4 := h10196
        refine g_aload_n C dX12_book_71 rfl 0 rfl ?_
        obtain ⟨b10209, e10210, h10211⟩ := I66.fld (h10133) 20 13 20 rfl
        refine g_getR C fi_X12_69 rfl e10210 (h10133).1 (h10133).2 dX12_book_72 ?_
        refine g_iload_n C dX12_book_75 rfl 2 rfl ?_
        refine g_iald (j := (v66_3.toInt.toNat)) C h10211.1 h10211.2.1 (ix_in h10211.2.2 (by omega)) dX12_book_76 ?_
        have h10212 := I66.arr e10210 rfl (v66_3.toInt.toNat)
        refine g_iconst (v := 1) C dX12_book_77 (by decide) ?_
        refine s_isub C dX12_book_78 (by show -2147483648 ≤ (pI P66 b10209 (v66_3.toInt.toNat)).toInt - 1 ∧ (pI P66 b10209 (v66_3.toInt.toNat)).toInt - 1 ≤ 2147483647; omega) (fun z10213 h10214 => ?_)
        have h10214 : z10213.toInt = (pI P66 b10209 (v66_3.toInt.toNat)).toInt - 1 := h10214
        refine g_istore (lv' := [(4, .int z10213), (0, .ref a0), (1, .int a1), (3, .int v66_3)]) C dX12_book_79 (by decide) rfl ?_
        refine g_lv (lv' := [(0, .ref a0), (1, .int a1), (3, .int v66_3), (4, .int z10213)]) [1, 2, 3, 0] rfl ?_
        exact J81 _ P66 z10213 (Nat.lt_succ_self _) I66 X66 W66 (by omega) (by omega) (by omega) (by omega) (fun b9 e9 => by rw [e10135] at e9; cases e9; omega) (by intro b920 e920; rw [e10210] at e920; cases e920; show z10213.toInt < (pI P66 b10209 (v66_3.toInt.toNat)).toInt; omega)
  have J35 : ∀ (n35 : Nat) (P35 : PP) (v35_3 : Int32), (16 - v35_3.toInt).toNat < n35 → (IM P35 a0) → (EM [0, 10, 11, 12, 13, 14, 15, 17, 20, 21, 22, 23, 24, 25, 26] a0 P P35) → (MX P35 a0 (a1.toInt.toNat)) → (0 ≤ a1.toInt ∧ a1.toInt ≤ 1) → (0 ≤ v35_3.toInt ∧ v35_3.toInt ≤ 16) → (0 ≤ (pI P35 a0 0).toInt ∧ (pI P35 a0 0).toInt ≤ 0) → (∀ b, pR P35 a0 10 = some b → 1 ≤ (pI P35 b (a1.toInt.toNat)).toInt ∧ (pI P35 b (a1.toInt.toNat)).toInt ≤ 16) → G E ({ frames := 3, cells := 0, slots := 0, locals := 192 } : Room) D cy 5 P35 0 0 35 [(0, .ref a0), (1, .int a1), (3, .int v35_3)] [] := by
    intro n35
    induction n35 with
    | zero => intro P35 v35_3 hm35 I35 X35 W35 hv35_1 hv35_3 hq35_0 hq35_1; omega
    | succ n35 ih35 =>
      intro P35 v35_3 hm35 I35 X35 W35 hv35_1 hv35_3 hq35_0 hq35_1
      have h10215 := X35.at ha0
      obtain ⟨b10216, e10217, h10218⟩ := I35.fld (h10215) 10 13 2 rfl
      have hq35_1 := hq35_1 b10216 e10217
      refine g_iload_n C dX12_book_35 rfl 2 rfl ?_
      refine g_bipush (v := 16) C dX12_book_36 (by decide) ?_
      refine b_icmp_ge C 59 dX12_book_38 (by decide) (fun h10219 => ?_) (fun h10219 => ?_)
      · have h10219 : 16 ≤ v35_3.toInt := h10219
        refine g_aload_n C dX12_book_59 rfl 0 rfl ?_
        refine g_iload_n C dX12_book_60 rfl 1 rfl ?_
        refine g_callVV (rest := []) C mv_X12_182 [.int a1] (s_X12_forgetsDrawx I35 (by omega) W35) (h10215).1 (h10215).2 rfl rfl (by decide) (Nat.le_of_ble_eq_true rfl) (by decide) dX12_book_61 (fun Y10221 h10222 => ?_)
        obtain ⟨Iy10223, Xy10224, W10225, p10226⟩ := h10222
        obtain ⟨b10227, e10228, h10229⟩ := I35.fld (h10215) 14 13 3 rfl
        have p10226 := p10226 b10227 e10228
        have p10226 : (pI Y10221 b10227 (a1.toInt.toNat)).toInt = 1 := p10226
        have h10230 := I35.arr e10228 rfl (a1.toInt.toNat)
        have q10231 := Xy10224.keepF 0 (by decide)
        have q10232 := Xy10224.keepA e10217 (by decide) rfl (a1.toInt.toNat)
        have Xz10233 : EM [0, 10, 11, 12, 13, 14, 15, 17, 20, 21, 22, 23, 24, 25, 26] a0 P Y10221 := EM.tr ha0 X35 (Xy10224.mono (by decide))
        have e10234 := Xy10224.ref h10215 (by decide) e10217
        have e10235 := Xy10224.ref h10215 (by decide) e10228
        have h10236 := Xy10224.at h10215
        have h10237 := Xy10224.ar h10218
        have h10238 := Xy10224.ar h10229
        have W10239 := W10225.back (fun c9 f9 => by rw [e10235] at f9; cases f9; omega)
        refine g_iconst (v := 0) C dX12_book_64 (by decide) ?_
        refine g_istore_n (lv' := [(3, .int 0), (0, .ref a0), (1, .int a1)]) C dX12_book_65 rfl (by decide) rfl ?_
        refine g_lv (lv' := [(0, .ref a0), (1, .int a1), (3, .int 0)]) [1, 2, 0] rfl ?_
        exact J66 _ Y10221 0 (Nat.lt_succ_self _) Iy10223 Xz10233 W10239 (by omega) (by decide) (by omega) (fun b9 e9 => by rw [e10234] at e9; cases e9; omega)
      · have h10219 : v35_3.toInt < 16 := h10219
        refine g_aload_n C dX12_book_41 rfl 0 rfl ?_
        obtain ⟨b10240, e10241, h10242⟩ := I35.fld (h10215) 11 13 32 rfl
        refine g_getR C fi_X12_48 rfl e10241 (h10215).1 (h10215).2 dX12_book_42 ?_
        refine g_bipush (v := 16) C dX12_book_45 (by decide) ?_
        refine g_iload_n C dX12_book_47 rfl 1 rfl ?_
        refine s_imul C dX12_book_48 (by show -2147483648 ≤ 16 * a1.toInt ∧ 16 * a1.toInt ≤ 2147483647; omega) (fun z10243 h10244 => ?_)
        have h10244 : z10243.toInt = 16 * a1.toInt := h10244
        refine g_iload_n C dX12_book_49 rfl 2 rfl ?_
        refine s_iadd C dX12_book_50 (by show -2147483648 ≤ z10243.toInt + v35_3.toInt ∧ z10243.toInt + v35_3.toInt ≤ 2147483647; omega) (fun z10245 h10246 => ?_)
        have h10246 : z10245.toInt = z10243.toInt + v35_3.toInt := h10246
        refine g_iconst (v := 0) C dX12_book_51 (by decide) ?_
        refine g_iast (j := (z10245.toInt.toNat)) C h10242.1 h10242.2.1 (ix_in h10242.2.2 (by omega)) dX12_book_52 ?_
        refine gqW (ks := [11]) (I35.setA e10241 h10242 (by decide) (arOk.none rfl)) (EM.setA I35 e10241 rfl (by decide)) (fun Y10247 Iy10248 Xy10249 w10250 => ?_)
        have w10250 : (pI Y10247 b10240 (z10245.toInt.toNat)).toInt = 0 := w10250
        have q10251 := Xy10249.keepF 0 (by decide)
        have q10252 := Xy10249.keepA e10217 (by decide) rfl (a1.toInt.toNat)
        have W10253 := W35.keep I35 Xy10249 (by decide) (by decide) (by decide)
        have Xz10254 : EM [0, 10, 11, 12, 13, 14, 15, 17, 20, 21, 22, 23, 24, 25, 26] a0 P Y10247 := EM.tr ha0 X35 (Xy10249.mono (by decide))
        have e10255 := Xy10249.ref h10215 (by decide) e10217
        have e10256 := Xy10249.ref h10215 (by decide) e10241
        have h10257 := Xy10249.at h10215
        have h10258 := Xy10249.ar h10218
        have h10259 := Xy10249.ar h10242
        refine s_iinc (lv0 := [(0, .ref a0), (1, .int a1)]) (m := 1) C dX12_book_53 2 rfl (by decide) rfl (by decide) (by omega) (fun z10260 h10261 => ?_)
        have h10261 : z10260.toInt = v35_3.toInt + 1 := h10261
        refine g_goto C 35 dX12_book_56 (by decide) ?_
        refine g_lv (lv' := [(0, .ref a0), (1, .int a1), (3, .int z10260)]) [1, 2, 0] rfl ?_
        exact ih35 Y10247 z10260 (by omega) Iy10248 Xz10254 W10253 (by omega) (by omega) (by omega) (fun b9 e9 => by rw [e10255] at e9; cases e9; omega)
  have J24 : ∀ (P24 : PP), (IM P24 a0) → (EM [0, 10, 11, 12, 13, 14, 15, 17, 20, 21, 22, 23, 24, 25, 26] a0 P P24) → (MW P24 a0) → (0 ≤ (pI P24 a0 0).toInt ∧ (pI P24 a0 0).toInt ≤ 0) → G E ({ frames := 3, cells := 0, slots := 0, locals := 192 } : Room) D cy 5 P24 0 0 24 [] [] := by
    intro P24 I24 X24 W24 hq24_0
    have h10262 := X24.at ha0
    refine g_iconst (v := 0) C dX12_book_24 (by decide) ?_
    exact ret _ _ _ _ _ _ dX12_book_25 rfl (by decide) (by decide) ⟨I24, X24, W24, (by decide), Or.inl rfl⟩
  refine g_aload_n C dX12_book_0 rfl 0 rfl ?_
  refine g_iconst (v := 0) C dX12_book_1 (by decide) ?_
  refine g_putI C fi_X12_1 rfl (ha0).1 (ha0).2 dX12_book_2 ?_
  refine gqW (ks := [0]) (I.setI (rgOk.of rfl (by decide))) (EM.setI I (by decide)) (fun Y10263 Iy10264 Xy10265 w10266 => ?_)
  have w10266 : (pI Y10263 a0 0).toInt = 0 := w10266
  have W10267 := hW.keep I Xy10265 (by decide) (by decide) (by decide)
  have Xz10268 : EM [0, 10, 11, 12, 13, 14, 15, 17, 20, 21, 22, 23, 24, 25, 26] a0 P Y10263 := Xy10265.mono (by decide)
  have h10269 := Xy10265.at ha0
  refine g_iload_n C dX12_book_5 rfl 1 rfl ?_
  refine g_iconst (v := 0) C dX12_book_6 (by decide) ?_
  refine g_iconst (v := 1) C dX12_book_7 (by decide) ?_
  refine g_callSI (b := 0) (ci := 0) (rest := []) C ms_X12_178 [.int a1, .int 0, .int 1] (s_X12_within Iy10264.1) rfl rfl (by decide) (Nat.le_of_ble_eq_true rfl) (by decide) dX12_book_8 (fun r10270 Y10271 h10272 => ?_)
  obtain ⟨rfl, h10272⟩ := h10272
  obtain ⟨h10272, hi10273⟩ := h10272
  have hi10273 : r10270.toInt = 0 ∨ (0 ≤ a1.toInt ∧ a1.toInt ≤ 1) := hi10273
  have h10272 : 0 ≤ r10270.toInt ∧ r10270.toInt ≤ 1 := h10272
  refine b_if_eq C 24 dX12_book_11 (by decide) (fun h10274 => ?_) (fun h10274 => ?_)
  · have h10274 : r10270.toInt = 0 := congrArg Int32.toInt h10274
    clear hi10273
    refine g_lv (lv' := []) [] rfl ?_
    exact J24 Y10263 Iy10264 Xz10268 W10267 (by omega)
  · have h10274 : r10270.toInt ≠ 0 := ti_ne h10274
    replace hi10273 := hi10273.resolve_left (by omega)
    refine g_iload_n C dX12_book_14 rfl 2 rfl ?_
    refine g_iconst (v := 1) C dX12_book_15 (by decide) ?_
    refine g_bipush (v := 16) C dX12_book_16 (by decide) ?_
    refine g_callSI (b := 0) (ci := 0) (rest := []) C ms_X12_178 [.int a2, .int 1, .int 16] (s_X12_within Iy10264.1) rfl rfl (by decide) (Nat.le_of_ble_eq_true rfl) (by decide) dX12_book_18 (fun r10275 Y10276 h10277 => ?_)
    obtain ⟨rfl, h10277⟩ := h10277
    obtain ⟨h10277, hi10278⟩ := h10277
    have hi10278 : r10275.toInt = 0 ∨ (1 ≤ a2.toInt ∧ a2.toInt ≤ 16) := hi10278
    have h10277 : 0 ≤ r10275.toInt ∧ r10275.toInt ≤ 1 := h10277
    refine b_if_ne C 26 dX12_book_21 (by decide) (fun h10279 => ?_) (fun h10279 => ?_)
    · have h10279 : r10275.toInt ≠ 0 := ti_ne h10279
      replace hi10278 := hi10278.resolve_left (by omega)
      refine g_aload_n C dX12_book_26 rfl 0 rfl ?_
      obtain ⟨b10280, e10281, h10282⟩ := Iy10264.fld (h10269) 10 13 2 rfl
      refine g_getR C fi_X12_45 rfl e10281 (h10269).1 (h10269).2 dX12_book_27 ?_
      refine g_iload_n C dX12_book_30 rfl 1 rfl ?_
      refine g_iload_n C dX12_book_31 rfl 2 rfl ?_
      refine g_iast (j := (a1.toInt.toNat)) C h10282.1 h10282.2.1 (ix_in h10282.2.2 (by omega)) dX12_book_32 ?_
      refine gqX (ks := [10]) (W := (fun P => MX P a0 (a1.toInt.toNat))) (Iy10264.setA e10281 h10282 (by decide) (arOk.of rfl (by omega))) (EM.setA Iy10264 e10281 rfl (by decide)) (W10267.set10 Iy10264 e10281 (by omega)) (fun Y10283 Iy10284 Xy10285 w10286 W10287 => ?_)
      have w10286 : (pI Y10283 b10280 (a1.toInt.toNat)).toInt = a2.toInt := w10286
      have q10288 := Xy10285.keepF 0 (by decide)
      have Xz10289 : EM [0, 10, 11, 12, 13, 14, 15, 17, 20, 21, 22, 23, 24, 25, 26] a0 P Y10283 := EM.tr ha0 Xz10268 (Xy10285.mono (by decide))
      have e10290 := Xy10285.ref h10269 (by decide) e10281
      have h10291 := Xy10285.at h10269
      have h10292 := Xy10285.ar h10282
      refine g_iconst (v := 0) C dX12_book_33 (by decide) ?_
      refine g_istore_n (lv' := [(3, .int 0), (0, .ref a0), (1, .int a1), (2, .int a2)]) C dX12_book_34 rfl (by decide) rfl ?_
      refine g_lv (lv' := [(0, .ref a0), (1, .int a1), (3, .int 0)]) [1, 2, 0] rfl ?_
      exact J35 _ Y10283 0 (Nat.lt_succ_self _) Iy10284 Xz10289 W10287 (by omega) (by decide) (by omega) (fun b9 e9 => by rw [e10290] at e9; cases e9; omega)
    · have h10279 : r10275.toInt = 0 := congrArg Int32.toInt h10279
      clear hi10278
      refine g_lv (lv' := []) [] rfl ?_
      exact J24 Y10263 Iy10264 Xz10268 W10267 (by omega)
theorem dX12_byteOf_0 : decode cX12_byteOf 0 = .ok (.iload_n 0, 1) := by decide +kernel
theorem dX12_byteOf_1 : decode cX12_byteOf 1 = .ok (.bipush 8, 2) := by decide +kernel
theorem dX12_byteOf_3 : decode cX12_byteOf 3 = .ok (.iload_n 1, 1) := by decide +kernel
theorem dX12_byteOf_4 : decode cX12_byteOf 4 = .ok (.imul, 1) := by decide +kernel
theorem dX12_byteOf_5 : decode cX12_byteOf 5 = .ok (.ishr, 1) := by decide +kernel
theorem dX12_byteOf_6 : decode cX12_byteOf 6 = .ok (.sipush 255, 3) := by decide +kernel
theorem dX12_byteOf_9 : decode cX12_byteOf 9 = .ok (.iand, 1) := by decide +kernel
theorem dX12_byteOf_10 : decode cX12_byteOf 10 = .ok (.ireturn, 1) := by decide +kernel
set_option maxHeartbeats 4000000 in
set_option maxRecDepth 100000 in
theorem s_X12_byteOf {P : PP} {a0 : Int32} {a1 : Int32} (I : IV P) : CtrI yX12_byteOf cX12_byteOf 2 (some Jvm.ClassFile.FieldType.int) ({ frames := 1, cells := 0, slots := 0, locals := 64 } : Room) 0 0 P [.int a0, .int a1] (fun r P2 => P = P2 ∧ (0 ≤ r.toInt ∧ r.toInt ≤ 255)) := by
  refine enI (lv := [(0, .int a0), (1, .int a1)]) (by decide) (Nat.le_of_ble_eq_true rfl) rfl (fun E D cy C Ci0 ret => ?_)
  refine g_iload_n C dX12_byteOf_0 rfl 0 rfl ?_
  refine g_bipush (v := 8) C dX12_byteOf_1 (by decide) ?_
  refine g_iload_n C dX12_byteOf_3 rfl 1 rfl ?_
  refine a_imul C dX12_byteOf_4 (fun z10299 => ?_)
  refine a_ishr C dX12_byteOf_5 (fun z10301 => ?_)
  refine g_sipush (v := 255) C dX12_byteOf_6 (by decide) ?_
  refine s_iand C dX12_byteOf_9 (by show 0 ≤ 255; omega) (fun z10303 h10304 => ?_)
  have h10304 : 0 ≤ z10303.toInt ∧ z10303.toInt ≤ 255 := h10304
  exact ret _ _ _ _ _ _ dX12_byteOf_10 rfl (by decide) (by decide) ⟨rfl, (by omega)⟩
theorem dX12_chances_0 : decode cX12_chances 0 = .ok (.aload_n 0, 1) := by decide +kernel
theorem dX12_chances_1 : decode cX12_chances 1 = .ok (.iconst 0, 1) := by decide +kernel
theorem dX12_chances_2 : decode cX12_chances 2 = .ok (.putfield 1, 3) := by decide +kernel
theorem dX12_chances_5 : decode cX12_chances 5 = .ok (.aload_n 0, 1) := by decide +kernel
theorem dX12_chances_6 : decode cX12_chances 6 = .ok (.iload_n 1, 1) := by decide +kernel
theorem dX12_chances_7 : decode cX12_chances 7 = .ok (.iload_n 2, 1) := by decide +kernel
theorem dX12_chances_8 : decode cX12_chances 8 = .ok (.iload 4, 2) := by decide +kernel
theorem dX12_chances_10 : decode cX12_chances 10 = .ok (.invokevirtual 377, 3) := by decide +kernel
theorem dX12_chances_13 : decode cX12_chances 13 = .ok (.ifCond .eq 12, 3) := by decide +kernel
theorem dX12_chances_16 : decode cX12_chances 16 = .ok (.iload_n 3, 1) := by decide +kernel
theorem dX12_chances_17 : decode cX12_chances 17 = .ok (.iconst 0, 1) := by decide +kernel
theorem dX12_chances_18 : decode cX12_chances 18 = .ok (.iload_n 2, 1) := by decide +kernel
theorem dX12_chances_19 : decode cX12_chances 19 = .ok (.invokestatic 178, 3) := by decide +kernel
theorem dX12_chances_22 : decode cX12_chances 22 = .ok (.ifCond .ne 5, 3) := by decide +kernel
theorem dX12_chances_27 : decode cX12_chances 27 = .ok (.aload_n 0, 1) := by decide +kernel
theorem dX12_chances_28 : decode cX12_chances 28 = .ok (.iload_n 1, 1) := by decide +kernel
theorem dX12_chances_29 : decode cX12_chances 29 = .ok (.iload_n 2, 1) := by decide +kernel
theorem dX12_chances_30 : decode cX12_chances 30 = .ok (.invokevirtual 380, 3) := by decide +kernel
theorem dX12_keepsSets_0 : decode cX12_keepsSets 0 = .ok (.iconst 0, 1) := by decide +kernel
theorem dX12_keepsSets_1 : decode cX12_keepsSets 1 = .ok (.istore_n 3, 1) := by decide +kernel
theorem dX12_keepsSets_2 : decode cX12_keepsSets 2 = .ok (.iload_n 3, 1) := by decide +kernel
theorem dX12_keepsSets_3 : decode cX12_keepsSets 3 = .ok (.iload_n 2, 1) := by decide +kernel
theorem dX12_keepsSets_4 : decode cX12_keepsSets 4 = .ok (.if_icmp .ge 21, 3) := by decide +kernel
theorem dX12_keepsSets_7 : decode cX12_keepsSets 7 = .ok (.aload_n 0, 1) := by decide +kernel
theorem dX12_keepsSets_8 : decode cX12_keepsSets 8 = .ok (.getfield 121, 3) := by decide +kernel
theorem dX12_keepsSets_11 : decode cX12_keepsSets 11 = .ok (.iload_n 3, 1) := by decide +kernel
theorem dX12_keepsSets_12 : decode cX12_keepsSets 12 = .ok (.aload_n 0, 1) := by decide +kernel
theorem dX12_keepsSets_13 : decode cX12_keepsSets 13 = .ok (.iload_n 1, 1) := by decide +kernel
theorem dX12_keepsSets_14 : decode cX12_keepsSets 14 = .ok (.iload_n 3, 1) := by decide +kernel
theorem dX12_keepsSets_15 : decode cX12_keepsSets 15 = .ok (.invokevirtual 261, 3) := by decide +kernel
theorem dX12_keepsSets_25 : decode cX12_keepsSets 25 = .ok (.return_, 1) := by decide +kernel
theorem dX12_setOf_0 : decode cX12_setOf 0 = .ok (.aload_n 0, 1) := by decide +kernel
theorem dX12_setOf_1 : decode cX12_setOf 1 = .ok (.iload_n 2, 1) := by decide +kernel
theorem dX12_setOf_2 : decode cX12_setOf 2 = .ok (.i2l, 1) := by decide +kernel
theorem dX12_setOf_3 : decode cX12_setOf 3 = .ok (.ldc2_w 248, 3) := by decide +kernel
theorem dX12_setOf_6 : decode cX12_setOf 6 = .ok (.lmul, 1) := by decide +kernel
theorem dX12_setOf_7 : decode cX12_setOf 7 = .ok (.iload_n 1, 1) := by decide +kernel
theorem dX12_setOf_8 : decode cX12_setOf 8 = .ok (.i2l, 1) := by decide +kernel
theorem dX12_setOf_9 : decode cX12_setOf 9 = .ok (.ldc2_w 250, 3) := by decide +kernel
theorem dX12_setOf_12 : decode cX12_setOf 12 = .ok (.lmul, 1) := by decide +kernel
theorem dX12_setOf_13 : decode cX12_setOf 13 = .ok (.ladd, 1) := by decide +kernel
theorem dX12_setOf_14 : decode cX12_setOf 14 = .ok (.lconst 1, 1) := by decide +kernel
theorem dX12_setOf_15 : decode cX12_setOf 15 = .ok (.ladd, 1) := by decide +kernel
theorem dX12_setOf_16 : decode cX12_setOf 16 = .ok (.ldc2_w 234, 3) := by decide +kernel
theorem dX12_setOf_19 : decode cX12_setOf 19 = .ok (.lrem, 1) := by decide +kernel
theorem dX12_setOf_20 : decode cX12_setOf 20 = .ok (.putfield 226, 3) := by decide +kernel
theorem dX12_setOf_23 : decode cX12_setOf 23 = .ok (.aload_n 0, 1) := by decide +kernel
theorem dX12_setOf_24 : decode cX12_setOf 24 = .ok (.iload_n 1, 1) := by decide +kernel
theorem dX12_setOf_25 : decode cX12_setOf 25 = .ok (.invokevirtual 252, 3) := by decide +kernel
theorem dX12_howMany_0 : decode cX12_howMany 0 = .ok (.iconst 0, 1) := by decide +kernel
theorem dX12_howMany_1 : decode cX12_howMany 1 = .ok (.istore_n 2, 1) := by decide +kernel
theorem dX12_howMany_2 : decode cX12_howMany 2 = .ok (.iconst 1, 1) := by decide +kernel
theorem dX12_howMany_3 : decode cX12_howMany 3 = .ok (.istore_n 3, 1) := by decide +kernel
theorem dX12_howMany_4 : decode cX12_howMany 4 = .ok (.iload_n 3, 1) := by decide +kernel
theorem dX12_howMany_5 : decode cX12_howMany 5 = .ok (.aload_n 0, 1) := by decide +kernel
theorem dX12_howMany_6 : decode cX12_howMany 6 = .ok (.iload_n 1, 1) := by decide +kernel
theorem dX12_howMany_7 : decode cX12_howMany 7 = .ok (.invokevirtual 238, 3) := by decide +kernel
theorem dX12_howMany_10 : decode cX12_howMany 10 = .ok (.if_icmp .gt 18, 3) := by decide +kernel
theorem dX12_howMany_13 : decode cX12_howMany 13 = .ok (.iload_n 2, 1) := by decide +kernel
theorem dX12_howMany_14 : decode cX12_howMany 14 = .ok (.aload_n 0, 1) := by decide +kernel
theorem dX12_howMany_15 : decode cX12_howMany 15 = .ok (.iload_n 1, 1) := by decide +kernel
theorem dX12_howMany_16 : decode cX12_howMany 16 = .ok (.iload_n 3, 1) := by decide +kernel
theorem dX12_howMany_17 : decode cX12_howMany 17 = .ok (.invokevirtual 241, 3) := by decide +kernel
theorem dX12_howMany_28 : decode cX12_howMany 28 = .ok (.iload_n 2, 1) := by decide +kernel
theorem dX12_howMany_29 : decode cX12_howMany 29 = .ok (.ifCond .ne 5, 3) := by decide +kernel
theorem dX12_howMany_32 : decode cX12_howMany 32 = .ok (.iconst 1, 1) := by decide +kernel
theorem dX12_howMany_33 : decode cX12_howMany 33 = .ok (.ireturn, 1) := by decide +kernel
theorem dX12_oddsOf_0 : decode cX12_oddsOf 0 = .ok (.aload_n 0, 1) := by decide +kernel
theorem dX12_oddsOf_1 : decode cX12_oddsOf 1 = .ok (.getfield 51, 3) := by decide +kernel
theorem dX12_oddsOf_4 : decode cX12_oddsOf 4 = .ok (.bipush 21, 2) := by decide +kernel
theorem dX12_oddsOf_6 : decode cX12_oddsOf 6 = .ok (.iload_n 1, 1) := by decide +kernel
theorem dX12_oddsOf_7 : decode cX12_oddsOf 7 = .ok (.imul, 1) := by decide +kernel
theorem dX12_oddsOf_8 : decode cX12_oddsOf 8 = .ok (.iload_n 2, 1) := by decide +kernel
theorem dX12_oddsOf_9 : decode cX12_oddsOf 9 = .ok (.iadd, 1) := by decide +kernel
theorem dX12_oddsOf_10 : decode cX12_oddsOf 10 = .ok (.iaload, 1) := by decide +kernel
theorem dX12_oddsOf_11 : decode cX12_oddsOf 11 = .ok (.ifCond .ge 7, 3) := by decide +kernel
theorem dX12_oddsOf_14 : decode cX12_oddsOf 14 = .ok (.iconst 0, 1) := by decide +kernel
theorem dX12_oddsOf_15 : decode cX12_oddsOf 15 = .ok (.goto 14, 3) := by decide +kernel
theorem dX12_oddsOf_18 : decode cX12_oddsOf 18 = .ok (.aload_n 0, 1) := by decide +kernel
theorem dX12_oddsOf_19 : decode cX12_oddsOf 19 = .ok (.getfield 51, 3) := by decide +kernel
theorem dX12_oddsOf_22 : decode cX12_oddsOf 22 = .ok (.bipush 21, 2) := by decide +kernel
theorem dX12_oddsOf_24 : decode cX12_oddsOf 24 = .ok (.iload_n 1, 1) := by decide +kernel
theorem dX12_oddsOf_25 : decode cX12_oddsOf 25 = .ok (.imul, 1) := by decide +kernel
theorem dX12_oddsOf_26 : decode cX12_oddsOf 26 = .ok (.iload_n 2, 1) := by decide +kernel
theorem dX12_oddsOf_27 : decode cX12_oddsOf 27 = .ok (.iadd, 1) := by decide +kernel
theorem dX12_oddsOf_28 : decode cX12_oddsOf 28 = .ok (.iaload, 1) := by decide +kernel
theorem dX12_oddsOf_29 : decode cX12_oddsOf 29 = .ok (.ireturn, 1) := by decide +kernel
set_option maxHeartbeats 4000000 in
set_option maxRecDepth 100000 in
theorem s_X12_oddsOf {P : PP} {a0 : Nat} {a1 : Int32} {a2 : Int32} (I : IM P a0) (ha1 : 0 ≤ a1.toInt ∧ a1.toInt ≤ 1) (ha2 : 0 ≤ a2.toInt ∧ a2.toInt ≤ 20) (hW : MW P a0) : CtrI yX12_oddsOf cX12_oddsOf 3 (some Jvm.ClassFile.FieldType.int) ({ frames := 1, cells := 0, slots := 0, locals := 64 } : Room) 0 0 P [.ref a0, .int a1, .int a2] (fun r P2 => P = P2 ∧ (0 ≤ r.toInt ∧ r.toInt ≤ 999) ∧ (∀ b, pR P2 a0 12 = some b → r.toInt = opos (pI P2 b (21 * a1.toInt + a2.toInt).toNat))) := by
  refine enI (lv := [(0, .ref a0), (1, .int a1), (2, .int a2)]) (by decide) (Nat.le_of_ble_eq_true rfl) rfl (fun E D cy C Ci0 ret => ?_)
  have ha0 := I.2.1
  refine g_aload_n C dX12_oddsOf_0 rfl 0 rfl ?_
  obtain ⟨b10426, e10427, h10428⟩ := I.fld (ha0) 12 13 63 rfl
  refine g_getR C fi_X12_51 rfl e10427 (ha0).1 (ha0).2 dX12_oddsOf_1 ?_
  refine g_bipush (v := 21) C dX12_oddsOf_4 (by decide) ?_
  refine g_iload_n C dX12_oddsOf_6 rfl 1 rfl ?_
  refine s_imul C dX12_oddsOf_7 (by show -2147483648 ≤ 21 * a1.toInt ∧ 21 * a1.toInt ≤ 2147483647; omega) (fun z10429 h10430 => ?_)
  have h10430 : z10429.toInt = 21 * a1.toInt := h10430
  refine g_iload_n C dX12_oddsOf_8 rfl 2 rfl ?_
  refine s_iadd C dX12_oddsOf_9 (by show -2147483648 ≤ z10429.toInt + a2.toInt ∧ z10429.toInt + a2.toInt ≤ 2147483647; omega) (fun z10431 h10432 => ?_)
  have h10432 : z10431.toInt = z10429.toInt + a2.toInt := h10432
  refine g_iald (j := (z10431.toInt.toNat)) C h10428.1 h10428.2.1 (ix_in h10428.2.2 (by omega)) dX12_oddsOf_10 ?_
  have h10433 := I.arr e10427 rfl (z10431.toInt.toNat)
  refine b_if_ge C 18 dX12_oddsOf_11 (by decide) (fun h10434 => ?_) (fun h10434 => ?_)
  · have h10434 : 0 ≤ (pI P b10426 (z10431.toInt.toNat)).toInt := h10434
    refine g_aload_n C dX12_oddsOf_18 rfl 0 rfl ?_
    refine g_getR C fi_X12_51 rfl e10427 (ha0).1 (ha0).2 dX12_oddsOf_19 ?_
    refine g_bipush (v := 21) C dX12_oddsOf_22 (by decide) ?_
    refine g_iload_n C dX12_oddsOf_24 rfl 1 rfl ?_
    refine s_imul C dX12_oddsOf_25 (by show -2147483648 ≤ 21 * a1.toInt ∧ 21 * a1.toInt ≤ 2147483647; omega) (fun z10435 h10436 => ?_)
    have h10436 : z10435.toInt = 21 * a1.toInt := h10436
    refine g_iload_n C dX12_oddsOf_26 rfl 2 rfl ?_
    refine s_iadd C dX12_oddsOf_27 (by show -2147483648 ≤ z10435.toInt + a2.toInt ∧ z10435.toInt + a2.toInt ≤ 2147483647; omega) (fun z10437 h10438 => ?_)
    have h10438 : z10437.toInt = z10435.toInt + a2.toInt := h10438
    refine g_iald (j := (z10437.toInt.toNat)) C h10428.1 h10428.2.1 (ix_in h10428.2.2 (by omega)) dX12_oddsOf_28 ?_
    have h10439 := I.arr e10427 rfl (z10437.toInt.toNat)
    have hk10440 : (pI P b10426 (z10431.toInt.toNat)).toInt = (pI P b10426 (21 * a1.toInt + a2.toInt).toNat).toInt := by rw [show z10431.toInt.toNat = (21 * a1.toInt + a2.toInt).toNat by omega]
    have hk10441 : (pI P b10426 (z10437.toInt.toNat)).toInt = (pI P b10426 (21 * a1.toInt + a2.toInt).toNat).toInt := by rw [show z10437.toInt.toNat = (21 * a1.toInt + a2.toInt).toNat by omega]
    exact ret _ _ _ _ _ _ dX12_oddsOf_29 rfl (by decide) (by decide) ⟨rfl, (by omega), (fun b9 e9 => by rw [e10427] at e9; cases e9; show (pI P b10426 (z10437.toInt.toNat)).toInt = opos (pI P b10426 (21 * a1.toInt + a2.toInt).toNat); unfold opos; split <;> omega)⟩
  · have h10434 : (pI P b10426 (z10431.toInt.toNat)).toInt < 0 := h10434
    refine g_iconst (v := 0) C dX12_oddsOf_14 (by decide) ?_
    refine g_goto C 29 dX12_oddsOf_15 (by decide) ?_
    have hk10442 : (pI P b10426 (z10431.toInt.toNat)).toInt = (pI P b10426 (21 * a1.toInt + a2.toInt).toNat).toInt := by rw [show z10431.toInt.toNat = (21 * a1.toInt + a2.toInt).toNat by omega]
    exact ret _ _ _ _ _ _ dX12_oddsOf_29 rfl (by decide) (by decide) ⟨rfl, (by decide), (fun b9 e9 => by rw [e10427] at e9; cases e9; show (0 : Int) = opos (pI P b10426 (21 * a1.toInt + a2.toInt).toNat); unfold opos; split <;> omega)⟩
theorem dX12_howMany_20 : decode cX12_howMany 20 = .ok (.iadd, 1) := by decide +kernel
theorem dX12_howMany_21 : decode cX12_howMany 21 = .ok (.istore_n 2, 1) := by decide +kernel
theorem dX12_howMany_22 : decode cX12_howMany 22 = .ok (.iinc 3 1, 3) := by decide +kernel
theorem dX12_howMany_25 : decode cX12_howMany 25 = .ok (.goto (-21), 3) := by decide +kernel
theorem dX12_howMany_34 : decode cX12_howMany 34 = .ok (.aload_n 0, 1) := by decide +kernel
theorem dX12_howMany_35 : decode cX12_howMany 35 = .ok (.invokevirtual 244, 3) := by decide +kernel
theorem dX12_drawn_0 : decode cX12_drawn 0 = .ok (.aload_n 0, 1) := by decide +kernel
theorem dX12_drawn_1 : decode cX12_drawn 1 = .ok (.aload_n 0, 1) := by decide +kernel
theorem dX12_drawn_2 : decode cX12_drawn 2 = .ok (.getfield 226, 3) := by decide +kernel
theorem dX12_drawn_5 : decode cX12_drawn 5 = .ok (.ldc2_w 230, 3) := by decide +kernel
theorem dX12_drawn_8 : decode cX12_drawn 8 = .ok (.lmul, 1) := by decide +kernel
theorem dX12_drawn_9 : decode cX12_drawn 9 = .ok (.ldc2_w 232, 3) := by decide +kernel
theorem dX12_drawn_12 : decode cX12_drawn 12 = .ok (.ladd, 1) := by decide +kernel
theorem dX12_drawn_13 : decode cX12_drawn 13 = .ok (.ldc2_w 234, 3) := by decide +kernel
theorem dX12_drawn_16 : decode cX12_drawn 16 = .ok (.lrem, 1) := by decide +kernel
theorem dX12_drawn_17 : decode cX12_drawn 17 = .ok (.putfield 226, 3) := by decide +kernel
theorem dX12_drawn_20 : decode cX12_drawn 20 = .ok (.aload_n 0, 1) := by decide +kernel
theorem dX12_drawn_21 : decode cX12_drawn 21 = .ok (.getfield 226, 3) := by decide +kernel
theorem dX12_drawn_24 : decode cX12_drawn 24 = .ok (.ldc2_w 236, 3) := by decide +kernel
theorem dX12_drawn_27 : decode cX12_drawn 27 = .ok (.ldiv, 1) := by decide +kernel
theorem dX12_drawn_28 : decode cX12_drawn 28 = .ok (.l2i, 1) := by decide +kernel
theorem dX12_drawn_29 : decode cX12_drawn 29 = .ok (.ireturn, 1) := by decide +kernel
set_option maxHeartbeats 4000000 in
set_option maxRecDepth 100000 in
theorem s_X12_drawn {P : PP} {a0 : Nat} (I : IM P a0) (hW : MW P a0) : CtrI yX12_drawn cX12_drawn 1 (some Jvm.ClassFile.FieldType.int) ({ frames := 1, cells := 0, slots := 0, locals := 64 } : Room) 0 0 P [.ref a0] (fun r P2 => IM P2 a0 ∧ EM [] a0 P P2 ∧ MW P2 a0 ∧ (True)) := by
  refine enI (lv := [(0, .ref a0)]) (by decide) (Nat.le_of_ble_eq_true rfl) rfl (fun E D cy C Ci0 ret => ?_)
  have ha0 := I.2.1
  refine g_aload_n C dX12_drawn_0 rfl 0 rfl ?_
  refine g_aload_n C dX12_drawn_1 rfl 0 rfl ?_
  refine g_getJ C fi_X12_226 rfl (ha0).1 (ha0).2 dX12_drawn_2 ?_
  refine g_topl (fun l10515 _ => ?_)
  refine g_ldc2 (v := 1103515245) C kl_X12_230 dX12_drawn_5 ?_
  refine g_topl (fun l10516 el10516 => ?_)
  have hz_l10516 : ¬ l10516 = 0 := by rw [el10516]; decide
  refine a_lmul C dX12_drawn_8 (fun l10517 => ?_)
  refine g_ldc2 (v := 12345) C kl_X12_232 dX12_drawn_9 ?_
  refine g_topl (fun l10518 el10518 => ?_)
  have hz_l10518 : ¬ l10518 = 0 := by rw [el10518]; decide
  refine a_ladd C dX12_drawn_12 (fun l10519 => ?_)
  refine g_ldc2 (v := 2147483648) C kl_X12_234 dX12_drawn_13 ?_
  refine g_topl (fun l10520 el10520 => ?_)
  have hz_l10520 : ¬ l10520 = 0 := by rw [el10520]; decide
  refine a_lrem C dX12_drawn_16 hz_l10520 (fun l10521 => ?_)
  refine g_putJ C fi_X12_226 rfl (ha0).1 (ha0).2 dX12_drawn_17 ?_
  refine gq (ks := []) (I.setJ) (EM.setJ) (fun Y10522 Iy10523 Xy10524 => ?_)
  have W10525 := hW.keep I Xy10524 (by decide) (by decide) (by decide)
  have Xz10526 : EM [] a0 P Y10522 := Xy10524.mono (by decide)
  have h10527 := Xy10524.at ha0
  refine g_aload_n C dX12_drawn_20 rfl 0 rfl ?_
  refine g_getJ C fi_X12_226 rfl (h10527).1 (h10527).2 dX12_drawn_21 ?_
  refine g_topl (fun l10528 _ => ?_)
  refine g_ldc2 (v := 65536) C kl_X12_236 dX12_drawn_24 ?_
  refine g_topl (fun l10529 el10529 => ?_)
  have hz_l10529 : ¬ l10529 = 0 := by rw [el10529]; decide
  refine a_ldiv C dX12_drawn_27 hz_l10529 (fun l10530 => ?_)
  refine a_l2i C dX12_drawn_28 (fun z10531 => ?_)
  exact ret _ _ _ _ _ _ dX12_drawn_29 rfl (by decide) (by decide) ⟨Iy10523, Xz10526, W10525, trivial⟩
theorem dX12_howMany_38 : decode cX12_howMany 38 = .ok (.iload_n 2, 1) := by decide +kernel
theorem dX12_howMany_39 : decode cX12_howMany 39 = .ok (.irem, 1) := by decide +kernel
theorem dX12_howMany_40 : decode cX12_howMany 40 = .ok (.istore_n 3, 1) := by decide +kernel
theorem dX12_howMany_41 : decode cX12_howMany 41 = .ok (.iconst 1, 1) := by decide +kernel
theorem dX12_howMany_42 : decode cX12_howMany 42 = .ok (.istore 4, 2) := by decide +kernel
theorem dX12_howMany_44 : decode cX12_howMany 44 = .ok (.aload_n 0, 1) := by decide +kernel
theorem dX12_howMany_45 : decode cX12_howMany 45 = .ok (.iload_n 1, 1) := by decide +kernel
theorem dX12_howMany_46 : decode cX12_howMany 46 = .ok (.iconst 1, 1) := by decide +kernel
theorem dX12_howMany_47 : decode cX12_howMany 47 = .ok (.invokevirtual 241, 3) := by decide +kernel
theorem dX12_howMany_50 : decode cX12_howMany 50 = .ok (.istore 5, 2) := by decide +kernel
theorem dX12_howMany_52 : decode cX12_howMany 52 = .ok (.iload 5, 2) := by decide +kernel
theorem dX12_howMany_54 : decode cX12_howMany 54 = .ok (.iload_n 3, 1) := by decide +kernel
theorem dX12_howMany_55 : decode cX12_howMany 55 = .ok (.if_icmp .gt 21, 3) := by decide +kernel
theorem dX12_howMany_58 : decode cX12_howMany 58 = .ok (.iinc 4 1, 3) := by decide +kernel
theorem dX12_howMany_61 : decode cX12_howMany 61 = .ok (.iload 5, 2) := by decide +kernel
theorem dX12_howMany_63 : decode cX12_howMany 63 = .ok (.aload_n 0, 1) := by decide +kernel
theorem dX12_howMany_64 : decode cX12_howMany 64 = .ok (.iload_n 1, 1) := by decide +kernel
theorem dX12_howMany_65 : decode cX12_howMany 65 = .ok (.iload 4, 2) := by decide +kernel
theorem dX12_howMany_67 : decode cX12_howMany 67 = .ok (.invokevirtual 241, 3) := by decide +kernel
theorem dX12_howMany_70 : decode cX12_howMany 70 = .ok (.iadd, 1) := by decide +kernel
theorem dX12_howMany_71 : decode cX12_howMany 71 = .ok (.istore 5, 2) := by decide +kernel
theorem dX12_howMany_73 : decode cX12_howMany 73 = .ok (.goto (-21), 3) := by decide +kernel
theorem dX12_howMany_76 : decode cX12_howMany 76 = .ok (.iload 4, 2) := by decide +kernel
theorem dX12_howMany_78 : decode cX12_howMany 78 = .ok (.ireturn, 1) := by decide +kernel
set_option maxHeartbeats 4000000 in
set_option maxRecDepth 100000 in
theorem s_X12_howMany {P : PP} {a0 : Nat} {a1 : Int32} (I : IM P a0) (ha1 : 0 ≤ a1.toInt ∧ a1.toInt ≤ 1) (hf0 : ∀ b, pR P a0 10 = some b → 1 ≤ (pI P b (a1.toInt.toNat)).toInt ∧ (pI P b (a1.toInt.toNat)).toInt ≤ 16) (hW : MW P a0) : CtrI yX12_howMany cX12_howMany 6 (some Jvm.ClassFile.FieldType.int) ({ frames := 2, cells := 0, slots := 0, locals := 128 } : Room) 0 0 P [.ref a0, .int a1] (fun r P2 => IM P2 a0 ∧ EM [] a0 P P2 ∧ MW P2 a0 ∧ (1 ≤ r.toInt ∧ r.toInt ≤ 20) ∧ (∀ b c, pR P2 a0 10 = some b → pR P2 a0 15 = some c → r.toInt ≤ (pI P2 b (a1.toInt.toNat)).toInt + (pI P2 c (a1.toInt.toNat)).toInt)) := by
  refine enI (lv := [(0, .ref a0), (1, .int a1)]) (by decide) (Nat.le_of_ble_eq_true rfl) rfl (fun E D cy C Ci0 ret => ?_)
  have ha0 := I.2.1
  have J52 : ∀ (n52 : Nat) (P52 : PP) (v52_3 : Int32) (v52_4 : Int32) (v52_5 : Int32), (20 - v52_4.toInt).toNat < n52 → (IM P52 a0) → (EM [] a0 P P52) → (MW P52 a0) → (-19979 ≤ v52_3.toInt ∧ v52_3.toInt ≤ 19979) → (1 ≤ v52_4.toInt ∧ v52_4.toInt ≤ 20) → (0 ≤ v52_5.toInt ∧ v52_5.toInt ≤ 19980) → (∀ b, pR P52 a0 10 = some b → 1 ≤ (pI P52 b (a1.toInt.toNat)).toInt ∧ (pI P52 b (a1.toInt.toNat)).toInt ≤ 16) → (∀ b912, pR P52 a0 12 = some b912 → v52_5.toInt = oS (pI P b912) (21 * a1.toInt).toNat (v52_4.toInt : Int).toNat) → (∀ b910 b915, pR P52 a0 10 = some b910 → pR P52 a0 15 = some b915 → 1 ≤ v52_4.toInt ∧ v52_4.toInt ≤ ((pI P b910 (a1.toInt.toNat)).toInt + (pI P b915 (a1.toInt.toNat)).toInt)) → (∀ b910 b912 b915, pR P52 a0 10 = some b910 → pR P52 a0 12 = some b912 → pR P52 a0 15 = some b915 → v52_3.toInt < oS (pI P b912) (21 * a1.toInt).toNat (((pI P b910 (a1.toInt.toNat)).toInt + (pI P b915 (a1.toInt.toNat)).toInt)).toNat) → (0 ≤ v52_5.toInt ∧ v52_5.toInt ≤ 999 * v52_4.toInt) → G E ({ frames := 2, cells := 0, slots := 0, locals := 128 } : Room) D cy 6 P52 0 0 52 [(0, .ref a0), (1, .int a1), (3, .int v52_3), (4, .int v52_4), (5, .int v52_5)] [] := by
    intro n52
    induction n52 with
    | zero => intro P52 v52_3 v52_4 v52_5 hm52 I52 X52 W52 hv52_3 hv52_4 hv52_5 hq52_0 rel52_0 rel52_1 rel52_2 rel52_3; omega
    | succ n52 ih52 =>
      intro P52 v52_3 v52_4 v52_5 hm52 I52 X52 W52 hv52_3 hv52_4 hv52_5 hq52_0 rel52_0 rel52_1 rel52_2 rel52_3
      have h11433 := X52.at ha0
      obtain ⟨b11434, e11435, h11436⟩ := I52.fld (h11433) 10 13 2 rfl
      have hq52_0 := hq52_0 b11434 e11435
      obtain ⟨b11437, e11438, h11439⟩ := I52.fld (h11433) 12 13 63 rfl
      have rel52_0 := rel52_0 b11437 e11438
      obtain ⟨b11440, e11441, h11442⟩ := I52.fld (h11433) 15 13 3 rfl
      have rel52_1 := rel52_1 b11434 b11440 e11435 e11441
      have h11443 := I.arr (EM.refB X52 ha0 e11435) rfl (a1.toInt.toNat)
      have h11444 := I.arr (EM.refB X52 ha0 e11441) rfl (a1.toInt.toNat)
      have rel52_2 := rel52_2 b11434 b11437 b11440 e11435 e11438 e11441
      have h11445 := I.arr (EM.refB X52 ha0 e11435) rfl (a1.toInt.toNat)
      have h11446 := I.arr (EM.refB X52 ha0 e11441) rfl (a1.toInt.toNat)
      refine g_iload C dX12_howMany_52 4 rfl ?_
      refine g_iload_n C dX12_howMany_54 rfl 2 rfl ?_
      refine b_icmp_gt C 76 dX12_howMany_55 (by decide) (fun h11447 => ?_) (fun h11447 => ?_)
      · have h11447 : v52_3.toInt < v52_5.toInt := h11447
        refine g_iload C dX12_howMany_76 3 rfl ?_
        exact ret _ _ _ _ _ _ dX12_howMany_78 rfl (by decide) (by decide) ⟨I52, X52, W52, (by omega), (fun b9 c9 e9 f9 => by rw [e11435] at e9; cases e9; rw [e11441] at f9; cases f9; have k1 := X52.keepA (EM.refB X52 ha0 e11435) (by decide) rfl (a1.toInt.toNat); have k2 := X52.keepA (EM.refB X52 ha0 e11441) (by decide) rfl (a1.toInt.toNat); show v52_4.toInt ≤ (pI P52 b11434 (a1.toInt.toNat)).toInt + (pI P52 b11440 (a1.toInt.toNat)).toInt; omega)⟩
      · have h11447 : v52_5.toInt ≤ v52_3.toInt := h11447
        refine s_iinc (lv0 := [(0, .ref a0), (1, .int a1), (3, .int v52_3), (5, .int v52_5)]) (m := 1) C dX12_howMany_58 3 rfl (by decide) rfl (by decide) (by omega) (fun z11448 h11449 => ?_)
        have h11449 : z11448.toInt = v52_4.toInt + 1 := h11449
        have hd : v52_4.toInt ≠ (pI P b11434 (a1.toInt.toNat)).toInt + (pI P b11440 (a1.toInt.toNat)).toInt := fun h9 => by have h8 := rel52_2; rw [show ((pI P b11434 (a1.toInt.toNat)).toInt + (pI P b11440 (a1.toInt.toNat)).toInt).toNat = v52_4.toInt.toNat by omega] at h8; omega
        refine g_iload C dX12_howMany_61 4 rfl ?_
        refine g_aload_n C dX12_howMany_63 rfl 1 rfl ?_
        refine g_iload_n C dX12_howMany_64 rfl 2 rfl ?_
        refine g_iload C dX12_howMany_65 0 rfl ?_
        refine g_callVI (rest := [.int v52_5]) C mv_X12_241 [.int a1, .int z11448] (s_X12_oddsOf I52 (by omega) (by omega) W52) (h11433).1 (h11433).2 rfl rfl (by decide) (Nat.le_of_ble_eq_true rfl) (by decide) dX12_howMany_67 (fun r11450 Y11451 h11452 => ?_)
        obtain ⟨rfl, h11452⟩ := h11452
        obtain ⟨h11452, hi11453⟩ := h11452
        have hi11453 := hi11453 b11437 e11438
        rw [X52.2.2.2 12 (by decide) rfl b11437 (EM.refB X52 ha0 e11438)] at hi11453
        have hi11453 : r11450.toInt = opos (pI P b11437 (21 * a1.toInt + z11448.toInt).toNat) := hi11453
        have h11452 : 0 ≤ r11450.toInt ∧ r11450.toInt ≤ 999 := h11452
        refine s_iadd C dX12_howMany_70 (by show -2147483648 ≤ v52_5.toInt + r11450.toInt ∧ v52_5.toInt + r11450.toInt ≤ 2147483647; omega) (fun z11454 h11455 => ?_)
        have h11455 : z11454.toInt = v52_5.toInt + r11450.toInt := h11455
        refine g_istore (lv' := [(5, .int z11454), (4, .int z11448), (0, .ref a0), (1, .int a1), (3, .int v52_3)]) C dX12_howMany_71 (by decide) rfl ?_
        have st := oS_step2 (f := pI P b11437) (o := (21 * a1.toInt).toNat) (k := (21 * a1.toInt + z11448.toInt).toNat) (d := v52_4.toInt) (d2 := z11448.toInt) (by omega) (by omega) (by omega)
        refine g_goto C 52 dX12_howMany_73 (by decide) ?_
        refine g_lv (lv' := [(0, .ref a0), (1, .int a1), (3, .int v52_3), (4, .int z11448), (5, .int z11454)]) [2, 3, 4, 1, 0] rfl ?_
        exact ih52 P52 v52_3 z11448 z11454 (by omega) I52 X52 W52 (by omega) (by omega) (by omega) (fun b9 e9 => by rw [e11435] at e9; cases e9; omega) (by intro b912 e912; rw [e11438] at e912; cases e912; show z11454.toInt = oS (pI P b11437) (21 * a1.toInt).toNat (z11448.toInt : Int).toNat; omega) (by intro b910 b915 e910 e915; rw [e11435] at e910; cases e910; rw [e11441] at e915; cases e915; show 1 ≤ z11448.toInt ∧ z11448.toInt ≤ ((pI P b11434 (a1.toInt.toNat)).toInt + (pI P b11440 (a1.toInt.toNat)).toInt); omega) (by intro b910 b912 b915 e910 e912 e915; rw [e11435] at e910; cases e910; rw [e11438] at e912; cases e912; rw [e11441] at e915; cases e915; show v52_3.toInt < oS (pI P b11437) (21 * a1.toInt).toNat (((pI P b11434 (a1.toInt.toNat)).toInt + (pI P b11440 (a1.toInt.toNat)).toInt)).toNat; omega) (by show 0 ≤ z11454.toInt ∧ z11454.toInt ≤ 999 * z11448.toInt; omega)
  have J4 : ∀ (n4 : Nat) (v4_2 : Int32) (v4_3 : Int32), (21 - v4_3.toInt).toNat < n4 → (0 ≤ v4_2.toInt ∧ v4_2.toInt ≤ 19980) → (1 ≤ v4_3.toInt ∧ v4_3.toInt ≤ 21) → (∀ b, pR P a0 10 = some b → 1 ≤ (pI P b (a1.toInt.toNat)).toInt ∧ (pI P b (a1.toInt.toNat)).toInt ≤ 16) → (∀ b912, pR P a0 12 = some b912 → v4_2.toInt = oS (pI P b912) (21 * a1.toInt).toNat (v4_3.toInt - 1 : Int).toNat) → (∀ b910 b915, pR P a0 10 = some b910 → pR P a0 15 = some b915 → v4_3.toInt ≤ ((pI P b910 (a1.toInt.toNat)).toInt + (pI P b915 (a1.toInt.toNat)).toInt) + 1) → (0 ≤ v4_2.toInt ∧ v4_2.toInt ≤ 999 * (v4_3.toInt - 1)) → G E ({ frames := 2, cells := 0, slots := 0, locals := 128 } : Room) D cy 6 P 0 0 4 [(0, .ref a0), (1, .int a1), (2, .int v4_2), (3, .int v4_3)] [] := by
    intro n4
    induction n4 with
    | zero => intro v4_2 v4_3 hm4 hv4_2 hv4_3 hq4_0 rel4_0 rel4_1 rel4_2; omega
    | succ n4 ih4 =>
      intro v4_2 v4_3 hm4 hv4_2 hv4_3 hq4_0 rel4_0 rel4_1 rel4_2
      obtain ⟨b11456, e11457, h11458⟩ := I.fld (ha0) 10 13 2 rfl
      have hq4_0 := hq4_0 b11456 e11457
      obtain ⟨b11459, e11460, h11461⟩ := I.fld (ha0) 12 13 63 rfl
      have rel4_0 := rel4_0 b11459 e11460
      obtain ⟨b11462, e11463, h11464⟩ := I.fld (ha0) 15 13 3 rfl
      have rel4_1 := rel4_1 b11456 b11462 e11457 e11463
      have h11465 := I.arr e11457 rfl (a1.toInt.toNat)
      have h11466 := I.arr e11463 rfl (a1.toInt.toNat)
      refine g_iload_n C dX12_howMany_4 rfl 3 rfl ?_
      refine g_aload_n C dX12_howMany_5 rfl 0 rfl ?_
      refine g_iload_n C dX12_howMany_6 rfl 1 rfl ?_
      refine g_callVI (rest := [.int v4_3]) C mv_X12_238 [.int a1] (s_X12_allOf I (by omega) hW) (ha0).1 (ha0).2 rfl rfl (by decide) (Nat.le_of_ble_eq_true rfl) (by decide) dX12_howMany_7 (fun r11467 Y11468 h11469 => ?_)
      obtain ⟨rfl, h11469⟩ := h11469
      obtain ⟨h11469, hi11470⟩ := h11469
      have hi11470 : (r11467.toInt = 0 ∧ (pI P b11456 (a1.toInt.toNat)).toInt = 0) ∨ r11467.toInt = (pI P b11456 (a1.toInt.toNat)).toInt + (pI P b11462 (a1.toInt.toNat)).toInt := hi11470 b11456 b11462 e11457 e11463
      have h11471 := I.arr e11463 rfl (a1.toInt.toNat)
      have h11469 : 0 ≤ r11467.toInt ∧ r11467.toInt ≤ 20 := h11469
      refine b_icmp_gt C 28 dX12_howMany_10 (by decide) (fun h11472 => ?_) (fun h11472 => ?_)
      · have h11472 : r11467.toInt < v4_3.toInt := h11472
        refine g_iload_n C dX12_howMany_28 rfl 2 rfl ?_
        refine b_if_ne C 34 dX12_howMany_29 (by decide) (fun h11473 => ?_) (fun h11473 => ?_)
        · have h11473 : v4_2.toInt ≠ 0 := ti_ne h11473
          have htot : v4_2.toInt = oS (pI P b11459) (21 * a1.toInt).toNat ((pI P b11456 (a1.toInt.toNat)).toInt + (pI P b11462 (a1.toInt.toNat)).toInt).toNat := by rw [show ((pI P b11456 (a1.toInt.toNat)).toInt + (pI P b11462 (a1.toInt.toNat)).toInt).toNat = (v4_3.toInt - 1).toNat by omega]; omega
          refine g_aload_n C dX12_howMany_34 rfl 0 rfl ?_
          refine g_callVI (rest := []) C mv_X12_244 [] (s_X12_drawn I hW) (ha0).1 (ha0).2 rfl rfl (by decide) (Nat.le_of_ble_eq_true rfl) (by decide) dX12_howMany_35 (fun r11474 Y11475 h11476 => ?_)
          obtain ⟨Iy11477, Xy11478, W11479, h11476⟩ := h11476
          have q11480 := Xy11478.keepA e11457 (by decide) rfl (a1.toInt.toNat)
          have q11481 := Xy11478.keepA e11463 (by decide) rfl (a1.toInt.toNat)
          have Xz11482 : EM [] a0 P Y11475 := Xy11478.mono (by decide)
          have e11483 := Xy11478.ref ha0 (by decide) e11457
          have e11484 := Xy11478.ref ha0 (by decide) e11463
          have h11485 := Xy11478.at ha0
          have h11486 := Xy11478.ar h11458
          have h11487 := Xy11478.ar h11464
          have h11476 : True := h11476
          refine g_iload_n C dX12_howMany_38 rfl 2 rfl ?_
          refine s_irem C dX12_howMany_39 (by show 0 < v4_2.toInt; omega) (fun z11488 h11489 => ?_)
          have h11489 : -v4_2.toInt < z11488.toInt ∧ z11488.toInt < v4_2.toInt := h11489
          refine g_istore_n (lv' := [(3, .int z11488), (0, .ref a0), (1, .int a1), (2, .int v4_2)]) C dX12_howMany_40 rfl (by decide) rfl ?_
          refine g_iconst (v := 1) C dX12_howMany_41 (by decide) ?_
          refine g_istore (lv' := [(4, .int 1), (3, .int z11488), (0, .ref a0), (1, .int a1), (2, .int v4_2)]) C dX12_howMany_42 (by decide) rfl ?_
          refine g_aload_n C dX12_howMany_44 rfl 2 rfl ?_
          refine g_iload_n C dX12_howMany_45 rfl 3 rfl ?_
          refine g_iconst (v := 1) C dX12_howMany_46 (by decide) ?_
          refine g_callVI (rest := []) C mv_X12_241 [.int a1, .int 1] (s_X12_oddsOf Iy11477 (by omega) (by decide) W11479) (h11485).1 (h11485).2 rfl rfl (by decide) (Nat.le_of_ble_eq_true rfl) (by decide) dX12_howMany_47 (fun r11490 Y11491 h11492 => ?_)
          obtain ⟨rfl, h11492⟩ := h11492
          obtain ⟨h11492, hi11493⟩ := h11492
          obtain ⟨b11494, e11495, h11496⟩ := Iy11477.fld (h11485) 12 13 63 rfl
          have hi11493 := hi11493 b11494 e11495
          rw [Xz11482.2.2.2 12 (by decide) rfl b11494 (EM.refB Xz11482 ha0 e11495)] at hi11493
          have hi11493 : r11490.toInt = opos (pI P b11494 (21 * a1.toInt + 1).toNat) := hi11493
          have h11492 : 0 ≤ r11490.toInt ∧ r11490.toInt ≤ 999 := h11492
          have hb9 : b11494 = b11459 := Option.some.inj ((EM.refB Xz11482 ha0 e11495).symm.trans (e11460))
          subst hb9
          have s1 := oS_first (f := pI P b11494) (o := (21 * a1.toInt).toNat) (k := (21 * a1.toInt + 1).toNat) (by omega)
          refine g_istore (lv' := [(5, .int r11490), (4, .int 1), (3, .int z11488), (0, .ref a0), (1, .int a1), (2, .int v4_2)]) C dX12_howMany_50 (by decide) rfl ?_
          refine g_lv (lv' := [(0, .ref a0), (1, .int a1), (3, .int z11488), (4, .int 1), (5, .int r11490)]) [3, 4, 2, 1, 0] rfl ?_
          exact J52 _ Y11475 z11488 1 r11490 (Nat.lt_succ_self _) Iy11477 Xz11482 W11479 (by omega) (by decide) (by omega) (fun b9 e9 => by rw [e11483] at e9; cases e9; omega) (by intro b912 e912; rw [e11495] at e912; cases e912; show r11490.toInt = oS (pI P b11494) (21 * a1.toInt).toNat (1 : Int).toNat; omega) (by intro b910 b915 e910 e915; rw [e11483] at e910; cases e910; rw [e11484] at e915; cases e915; show 1 ≤ 1 ∧ 1 ≤ ((pI P b11456 (a1.toInt.toNat)).toInt + (pI P b11462 (a1.toInt.toNat)).toInt); omega) (by intro b910 b912 b915 e910 e912 e915; rw [e11483] at e910; cases e910; rw [e11495] at e912; cases e912; rw [e11484] at e915; cases e915; show z11488.toInt < oS (pI P b11494) (21 * a1.toInt).toNat (((pI P b11456 (a1.toInt.toNat)).toInt + (pI P b11462 (a1.toInt.toNat)).toInt)).toNat; omega) (by show 0 ≤ r11490.toInt ∧ r11490.toInt ≤ 999 * 1; omega)
        · have h11473 : v4_2.toInt = 0 := congrArg Int32.toInt h11473
          refine g_iconst (v := 1) C dX12_howMany_32 (by decide) ?_
          exact ret _ _ _ _ _ _ dX12_howMany_33 rfl (by decide) (by decide) ⟨I, EM.rf, hW, (by decide), (fun b9 c9 e9 f9 => by rw [e11457] at e9; cases e9; rw [e11463] at f9; cases f9; show (1 : Int) ≤ (pI P b11456 (a1.toInt.toNat)).toInt + (pI P b11462 (a1.toInt.toNat)).toInt; omega)⟩
      · have h11472 : v4_3.toInt ≤ r11467.toInt := h11472
        refine g_iload_n C dX12_howMany_13 rfl 2 rfl ?_
        refine g_aload_n C dX12_howMany_14 rfl 0 rfl ?_
        refine g_iload_n C dX12_howMany_15 rfl 1 rfl ?_
        refine g_iload_n C dX12_howMany_16 rfl 3 rfl ?_
        refine g_callVI (rest := [.int v4_2]) C mv_X12_241 [.int a1, .int v4_3] (s_X12_oddsOf I (by omega) (by omega) hW) (ha0).1 (ha0).2 rfl rfl (by decide) (Nat.le_of_ble_eq_true rfl) (by decide) dX12_howMany_17 (fun r11497 Y11498 h11499 => ?_)
        obtain ⟨rfl, h11499⟩ := h11499
        obtain ⟨h11499, hi11500⟩ := h11499
        have hi11500 := hi11500 b11459 e11460
        have hi11500 : r11497.toInt = opos (pI P b11459 (21 * a1.toInt + v4_3.toInt).toNat) := hi11500
        have h11499 : 0 ≤ r11497.toInt ∧ r11497.toInt ≤ 999 := h11499
        refine s_iadd C dX12_howMany_20 (by show -2147483648 ≤ v4_2.toInt + r11497.toInt ∧ v4_2.toInt + r11497.toInt ≤ 2147483647; omega) (fun z11501 h11502 => ?_)
        have h11502 : z11501.toInt = v4_2.toInt + r11497.toInt := h11502
        refine g_istore_n (lv' := [(2, .int z11501), (0, .ref a0), (1, .int a1), (3, .int v4_3)]) C dX12_howMany_21 rfl (by decide) rfl ?_
        refine s_iinc (lv0 := [(2, .int z11501), (0, .ref a0), (1, .int a1)]) (m := 1) C dX12_howMany_22 3 rfl (by decide) rfl (by decide) (by omega) (fun z11503 h11504 => ?_)
        have h11504 : z11503.toInt = v4_3.toInt + 1 := h11504
        have st := oS_step (f := pI P b11459) (o := (21 * a1.toInt).toNat) (k := (21 * a1.toInt + v4_3.toInt).toNat) (d := v4_3.toInt) (d2 := z11503.toInt) (by omega) (by omega) (by omega)
        refine g_goto C 4 dX12_howMany_25 (by decide) ?_
        refine g_lv (lv' := [(0, .ref a0), (1, .int a1), (2, .int z11501), (3, .int z11503)]) [2, 3, 1, 0] rfl ?_
        exact ih4 z11501 z11503 (by omega) (by omega) (by omega) (fun b9 e9 => by rw [e11457] at e9; cases e9; omega) (by intro b912 e912; rw [e11460] at e912; cases e912; show z11501.toInt = oS (pI P b11459) (21 * a1.toInt).toNat (z11503.toInt - 1 : Int).toNat; omega) (by intro b910 b915 e910 e915; rw [e11457] at e910; cases e910; rw [e11463] at e915; cases e915; show z11503.toInt ≤ ((pI P b11456 (a1.toInt.toNat)).toInt + (pI P b11462 (a1.toInt.toNat)).toInt) + 1; omega) (by show 0 ≤ z11501.toInt ∧ z11501.toInt ≤ 999 * (z11503.toInt - 1); omega)
  obtain ⟨b11505, e11506, h11507⟩ := I.fld (ha0) 10 13 2 rfl
  have hf0 := hf0 b11505 e11506
  have h11508 := I.arr e11506 rfl (a1.toInt.toNat)
  obtain ⟨b11509, e11510, h11511⟩ := I.fld (ha0) 15 13 3 rfl
  have h11512 := I.arr e11510 rfl (a1.toInt.toNat)
  obtain ⟨b11513, e11514, h11515⟩ := I.fld (ha0) 12 13 63 rfl
  have s0 := oS_zero (f := pI P b11513) (o := (21 * a1.toInt).toNat)
  refine g_iconst (v := 0) C dX12_howMany_0 (by decide) ?_
  refine g_istore_n (lv' := [(2, .int 0), (0, .ref a0), (1, .int a1)]) C dX12_howMany_1 rfl (by decide) rfl ?_
  refine g_iconst (v := 1) C dX12_howMany_2 (by decide) ?_
  refine g_istore_n (lv' := [(3, .int 1), (2, .int 0), (0, .ref a0), (1, .int a1)]) C dX12_howMany_3 rfl (by decide) rfl ?_
  refine g_lv (lv' := [(0, .ref a0), (1, .int a1), (2, .int 0), (3, .int 1)]) [2, 3, 1, 0] rfl ?_
  exact J4 _ 0 1 (Nat.lt_succ_self _) (by decide) (by decide) (fun b9 e9 => by rw [e11506] at e9; cases e9; omega) (by intro b912 e912; rw [e11514] at e912; cases e912; show 0 = oS (pI P b11513) (21 * a1.toInt).toNat (1 - 1 : Int).toNat; omega) (by intro b910 b915 e910 e915; rw [e11506] at e910; cases e910; rw [e11510] at e915; cases e915; show 1 ≤ ((pI P b11505 (a1.toInt.toNat)).toInt + (pI P b11509 (a1.toInt.toNat)).toInt) + 1; omega) (by show 0 ≤ 0 ∧ 0 ≤ 999 * (1 - 1); omega)
