theorem dX12_adds_0 : decode cX12_adds 0 = .ok (.aload_n 0, 1) := by decide +kernel
theorem dX12_adds_1 : decode cX12_adds 1 = .ok (.getfield 91, 3) := by decide +kernel
theorem dX12_adds_4 : decode cX12_adds 4 = .ok (.aload_n 0, 1) := by decide +kernel
theorem dX12_adds_5 : decode cX12_adds 5 = .ok (.getfield 305, 3) := by decide +kernel
theorem dX12_adds_8 : decode cX12_adds 8 = .ok (.iload_n 1, 1) := by decide +kernel
theorem dX12_adds_9 : decode cX12_adds 9 = .ok (.iastore, 1) := by decide +kernel
theorem dX12_adds_10 : decode cX12_adds 10 = .ok (.aload_n 0, 1) := by decide +kernel
theorem dX12_adds_11 : decode cX12_adds 11 = .ok (.getfield 94, 3) := by decide +kernel
theorem dX12_adds_14 : decode cX12_adds 14 = .ok (.aload_n 0, 1) := by decide +kernel
theorem dX12_adds_15 : decode cX12_adds 15 = .ok (.getfield 305, 3) := by decide +kernel
theorem dX12_adds_18 : decode cX12_adds 18 = .ok (.iload_n 2, 1) := by decide +kernel
theorem dX12_adds_19 : decode cX12_adds 19 = .ok (.iastore, 1) := by decide +kernel
theorem dX12_adds_20 : decode cX12_adds 20 = .ok (.aload_n 0, 1) := by decide +kernel
theorem dX12_adds_21 : decode cX12_adds 21 = .ok (.getfield 97, 3) := by decide +kernel
theorem dX12_adds_24 : decode cX12_adds 24 = .ok (.aload_n 0, 1) := by decide +kernel
theorem dX12_adds_25 : decode cX12_adds 25 = .ok (.getfield 305, 3) := by decide +kernel
theorem dX12_adds_28 : decode cX12_adds 28 = .ok (.iload_n 3, 1) := by decide +kernel
theorem dX12_adds_29 : decode cX12_adds 29 = .ok (.iastore, 1) := by decide +kernel
theorem dX12_adds_30 : decode cX12_adds 30 = .ok (.aload_n 0, 1) := by decide +kernel
theorem dX12_adds_31 : decode cX12_adds 31 = .ok (.dup, 1) := by decide +kernel
theorem dX12_adds_32 : decode cX12_adds 32 = .ok (.getfield 305, 3) := by decide +kernel
theorem dX12_adds_35 : decode cX12_adds 35 = .ok (.iconst 1, 1) := by decide +kernel
theorem dX12_adds_36 : decode cX12_adds 36 = .ok (.iadd, 1) := by decide +kernel
theorem dX12_adds_37 : decode cX12_adds 37 = .ok (.putfield 305, 3) := by decide +kernel
theorem dX12_adds_40 : decode cX12_adds 40 = .ok (.return_, 1) := by decide +kernel
set_option maxHeartbeats 4000000 in
set_option maxRecDepth 100000 in
theorem s_X12_adds {P : PP} {a0 : Nat} {a1 : Int32} {a2 : Int32} {a3 : Int32} (I : IM P a0) (hp0_28 : 0 ≤ (pI P a0 28).toInt ∧ (pI P a0 28).toInt ≤ 63) (hW : MW P a0) : CtrV yX12_adds cX12_adds 4 none ({ frames := 1, cells := 0, slots := 0, locals := 64 } : Room) 0 0 P [.ref a0, .int a1, .int a2, .int a3] (fun P2 => IM P2 a0 ∧ EM [28, 29, 30, 31] a0 P P2 ∧ MW P2 a0 ∧ ((pI P2 a0 28).toInt = (pI P a0 28).toInt + 1)) := by
  refine enV (lv := [(0, .ref a0), (1, .int a1), (2, .int a2), (3, .int a3)]) (by decide) (Nat.le_of_ble_eq_true rfl) rfl (fun E D cy C Ci0 ret => ?_)
  have ha0 := I.2.1
  refine g_aload_n C dX12_adds_0 rfl 0 rfl ?_
  obtain ⟨b43, e44, h45⟩ := I.fld (ha0) 29 13 64 rfl
  refine g_getR C fi_X12_91 rfl e44 (ha0).1 (ha0).2 dX12_adds_1 ?_
  refine g_aload_n C dX12_adds_4 rfl 0 rfl ?_
  refine g_getI C fi_X12_305 (by decide) (ha0).1 (ha0).2 dX12_adds_5 ?_
  refine g_iload_n C dX12_adds_8 rfl 1 rfl ?_
  refine g_iast (j := ((pI P a0 28).toInt.toNat)) C h45.1 h45.2.1 (ix_in h45.2.2 (by omega)) dX12_adds_9 ?_
  refine gqW (ks := [29]) (I.setA e44 h45 (by decide) (arOk.none rfl)) (EM.setA I e44 rfl (by decide)) (fun Y46 Iy47 Xy48 w49 => ?_)
  have w49 : (pI Y46 b43 ((pI P a0 28).toInt.toNat)).toInt = a1.toInt := w49
  have q50 := Xy48.keepF 28 (by decide)
  have W51 := hW.keep I Xy48 (by decide) (by decide) (by decide)
  have Xz52 : EM [28, 29, 30, 31] a0 P Y46 := Xy48.mono (by decide)
  have h53 := Xy48.at ha0
  refine g_aload_n C dX12_adds_10 rfl 0 rfl ?_
  obtain ⟨b54, e55, h56⟩ := Iy47.fld (h53) 30 13 64 rfl
  refine g_getR C fi_X12_94 rfl e55 (h53).1 (h53).2 dX12_adds_11 ?_
  refine g_aload_n C dX12_adds_14 rfl 0 rfl ?_
  refine g_getI C fi_X12_305 (by decide) (h53).1 (h53).2 dX12_adds_15 ?_
  refine g_iload_n C dX12_adds_18 rfl 2 rfl ?_
  refine g_iast (j := ((pI Y46 a0 28).toInt.toNat)) C h56.1 h56.2.1 (ix_in h56.2.2 (by omega)) dX12_adds_19 ?_
  refine gqW (ks := [30]) (Iy47.setA e55 h56 (by decide) (arOk.none rfl)) (EM.setA Iy47 e55 rfl (by decide)) (fun Y57 Iy58 Xy59 w60 => ?_)
  have w60 : (pI Y57 b54 ((pI Y46 a0 28).toInt.toNat)).toInt = a2.toInt := w60
  have q61 := Xy59.keepF 28 (by decide)
  have W62 := W51.keep Iy47 Xy59 (by decide) (by decide) (by decide)
  have Xz63 : EM [28, 29, 30, 31] a0 P Y57 := EM.tr ha0 Xz52 (Xy59.mono (by decide))
  have h64 := Xy59.at h53
  refine g_aload_n C dX12_adds_20 rfl 0 rfl ?_
  obtain ⟨b65, e66, h67⟩ := Iy58.fld (h64) 31 13 64 rfl
  refine g_getR C fi_X12_97 rfl e66 (h64).1 (h64).2 dX12_adds_21 ?_
  refine g_aload_n C dX12_adds_24 rfl 0 rfl ?_
  refine g_getI C fi_X12_305 (by decide) (h64).1 (h64).2 dX12_adds_25 ?_
  refine g_iload_n C dX12_adds_28 rfl 3 rfl ?_
  refine g_iast (j := ((pI Y57 a0 28).toInt.toNat)) C h67.1 h67.2.1 (ix_in h67.2.2 (by omega)) dX12_adds_29 ?_
  refine gqW (ks := [31]) (Iy58.setA e66 h67 (by decide) (arOk.none rfl)) (EM.setA Iy58 e66 rfl (by decide)) (fun Y68 Iy69 Xy70 w71 => ?_)
  have w71 : (pI Y68 b65 ((pI Y57 a0 28).toInt.toNat)).toInt = a3.toInt := w71
  have q72 := Xy70.keepF 28 (by decide)
  have W73 := W62.keep Iy58 Xy70 (by decide) (by decide) (by decide)
  have Xz74 : EM [28, 29, 30, 31] a0 P Y68 := EM.tr ha0 Xz63 (Xy70.mono (by decide))
  have h75 := Xy70.at h64
  refine g_aload_n C dX12_adds_30 rfl 0 rfl ?_
  refine g_dup C dX12_adds_31 rfl ?_
  refine g_getI C fi_X12_305 (by decide) (h75).1 (h75).2 dX12_adds_32 ?_
  refine g_iconst (v := 1) C dX12_adds_35 (by decide) ?_
  refine s_iadd C dX12_adds_36 (by show -2147483648 ≤ (pI Y68 a0 28).toInt + 1 ∧ (pI Y68 a0 28).toInt + 1 ≤ 2147483647; omega) (fun z76 h77 => ?_)
  have h77 : z76.toInt = (pI Y68 a0 28).toInt + 1 := h77
  refine g_putI C fi_X12_305 rfl (h75).1 (h75).2 dX12_adds_37 ?_
  refine gqW (ks := [28]) (Iy69.setI (rgOk.of rfl (by omega))) (EM.setI Iy69 (by decide)) (fun Y78 Iy79 Xy80 w81 => ?_)
  have w81 : (pI Y78 a0 28).toInt = z76.toInt := w81
  have W82 := W73.keep Iy69 Xy80 (by decide) (by decide) (by decide)
  have Xz83 : EM [28, 29, 30, 31] a0 P Y78 := EM.tr ha0 Xz74 (Xy80.mono (by decide))
  have h84 := Xy80.at h75
  exact ret _ _ _ _ _ dX12_adds_40 (by decide) (by decide) ⟨Iy79, Xz83, W82, (by show (pI Y78 a0 28).toInt = (pI P a0 28).toInt + 1; omega)⟩
theorem s_X12_agreesBy {P : PP} {a0 : Nat} {a1 a2 a3 : Int32} (I : IM P a0) (ha1 : 0 ≤ a1.toInt ∧ a1.toInt ≤ 3) (ha2 : 0 ≤ a2.toInt ∧ a2.toInt ≤ 1) (hf0 : ∀ b, pR P a0 10 = some b → 1 ≤ (pI P b (a2.toInt.toNat)).toInt ∧ (pI P b (a2.toInt.toNat)).toInt ≤ 16) (hW : MW P a0) : CtrI yX12_agreesBy cX12_agreesBy 8 (some .boolean) ({ frames := 7, cells := 0, slots := 0, locals := 448 } : Room) 0 0 P [.ref a0, .int a1, .int a2, .int a3] (fun r P2 => IM P2 a0 ∧ EM [28, 29, 30, 31, 35, 36, 37, 38] a0 P P2 ∧ MW P2 a0 ∧ (0 ≤ r.toInt ∧ r.toInt ≤ 1)) := by
  sorry
theorem dX12_allHouses_0 : decode cX12_allHouses 0 = .ok (.iconst 0, 1) := by decide +kernel
theorem dX12_allHouses_1 : decode cX12_allHouses 1 = .ok (.istore_n 1, 1) := by decide +kernel
theorem dX12_allHouses_2 : decode cX12_allHouses 2 = .ok (.iconst 0, 1) := by decide +kernel
theorem dX12_allHouses_3 : decode cX12_allHouses 3 = .ok (.istore_n 2, 1) := by decide +kernel
theorem dX12_allHouses_4 : decode cX12_allHouses 4 = .ok (.iload_n 2, 1) := by decide +kernel
theorem dX12_allHouses_5 : decode cX12_allHouses 5 = .ok (.iconst 4, 1) := by decide +kernel
theorem dX12_allHouses_6 : decode cX12_allHouses 6 = .ok (.if_icmp .ge 18, 3) := by decide +kernel
theorem dX12_allHouses_9 : decode cX12_allHouses 9 = .ok (.iload_n 1, 1) := by decide +kernel
theorem dX12_allHouses_10 : decode cX12_allHouses 10 = .ok (.aload_n 0, 1) := by decide +kernel
theorem dX12_allHouses_11 : decode cX12_allHouses 11 = .ok (.getfield 130, 3) := by decide +kernel
theorem dX12_allHouses_14 : decode cX12_allHouses 14 = .ok (.iload_n 2, 1) := by decide +kernel
theorem dX12_allHouses_15 : decode cX12_allHouses 15 = .ok (.iaload, 1) := by decide +kernel
theorem dX12_allHouses_16 : decode cX12_allHouses 16 = .ok (.iadd, 1) := by decide +kernel
theorem dX12_allHouses_17 : decode cX12_allHouses 17 = .ok (.istore_n 1, 1) := by decide +kernel
theorem dX12_allHouses_18 : decode cX12_allHouses 18 = .ok (.iinc 2 1, 3) := by decide +kernel
theorem dX12_allHouses_21 : decode cX12_allHouses 21 = .ok (.goto (-17), 3) := by decide +kernel
theorem dX12_allHouses_24 : decode cX12_allHouses 24 = .ok (.iload_n 1, 1) := by decide +kernel
theorem dX12_allHouses_25 : decode cX12_allHouses 25 = .ok (.ireturn, 1) := by decide +kernel
set_option maxHeartbeats 4000000 in
set_option maxRecDepth 100000 in
theorem s_X12_allHouses {P : PP} {a0 : Nat} (I : IM P a0) (hW : MW P a0) : CtrI yX12_allHouses cX12_allHouses 3 (some Jvm.ClassFile.FieldType.int) ({ frames := 1, cells := 0, slots := 0, locals := 64 } : Room) 0 0 P [.ref a0] (fun r P2 => P = P2 ∧ (True)) := by
  refine enI (lv := [(0, .ref a0)]) (by decide) (Nat.le_of_ble_eq_true rfl) rfl (fun E D cy C Ci0 ret => ?_)
  have ha0 := I.2.1
  have J4 : ∀ (n4 : Nat) (v4_1 : Int32) (v4_2 : Int32), (4 - v4_2.toInt).toNat < n4 → (0 ≤ v4_2.toInt ∧ v4_2.toInt ≤ 4) → G E ({ frames := 1, cells := 0, slots := 0, locals := 64 } : Room) D cy 3 P 0 0 4 [(0, .ref a0), (1, .int v4_1), (2, .int v4_2)] [] := by
    intro n4
    induction n4 with
    | zero => intro v4_1 v4_2 hm4 hv4_2; omega
    | succ n4 ih4 =>
      intro v4_1 v4_2 hm4 hv4_2
      refine g_iload_n C dX12_allHouses_4 rfl 2 rfl ?_
      refine g_iconst (v := 4) C dX12_allHouses_5 (by decide) ?_
      refine b_icmp_ge C 24 dX12_allHouses_6 (by decide) (fun h125 => ?_) (fun h125 => ?_)
      · have h125 : 4 ≤ v4_2.toInt := h125
        refine g_iload_n C dX12_allHouses_24 rfl 1 rfl ?_
        exact ret _ _ _ _ _ _ dX12_allHouses_25 rfl (by decide) (by decide) ⟨rfl, trivial⟩
      · have h125 : v4_2.toInt < 4 := h125
        refine g_iload_n C dX12_allHouses_9 rfl 1 rfl ?_
        refine g_aload_n C dX12_allHouses_10 rfl 0 rfl ?_
        obtain ⟨b126, e127, h128⟩ := I.fld (ha0) 46 13 4 rfl
        refine g_getR C fi_X12_130 rfl e127 (ha0).1 (ha0).2 dX12_allHouses_11 ?_
        refine g_iload_n C dX12_allHouses_14 rfl 2 rfl ?_
        refine g_iald (j := (v4_2.toInt.toNat)) C h128.1 h128.2.1 (ix_in h128.2.2 (by omega)) dX12_allHouses_15 ?_
        refine a_iadd C dX12_allHouses_16 (fun z129 => ?_)
        refine g_istore_n (lv' := [(1, .int z129), (0, .ref a0), (2, .int v4_2)]) C dX12_allHouses_17 rfl (by decide) rfl ?_
        refine s_iinc (lv0 := [(1, .int z129), (0, .ref a0)]) (m := 1) C dX12_allHouses_18 2 rfl (by decide) rfl (by decide) (by omega) (fun z131 h132 => ?_)
        have h132 : z131.toInt = v4_2.toInt + 1 := h132
        refine g_goto C 4 dX12_allHouses_21 (by decide) ?_
        refine g_lv (lv' := [(0, .ref a0), (1, .int z129), (2, .int z131)]) [2, 1, 0] rfl ?_
        exact ih4 z129 z131 (by omega) (by omega)
  refine g_iconst (v := 0) C dX12_allHouses_0 (by decide) ?_
  refine g_istore_n (lv' := [(1, .int 0), (0, .ref a0)]) C dX12_allHouses_1 rfl (by decide) rfl ?_
  refine g_iconst (v := 0) C dX12_allHouses_2 (by decide) ?_
  refine g_istore_n (lv' := [(2, .int 0), (1, .int 0), (0, .ref a0)]) C dX12_allHouses_3 rfl (by decide) rfl ?_
  refine g_lv (lv' := [(0, .ref a0), (1, .int 0), (2, .int 0)]) [2, 1, 0] rfl ?_
  exact J4 _ 0 0 (Nat.lt_succ_self _) (by decide)
theorem dX12_allOf_0 : decode cX12_allOf 0 = .ok (.aload_n 0, 1) := by decide +kernel
theorem dX12_allOf_1 : decode cX12_allOf 1 = .ok (.getfield 45, 3) := by decide +kernel
theorem dX12_allOf_4 : decode cX12_allOf 4 = .ok (.iload_n 1, 1) := by decide +kernel
theorem dX12_allOf_5 : decode cX12_allOf 5 = .ok (.iaload, 1) := by decide +kernel
theorem dX12_allOf_6 : decode cX12_allOf 6 = .ok (.ifCond .ne 7, 3) := by decide +kernel
theorem dX12_allOf_9 : decode cX12_allOf 9 = .ok (.iconst 0, 1) := by decide +kernel
theorem dX12_allOf_10 : decode cX12_allOf 10 = .ok (.goto 16, 3) := by decide +kernel
theorem dX12_allOf_13 : decode cX12_allOf 13 = .ok (.aload_n 0, 1) := by decide +kernel
theorem dX12_allOf_14 : decode cX12_allOf 14 = .ok (.getfield 45, 3) := by decide +kernel
theorem dX12_allOf_17 : decode cX12_allOf 17 = .ok (.iload_n 1, 1) := by decide +kernel
theorem dX12_allOf_18 : decode cX12_allOf 18 = .ok (.iaload, 1) := by decide +kernel
theorem dX12_allOf_19 : decode cX12_allOf 19 = .ok (.aload_n 0, 1) := by decide +kernel
theorem dX12_allOf_20 : decode cX12_allOf 20 = .ok (.getfield 60, 3) := by decide +kernel
theorem dX12_allOf_23 : decode cX12_allOf 23 = .ok (.iload_n 1, 1) := by decide +kernel
theorem dX12_allOf_24 : decode cX12_allOf 24 = .ok (.iaload, 1) := by decide +kernel
theorem dX12_allOf_25 : decode cX12_allOf 25 = .ok (.iadd, 1) := by decide +kernel
theorem dX12_allOf_26 : decode cX12_allOf 26 = .ok (.ireturn, 1) := by decide +kernel
set_option maxHeartbeats 4000000 in
set_option maxRecDepth 100000 in
theorem s_X12_allOf {P : PP} {a0 : Nat} {a1 : Int32} (I : IM P a0) (ha1 : 0 ≤ a1.toInt ∧ a1.toInt ≤ 1) (hW : MW P a0) : CtrI yX12_allOf cX12_allOf 2 (some Jvm.ClassFile.FieldType.int) ({ frames := 1, cells := 0, slots := 0, locals := 64 } : Room) 0 0 P [.ref a0, .int a1] (fun r P2 => P = P2 ∧ (0 ≤ r.toInt ∧ r.toInt ≤ 20) ∧ (r.toInt = 0 ∨ ∀ b c, pR P2 a0 10 = some b → pR P2 a0 15 = some c → r.toInt = (pI P2 b (a1.toInt.toNat)).toInt + (pI P2 c (a1.toInt.toNat)).toInt)) := by
  refine enI (lv := [(0, .ref a0), (1, .int a1)]) (by decide) (Nat.le_of_ble_eq_true rfl) rfl (fun E D cy C Ci0 ret => ?_)
  have ha0 := I.2.1
  refine g_aload_n C dX12_allOf_0 rfl 0 rfl ?_
  obtain ⟨b144, e145, h146⟩ := I.fld (ha0) 10 13 2 rfl
  refine g_getR C fi_X12_45 rfl e145 (ha0).1 (ha0).2 dX12_allOf_1 ?_
  refine g_iload_n C dX12_allOf_4 rfl 1 rfl ?_
  refine g_iald (j := (a1.toInt.toNat)) C h146.1 h146.2.1 (ix_in h146.2.2 (by omega)) dX12_allOf_5 ?_
  have h147 := I.arr e145 rfl (a1.toInt.toNat)
  refine b_if_ne C 13 dX12_allOf_6 (by decide) (fun h148 => ?_) (fun h148 => ?_)
  · have h148 : (pI P b144 (a1.toInt.toNat)).toInt ≠ 0 := ti_ne h148
    refine g_aload_n C dX12_allOf_13 rfl 0 rfl ?_
    refine g_getR C fi_X12_45 rfl e145 (ha0).1 (ha0).2 dX12_allOf_14 ?_
    refine g_iload_n C dX12_allOf_17 rfl 1 rfl ?_
    refine g_iald (j := (a1.toInt.toNat)) C h146.1 h146.2.1 (ix_in h146.2.2 (by omega)) dX12_allOf_18 ?_
    refine g_aload_n C dX12_allOf_19 rfl 0 rfl ?_
    obtain ⟨b149, e150, h151⟩ := I.fld (ha0) 15 13 3 rfl
    refine g_getR C fi_X12_60 rfl e150 (ha0).1 (ha0).2 dX12_allOf_20 ?_
    refine g_iload_n C dX12_allOf_23 rfl 1 rfl ?_
    refine g_iald (j := (a1.toInt.toNat)) C h151.1 h151.2.1 (ix_in h151.2.2 (by omega)) dX12_allOf_24 ?_
    have h152 := I.arr e150 rfl (a1.toInt.toNat)
    refine s_iadd C dX12_allOf_25 (by show -2147483648 ≤ (pI P b144 (a1.toInt.toNat)).toInt + (pI P b149 (a1.toInt.toNat)).toInt ∧ (pI P b144 (a1.toInt.toNat)).toInt + (pI P b149 (a1.toInt.toNat)).toInt ≤ 2147483647; omega) (fun z153 h154 => ?_)
    have h154 : z153.toInt = (pI P b144 (a1.toInt.toNat)).toInt + (pI P b149 (a1.toInt.toNat)).toInt := h154
    exact ret _ _ _ _ _ _ dX12_allOf_26 rfl (by decide) (by decide) ⟨rfl, (by omega), Or.inr (fun b9 c9 e9 f9 => by rw [e145] at e9; cases e9; rw [e150] at f9; cases f9; show z153.toInt = (pI P b144 (a1.toInt.toNat)).toInt + (pI P b149 (a1.toInt.toNat)).toInt; omega)⟩
  · have h148 : (pI P b144 (a1.toInt.toNat)).toInt = 0 := congrArg Int32.toInt h148
    refine g_iconst (v := 0) C dX12_allOf_9 (by decide) ?_
    refine g_goto C 26 dX12_allOf_10 (by decide) ?_
    exact ret _ _ _ _ _ _ dX12_allOf_26 rfl (by decide) (by decide) ⟨rfl, (by decide), Or.inl rfl⟩
theorem dX12_apart_0 : decode cX12_apart 0 = .ok (.aload_n 0, 1) := by decide +kernel
theorem dX12_apart_1 : decode cX12_apart 1 = .ok (.iconst 0, 1) := by decide +kernel
theorem dX12_apart_2 : decode cX12_apart 2 = .ok (.putfield 1, 3) := by decide +kernel
theorem dX12_apart_5 : decode cX12_apart 5 = .ok (.aload_n 0, 1) := by decide +kernel
theorem dX12_apart_6 : decode cX12_apart 6 = .ok (.iload_n 1, 1) := by decide +kernel
theorem dX12_apart_7 : decode cX12_apart 7 = .ok (.iload_n 2, 1) := by decide +kernel
theorem dX12_apart_8 : decode cX12_apart 8 = .ok (.invokevirtual 298, 3) := by decide +kernel
theorem dX12_isPaper_0 : decode cX12_isPaper 0 = .ok (.iload_n 1, 1) := by decide +kernel
theorem dX12_isPaper_1 : decode cX12_isPaper 1 = .ok (.invokestatic 278, 3) := by decide +kernel
theorem dX12_isQuarter_0 : decode cX12_isQuarter 0 = .ok (.iload_n 0, 1) := by decide +kernel
theorem dX12_isQuarter_1 : decode cX12_isQuarter 1 = .ok (.iconst 0, 1) := by decide +kernel
theorem dX12_isQuarter_2 : decode cX12_isQuarter 2 = .ok (.iconst 3, 1) := by decide +kernel
theorem dX12_isQuarter_3 : decode cX12_isQuarter 3 = .ok (.invokestatic 178, 3) := by decide +kernel
theorem dX12_within_0 : decode cX12_within 0 = .ok (.iload_n 0, 1) := by decide +kernel
theorem dX12_within_1 : decode cX12_within 1 = .ok (.iload_n 1, 1) := by decide +kernel
theorem dX12_within_2 : decode cX12_within 2 = .ok (.if_icmp .lt 12, 3) := by decide +kernel
theorem dX12_within_5 : decode cX12_within 5 = .ok (.iload_n 0, 1) := by decide +kernel
theorem dX12_within_6 : decode cX12_within 6 = .ok (.iload_n 2, 1) := by decide +kernel
theorem dX12_within_7 : decode cX12_within 7 = .ok (.if_icmp .gt 7, 3) := by decide +kernel
theorem dX12_within_10 : decode cX12_within 10 = .ok (.iconst 1, 1) := by decide +kernel
theorem dX12_within_11 : decode cX12_within 11 = .ok (.goto 4, 3) := by decide +kernel
theorem dX12_within_14 : decode cX12_within 14 = .ok (.iconst 0, 1) := by decide +kernel
theorem dX12_within_15 : decode cX12_within 15 = .ok (.ireturn, 1) := by decide +kernel
set_option maxHeartbeats 4000000 in
set_option maxRecDepth 100000 in
theorem s_X12_within {P : PP} {a0 : Int32} {a1 : Int32} {a2 : Int32} (I : IV P) : CtrI yX12_within cX12_within 3 (some Jvm.ClassFile.FieldType.boolean) ({ frames := 1, cells := 0, slots := 0, locals := 64 } : Room) 0 0 P [.int a0, .int a1, .int a2] (fun r P2 => P = P2 ∧ (0 ≤ r.toInt ∧ r.toInt ≤ 1) ∧ (r.toInt = 0 ∨ (a1.toInt ≤ a0.toInt ∧ a0.toInt ≤ a2.toInt))) := by
  refine enI (lv := [(0, .int a0), (1, .int a1), (2, .int a2)]) (by decide) (Nat.le_of_ble_eq_true rfl) rfl (fun E D cy C Ci0 ret => ?_)
  have J14 : G E ({ frames := 1, cells := 0, slots := 0, locals := 64 } : Room) D cy 3 P 0 0 14 [] [] := by
    refine g_iconst (v := 0) C dX12_within_14 (by decide) ?_
    exact ret _ _ _ _ _ _ dX12_within_15 rfl (by decide) (by decide) ⟨rfl, (by decide), Or.inl rfl⟩
  refine g_iload_n C dX12_within_0 rfl 0 rfl ?_
  refine g_iload_n C dX12_within_1 rfl 1 rfl ?_
  have u169 := ti_rng a0
  have u170 := ti_rng a1
  refine b_icmp_lt C 14 dX12_within_2 (by decide) (fun h168 => ?_) (fun h168 => ?_)
  · have h168 : a0.toInt < a1.toInt := h168
    refine g_lv (lv' := []) [] rfl ?_
    exact J14 
  · have h168 : a1.toInt ≤ a0.toInt := h168
    refine g_iload_n C dX12_within_5 rfl 0 rfl ?_
    refine g_iload_n C dX12_within_6 rfl 2 rfl ?_
    have u172 := ti_rng a0
    have u173 := ti_rng a2
    refine b_icmp_gt C 14 dX12_within_7 (by decide) (fun h171 => ?_) (fun h171 => ?_)
    · have h171 : a2.toInt < a0.toInt := h171
      refine g_lv (lv' := []) [] rfl ?_
      exact J14 
    · have h171 : a0.toInt ≤ a2.toInt := h171
      refine g_iconst (v := 1) C dX12_within_10 (by decide) ?_
      refine g_goto C 15 dX12_within_11 (by decide) ?_
      exact ret _ _ _ _ _ _ dX12_within_15 rfl (by decide) (by decide) ⟨rfl, (by decide), Or.inr (by omega)⟩
theorem dX12_isQuarter_6 : decode cX12_isQuarter 6 = .ok (.ireturn, 1) := by decide +kernel
set_option maxHeartbeats 4000000 in
set_option maxRecDepth 100000 in
theorem s_X12_isQuarter {P : PP} {a0 : Int32} (I : IV P) : CtrI yX12_isQuarter cX12_isQuarter 1 (some Jvm.ClassFile.FieldType.boolean) ({ frames := 2, cells := 0, slots := 0, locals := 128 } : Room) 0 0 P [.int a0] (fun r P2 => P = P2 ∧ (0 ≤ r.toInt ∧ r.toInt ≤ 1) ∧ (r.toInt = 0 ∨ (((0 : Int) ≤ a0.toInt ∧ a0.toInt ≤ (3 : Int))))) := by
  refine enI (lv := [(0, .int a0)]) (by decide) (Nat.le_of_ble_eq_true rfl) rfl (fun E D cy C Ci0 ret => ?_)
  refine g_iload_n C dX12_isQuarter_0 rfl 0 rfl ?_
  refine g_iconst (v := 0) C dX12_isQuarter_1 (by decide) ?_
  refine g_iconst (v := 3) C dX12_isQuarter_2 (by decide) ?_
  refine g_callSI (b := 0) (ci := 0) (rest := []) C ms_X12_178 [.int a0, .int 0, .int 3] (s_X12_within I) rfl rfl (by decide) (Nat.le_of_ble_eq_true rfl) (by decide) dX12_isQuarter_3 (fun r178 Y179 h180 => ?_)
  obtain ⟨rfl, h180⟩ := h180
  obtain ⟨h180, hi181⟩ := h180
  have hi181 : r178.toInt = 0 ∨ (0 ≤ a0.toInt ∧ a0.toInt ≤ 3) := hi181
  have h180 : 0 ≤ r178.toInt ∧ r178.toInt ≤ 1 := h180
  exact ret _ _ _ _ _ _ dX12_isQuarter_6 (nar_b (b01 (by omega))) (by decide) (by decide) ⟨rfl, (by omega), hi181.imp id (fun h9 => by omega)⟩
theorem dX12_isPaper_4 : decode cX12_isPaper 4 = .ok (.ifCond .eq 21, 3) := by decide +kernel
theorem dX12_isPaper_7 : decode cX12_isPaper 7 = .ok (.iload_n 2, 1) := by decide +kernel
theorem dX12_isPaper_8 : decode cX12_isPaper 8 = .ok (.ifCond .lt 17, 3) := by decide +kernel
theorem dX12_isPaper_11 : decode cX12_isPaper 11 = .ok (.iload_n 2, 1) := by decide +kernel
theorem dX12_isPaper_12 : decode cX12_isPaper 12 = .ok (.aload_n 0, 1) := by decide +kernel
theorem dX12_isPaper_13 : decode cX12_isPaper 13 = .ok (.getfield 69, 3) := by decide +kernel
theorem dX12_isPaper_16 : decode cX12_isPaper 16 = .ok (.iload_n 1, 1) := by decide +kernel
theorem dX12_isPaper_17 : decode cX12_isPaper 17 = .ok (.iaload, 1) := by decide +kernel
theorem dX12_isPaper_18 : decode cX12_isPaper 18 = .ok (.if_icmp .ge 7, 3) := by decide +kernel
theorem dX12_isPaper_21 : decode cX12_isPaper 21 = .ok (.iconst 1, 1) := by decide +kernel
theorem dX12_isPaper_22 : decode cX12_isPaper 22 = .ok (.goto 4, 3) := by decide +kernel
theorem dX12_isPaper_25 : decode cX12_isPaper 25 = .ok (.iconst 0, 1) := by decide +kernel
theorem dX12_isPaper_26 : decode cX12_isPaper 26 = .ok (.ireturn, 1) := by decide +kernel
set_option maxHeartbeats 4000000 in
set_option maxRecDepth 100000 in
theorem s_X12_isPaper {P : PP} {a0 : Nat} {a1 : Int32} {a2 : Int32} (I : IM P a0) (hW : MW P a0) : CtrI yX12_isPaper cX12_isPaper 3 (some Jvm.ClassFile.FieldType.boolean) ({ frames := 3, cells := 0, slots := 0, locals := 192 } : Room) 0 0 P [.ref a0, .int a1, .int a2] (fun r P2 => P = P2 ∧ (0 ≤ r.toInt ∧ r.toInt ≤ 1) ∧ (r.toInt = 0 ∨ (((0 : Int) ≤ a1.toInt ∧ a1.toInt ≤ (3 : Int)) ∧ ((0 : Int) ≤ a2.toInt ∧ a2.toInt ≤ (39 : Int)))) ∧ (r.toInt = 0 ∨ ∀ b, pR P2 a0 20 = some b → a2.toInt < (pI P2 b (a1.toInt.toNat)).toInt ∧ 0 ≤ a2.toInt)) := by
  refine enI (lv := [(0, .ref a0), (1, .int a1), (2, .int a2)]) (by decide) (Nat.le_of_ble_eq_true rfl) rfl (fun E D cy C Ci0 ret => ?_)
  have ha0 := I.2.1
  have J25 : G E ({ frames := 3, cells := 0, slots := 0, locals := 192 } : Room) D cy 3 P 0 0 25 [] [] := by
    refine g_iconst (v := 0) C dX12_isPaper_25 (by decide) ?_
    exact ret _ _ _ _ _ _ dX12_isPaper_26 rfl (by decide) (by decide) ⟨rfl, (by decide), Or.inl rfl, Or.inl rfl⟩
  refine g_iload_n C dX12_isPaper_0 rfl 1 rfl ?_
  refine g_callSI (b := 0) (ci := 0) (rest := []) C ms_X12_278 [.int a1] (s_X12_isQuarter I.1) rfl rfl (by decide) (Nat.le_of_ble_eq_true rfl) (by decide) dX12_isPaper_1 (fun r195 Y196 h197 => ?_)
  obtain ⟨rfl, h197⟩ := h197
  obtain ⟨h197, hi198⟩ := h197
  have hi198 : r195.toInt = 0 ∨ (((0 : Int) ≤ a1.toInt ∧ a1.toInt ≤ (3 : Int))) := hi198
  have h197 : 0 ≤ r195.toInt ∧ r195.toInt ≤ 1 := h197
  refine b_if_eq C 25 dX12_isPaper_4 (by decide) (fun h199 => ?_) (fun h199 => ?_)
  · have h199 : r195.toInt = 0 := congrArg Int32.toInt h199
    clear hi198
    refine g_lv (lv' := []) [] rfl ?_
    exact J25 
  · have h199 : r195.toInt ≠ 0 := ti_ne h199
    replace hi198 := hi198.resolve_left (by omega)
    refine g_iload_n C dX12_isPaper_7 rfl 2 rfl ?_
    have u201 := ti_rng a2
    refine b_if_lt C 25 dX12_isPaper_8 (by decide) (fun h200 => ?_) (fun h200 => ?_)
    · have h200 : a2.toInt < 0 := h200
      refine g_lv (lv' := []) [] rfl ?_
      exact J25 
    · have h200 : 0 ≤ a2.toInt := h200
      refine g_iload_n C dX12_isPaper_11 rfl 2 rfl ?_
      refine g_aload_n C dX12_isPaper_12 rfl 0 rfl ?_
      obtain ⟨b202, e203, h204⟩ := I.fld (ha0) 20 13 20 rfl
      refine g_getR C fi_X12_69 rfl e203 (ha0).1 (ha0).2 dX12_isPaper_13 ?_
      refine g_iload_n C dX12_isPaper_16 rfl 1 rfl ?_
      refine g_iald (j := (a1.toInt.toNat)) C h204.1 h204.2.1 (ix_in h204.2.2 (by omega)) dX12_isPaper_17 ?_
      have h205 := I.arr e203 rfl (a1.toInt.toNat)
      have u207 := ti_rng a2
      refine b_icmp_ge C 25 dX12_isPaper_18 (by decide) (fun h206 => ?_) (fun h206 => ?_)
      · have h206 : (pI P b202 (a1.toInt.toNat)).toInt ≤ a2.toInt := h206
        refine g_lv (lv' := []) [] rfl ?_
        exact J25 
      · have h206 : a2.toInt < (pI P b202 (a1.toInt.toNat)).toInt := h206
        refine g_iconst (v := 1) C dX12_isPaper_21 (by decide) ?_
        refine g_goto C 26 dX12_isPaper_22 (by decide) ?_
        exact ret _ _ _ _ _ _ dX12_isPaper_26 rfl (by decide) (by decide) ⟨rfl, (by decide), Or.inr (by omega), Or.inr (fun b9 e9 => by rw [e203] at e9; cases e9; show a2.toInt < (pI P b202 (a1.toInt.toNat)).toInt ∧ 0 ≤ a2.toInt; omega)⟩
theorem dX12_apart_11 : decode cX12_apart 11 = .ok (.ifCond .eq 33, 3) := by decide +kernel
theorem dX12_apart_14 : decode cX12_apart 14 = .ok (.aload_n 0, 1) := by decide +kernel
theorem dX12_apart_15 : decode cX12_apart 15 = .ok (.getfield 75, 3) := by decide +kernel
theorem dX12_apart_18 : decode cX12_apart 18 = .ok (.bipush 40, 2) := by decide +kernel
theorem dX12_apart_20 : decode cX12_apart 20 = .ok (.iload_n 1, 1) := by decide +kernel
theorem dX12_apart_21 : decode cX12_apart 21 = .ok (.imul, 1) := by decide +kernel
theorem dX12_apart_22 : decode cX12_apart 22 = .ok (.iload_n 2, 1) := by decide +kernel
theorem dX12_apart_23 : decode cX12_apart 23 = .ok (.iadd, 1) := by decide +kernel
theorem dX12_apart_24 : decode cX12_apart 24 = .ok (.iaload, 1) := by decide +kernel
theorem dX12_apart_25 : decode cX12_apart 25 = .ok (.ifCond .ge 19, 3) := by decide +kernel
theorem dX12_apart_28 : decode cX12_apart 28 = .ok (.aload_n 0, 1) := by decide +kernel
theorem dX12_apart_29 : decode cX12_apart 29 = .ok (.iconst 0, 1) := by decide +kernel
theorem dX12_apart_30 : decode cX12_apart 30 = .ok (.invokevirtual 192, 3) := by decide +kernel
theorem dX12_isBook_0 : decode cX12_isBook 0 = .ok (.iload_n 1, 1) := by decide +kernel
theorem dX12_isBook_1 : decode cX12_isBook 1 = .ok (.iconst 0, 1) := by decide +kernel
theorem dX12_isBook_2 : decode cX12_isBook 2 = .ok (.iconst 1, 1) := by decide +kernel
theorem dX12_isBook_3 : decode cX12_isBook 3 = .ok (.invokestatic 178, 3) := by decide +kernel
theorem dX12_isBook_6 : decode cX12_isBook 6 = .ok (.ifCond .eq 16, 3) := by decide +kernel
theorem dX12_isBook_9 : decode cX12_isBook 9 = .ok (.aload_n 0, 1) := by decide +kernel
theorem dX12_isBook_10 : decode cX12_isBook 10 = .ok (.getfield 45, 3) := by decide +kernel
theorem dX12_isBook_13 : decode cX12_isBook 13 = .ok (.iload_n 1, 1) := by decide +kernel
theorem dX12_isBook_14 : decode cX12_isBook 14 = .ok (.iaload, 1) := by decide +kernel
theorem dX12_isBook_15 : decode cX12_isBook 15 = .ok (.ifCond .le 7, 3) := by decide +kernel
theorem dX12_isBook_18 : decode cX12_isBook 18 = .ok (.iconst 1, 1) := by decide +kernel
theorem dX12_isBook_19 : decode cX12_isBook 19 = .ok (.goto 4, 3) := by decide +kernel
theorem dX12_isBook_22 : decode cX12_isBook 22 = .ok (.iconst 0, 1) := by decide +kernel
theorem dX12_isBook_23 : decode cX12_isBook 23 = .ok (.ireturn, 1) := by decide +kernel
set_option maxHeartbeats 4000000 in
set_option maxRecDepth 100000 in
theorem s_X12_isBook {P : PP} {a0 : Nat} {a1 : Int32} (I : IM P a0) (hW : MW P a0) : CtrI yX12_isBook cX12_isBook 2 (some Jvm.ClassFile.FieldType.boolean) ({ frames := 2, cells := 0, slots := 0, locals := 128 } : Room) 0 0 P [.ref a0, .int a1] (fun r P2 => P = P2 ∧ (0 ≤ r.toInt ∧ r.toInt ≤ 1) ∧ (r.toInt = 0 ∨ (((0 : Int) ≤ a1.toInt ∧ a1.toInt ≤ (1 : Int)))) ∧ (r.toInt = 0 ∨ ∀ b, pR P2 a0 10 = some b → 0 < (pI P2 b (a1.toInt.toNat)).toInt)) := by
  refine enI (lv := [(0, .ref a0), (1, .int a1)]) (by decide) (Nat.le_of_ble_eq_true rfl) rfl (fun E D cy C Ci0 ret => ?_)
  have ha0 := I.2.1
  have J22 : G E ({ frames := 2, cells := 0, slots := 0, locals := 128 } : Room) D cy 2 P 0 0 22 [] [] := by
    refine g_iconst (v := 0) C dX12_isBook_22 (by decide) ?_
    exact ret _ _ _ _ _ _ dX12_isBook_23 rfl (by decide) (by decide) ⟨rfl, (by decide), Or.inl rfl, Or.inl rfl⟩
  refine g_iload_n C dX12_isBook_0 rfl 1 rfl ?_
  refine g_iconst (v := 0) C dX12_isBook_1 (by decide) ?_
  refine g_iconst (v := 1) C dX12_isBook_2 (by decide) ?_
  refine g_callSI (b := 0) (ci := 0) (rest := []) C ms_X12_178 [.int a1, .int 0, .int 1] (s_X12_within I.1) rfl rfl (by decide) (Nat.le_of_ble_eq_true rfl) (by decide) dX12_isBook_3 (fun r244 Y245 h246 => ?_)
  obtain ⟨rfl, h246⟩ := h246
  obtain ⟨h246, hi247⟩ := h246
  have hi247 : r244.toInt = 0 ∨ (0 ≤ a1.toInt ∧ a1.toInt ≤ 1) := hi247
  have h246 : 0 ≤ r244.toInt ∧ r244.toInt ≤ 1 := h246
  refine b_if_eq C 22 dX12_isBook_6 (by decide) (fun h248 => ?_) (fun h248 => ?_)
  · have h248 : r244.toInt = 0 := congrArg Int32.toInt h248
    clear hi247
    refine g_lv (lv' := []) [] rfl ?_
    exact J22 
  · have h248 : r244.toInt ≠ 0 := ti_ne h248
    replace hi247 := hi247.resolve_left (by omega)
    refine g_aload_n C dX12_isBook_9 rfl 0 rfl ?_
    obtain ⟨b249, e250, h251⟩ := I.fld (ha0) 10 13 2 rfl
    refine g_getR C fi_X12_45 rfl e250 (ha0).1 (ha0).2 dX12_isBook_10 ?_
    refine g_iload_n C dX12_isBook_13 rfl 1 rfl ?_
    refine g_iald (j := (a1.toInt.toNat)) C h251.1 h251.2.1 (ix_in h251.2.2 (by omega)) dX12_isBook_14 ?_
    have h252 := I.arr e250 rfl (a1.toInt.toNat)
    refine b_if_le C 22 dX12_isBook_15 (by decide) (fun h253 => ?_) (fun h253 => ?_)
    · have h253 : (pI P b249 (a1.toInt.toNat)).toInt ≤ 0 := h253
      refine g_lv (lv' := []) [] rfl ?_
      exact J22 
    · have h253 : 0 < (pI P b249 (a1.toInt.toNat)).toInt := h253
      refine g_iconst (v := 1) C dX12_isBook_18 (by decide) ?_
      refine g_goto C 23 dX12_isBook_19 (by decide) ?_
      exact ret _ _ _ _ _ _ dX12_isBook_23 rfl (by decide) (by decide) ⟨rfl, (by decide), Or.inr (by omega), Or.inr (fun b9 e9 => by rw [e250] at e9; cases e9; show 0 < (pI P b249 (a1.toInt.toNat)).toInt; omega)⟩
theorem dX12_apart_33 : decode cX12_apart 33 = .ok (.ifCond .eq 11, 3) := by decide +kernel
theorem dX12_apart_36 : decode cX12_apart 36 = .ok (.aload_n 0, 1) := by decide +kernel
theorem dX12_apart_37 : decode cX12_apart 37 = .ok (.iconst 1, 1) := by decide +kernel
theorem dX12_apart_38 : decode cX12_apart 38 = .ok (.invokevirtual 192, 3) := by decide +kernel
theorem dX12_apart_41 : decode cX12_apart 41 = .ok (.ifCond .ne 5, 3) := by decide +kernel
theorem dX12_apart_46 : decode cX12_apart 46 = .ok (.aload_n 0, 1) := by decide +kernel
theorem dX12_apart_47 : decode cX12_apart 47 = .ok (.invokevirtual 336, 3) := by decide +kernel
theorem dX12_leavesNone_0 : decode cX12_leavesNone 0 = .ok (.iconst 0, 1) := by decide +kernel
theorem dX12_leavesNone_1 : decode cX12_leavesNone 1 = .ok (.istore_n 1, 1) := by decide +kernel
theorem dX12_leavesNone_2 : decode cX12_leavesNone 2 = .ok (.iload_n 1, 1) := by decide +kernel
theorem dX12_leavesNone_3 : decode cX12_leavesNone 3 = .ok (.bipush 40, 2) := by decide +kernel
theorem dX12_leavesNone_5 : decode cX12_leavesNone 5 = .ok (.if_icmp .ge 16, 3) := by decide +kernel
theorem dX12_leavesNone_8 : decode cX12_leavesNone 8 = .ok (.aload_n 0, 1) := by decide +kernel
theorem dX12_leavesNone_9 : decode cX12_leavesNone 9 = .ok (.getfield 100, 3) := by decide +kernel
theorem dX12_leavesNone_12 : decode cX12_leavesNone 12 = .ok (.iload_n 1, 1) := by decide +kernel
theorem dX12_leavesNone_13 : decode cX12_leavesNone 13 = .ok (.iconst 0, 1) := by decide +kernel
theorem dX12_leavesNone_14 : decode cX12_leavesNone 14 = .ok (.bastore, 1) := by decide +kernel
theorem dX12_leavesNone_15 : decode cX12_leavesNone 15 = .ok (.iinc 1 1, 3) := by decide +kernel
theorem dX12_leavesNone_18 : decode cX12_leavesNone 18 = .ok (.goto (-16), 3) := by decide +kernel
theorem dX12_leavesNone_21 : decode cX12_leavesNone 21 = .ok (.return_, 1) := by decide +kernel
set_option maxHeartbeats 4000000 in
set_option maxRecDepth 100000 in
theorem s_X12_leavesNone {P : PP} {a0 : Nat} (I : IM P a0) (hW : MW P a0) : CtrV yX12_leavesNone cX12_leavesNone 2 none ({ frames := 1, cells := 0, slots := 0, locals := 64 } : Room) 0 0 P [.ref a0] (fun P2 => IM P2 a0 ∧ EM [32] a0 P P2 ∧ MW P2 a0) := by
  refine enV (lv := [(0, .ref a0)]) (by decide) (Nat.le_of_ble_eq_true rfl) rfl (fun E D cy C Ci0 ret => ?_)
  have ha0 := I.2.1
  have J2 : ∀ (n2 : Nat) (P2 : PP) (v2_1 : Int32), (40 - v2_1.toInt).toNat < n2 → (IM P2 a0) → (EM [32] a0 P P2) → (MW P2 a0) → (0 ≤ v2_1.toInt ∧ v2_1.toInt ≤ 40) → G E ({ frames := 1, cells := 0, slots := 0, locals := 64 } : Room) D cy 2 P2 0 0 2 [(0, .ref a0), (1, .int v2_1)] [] := by
    intro n2
    induction n2 with
    | zero => intro P2 v2_1 hm2 I2 X2 W2 hv2_1; omega
    | succ n2 ih2 =>
      intro P2 v2_1 hm2 I2 X2 W2 hv2_1
      have h536 := X2.at ha0
      refine g_iload_n C dX12_leavesNone_2 rfl 1 rfl ?_
      refine g_bipush (v := 40) C dX12_leavesNone_3 (by decide) ?_
      refine b_icmp_ge C 21 dX12_leavesNone_5 (by decide) (fun h537 => ?_) (fun h537 => ?_)
      · have h537 : 40 ≤ v2_1.toInt := h537
        exact ret _ _ _ _ _ dX12_leavesNone_21 (by decide) (by decide) ⟨I2, X2, W2⟩
      · have h537 : v2_1.toInt < 40 := h537
        refine g_aload_n C dX12_leavesNone_8 rfl 0 rfl ?_
        obtain ⟨b538, e539, h540⟩ := I2.fld (h536) 32 15 40 rfl
        refine g_getR C fi_X12_100 rfl e539 (h536).1 (h536).2 dX12_leavesNone_9 ?_
        refine g_iload_n C dX12_leavesNone_12 rfl 1 rfl ?_
        refine g_iconst (v := 0) C dX12_leavesNone_13 (by decide) ?_
        refine g_zast (j := (v2_1.toInt.toNat)) C h540.1 h540.2.1 (ix_in h540.2.2 (by omega)) (Or.inl rfl) dX12_leavesNone_14 ?_
        refine gqW (ks := [32]) (I2.setA e539 h540 (by decide) (arOk.none rfl)) (EM.setA I2 e539 rfl (by decide)) (fun Y541 Iy542 Xy543 w544 => ?_)
        have w544 : (pI Y541 b538 (v2_1.toInt.toNat)).toInt = 0 := w544
        have W545 := W2.keep I2 Xy543 (by decide) (by decide) (by decide)
        have Xz546 : EM [32] a0 P Y541 := EM.tr ha0 X2 (Xy543.mono (by decide))
        have e547 := Xy543.ref h536 (by decide) e539
        have h548 := Xy543.at h536
        have h549 := Xy543.ar h540
        refine s_iinc (lv0 := [(0, .ref a0)]) (m := 1) C dX12_leavesNone_15 1 rfl (by decide) rfl (by decide) (by omega) (fun z550 h551 => ?_)
        have h551 : z550.toInt = v2_1.toInt + 1 := h551
        refine g_goto C 2 dX12_leavesNone_18 (by decide) ?_
        refine g_lv (lv' := [(0, .ref a0), (1, .int z550)]) [1, 0] rfl ?_
        exact ih2 Y541 z550 (by omega) Iy542 Xz546 W545 (by omega)
  refine g_iconst (v := 0) C dX12_leavesNone_0 (by decide) ?_
  refine g_istore_n (lv' := [(1, .int 0), (0, .ref a0)]) C dX12_leavesNone_1 rfl (by decide) rfl ?_
  refine g_lv (lv' := [(0, .ref a0), (1, .int 0)]) [1, 0] rfl ?_
  exact J2 _ P 0 (Nat.lt_succ_self _) I EM.rf hW (by decide)
theorem dX12_apart_44 : decode cX12_apart 44 = .ok (.iconst (-1), 1) := by decide +kernel
theorem dX12_apart_45 : decode cX12_apart 45 = .ok (.ireturn, 1) := by decide +kernel
theorem dX12_apart_50 : decode cX12_apart 50 = .ok (.iconst 0, 1) := by decide +kernel
theorem dX12_apart_51 : decode cX12_apart 51 = .ok (.istore_n 3, 1) := by decide +kernel
theorem dX12_apart_52 : decode cX12_apart 52 = .ok (.iconst 0, 1) := by decide +kernel
theorem dX12_apart_53 : decode cX12_apart 53 = .ok (.istore 4, 2) := by decide +kernel
theorem dX12_apart_55 : decode cX12_apart 55 = .ok (.iload 4, 2) := by decide +kernel
theorem dX12_apart_57 : decode cX12_apart 57 = .ok (.iload_n 2, 1) := by decide +kernel
theorem dX12_apart_58 : decode cX12_apart 58 = .ok (.if_icmp .ge 32, 3) := by decide +kernel
theorem dX12_apart_61 : decode cX12_apart 61 = .ok (.iload_n 3, 1) := by decide +kernel
theorem dX12_apart_62 : decode cX12_apart 62 = .ok (.aload_n 0, 1) := by decide +kernel
theorem dX12_apart_63 : decode cX12_apart 63 = .ok (.getfield 75, 3) := by decide +kernel
theorem dX12_apart_66 : decode cX12_apart 66 = .ok (.bipush 40, 2) := by decide +kernel
theorem dX12_apart_68 : decode cX12_apart 68 = .ok (.iload_n 1, 1) := by decide +kernel
theorem dX12_apart_69 : decode cX12_apart 69 = .ok (.imul, 1) := by decide +kernel
theorem dX12_apart_70 : decode cX12_apart 70 = .ok (.iload 4, 2) := by decide +kernel
theorem dX12_apart_72 : decode cX12_apart 72 = .ok (.iadd, 1) := by decide +kernel
theorem dX12_apart_73 : decode cX12_apart 73 = .ok (.iaload, 1) := by decide +kernel
theorem dX12_apart_74 : decode cX12_apart 74 = .ok (.ifCond .ge 7, 3) := by decide +kernel
theorem dX12_apart_77 : decode cX12_apart 77 = .ok (.iconst 1, 1) := by decide +kernel
theorem dX12_apart_78 : decode cX12_apart 78 = .ok (.goto 4, 3) := by decide +kernel
theorem dX12_apart_81 : decode cX12_apart 81 = .ok (.iconst 0, 1) := by decide +kernel
theorem dX12_apart_90 : decode cX12_apart 90 = .ok (.iconst 0, 1) := by decide +kernel
theorem dX12_apart_91 : decode cX12_apart 91 = .ok (.istore 4, 2) := by decide +kernel
theorem dX12_apart_93 : decode cX12_apart 93 = .ok (.iconst 0, 1) := by decide +kernel
theorem dX12_apart_94 : decode cX12_apart 94 = .ok (.istore 5, 2) := by decide +kernel
theorem dX12_apart_96 : decode cX12_apart 96 = .ok (.iconst 0, 1) := by decide +kernel
theorem dX12_apart_97 : decode cX12_apart 97 = .ok (.istore 6, 2) := by decide +kernel
theorem dX12_apart_99 : decode cX12_apart 99 = .ok (.iload 6, 2) := by decide +kernel
theorem dX12_apart_101 : decode cX12_apart 101 = .ok (.iconst 1, 1) := by decide +kernel
theorem dX12_apart_102 : decode cX12_apart 102 = .ok (.aload_n 0, 1) := by decide +kernel
theorem dX12_apart_103 : decode cX12_apart 103 = .ok (.iload_n 1, 1) := by decide +kernel
theorem dX12_apart_104 : decode cX12_apart 104 = .ok (.invokevirtual 295, 3) := by decide +kernel
theorem dX12_namelessIn_0 : decode cX12_namelessIn 0 = .ok (.iconst 0, 1) := by decide +kernel
theorem dX12_namelessIn_1 : decode cX12_namelessIn 1 = .ok (.istore_n 2, 1) := by decide +kernel
theorem dX12_namelessIn_2 : decode cX12_namelessIn 2 = .ok (.iconst 0, 1) := by decide +kernel
theorem dX12_namelessIn_3 : decode cX12_namelessIn 3 = .ok (.istore_n 3, 1) := by decide +kernel
theorem dX12_namelessIn_4 : decode cX12_namelessIn 4 = .ok (.iload_n 3, 1) := by decide +kernel
theorem dX12_namelessIn_5 : decode cX12_namelessIn 5 = .ok (.aload_n 0, 1) := by decide +kernel
theorem dX12_namelessIn_6 : decode cX12_namelessIn 6 = .ok (.getfield 69, 3) := by decide +kernel
theorem dX12_namelessIn_9 : decode cX12_namelessIn 9 = .ok (.iload_n 1, 1) := by decide +kernel
theorem dX12_namelessIn_10 : decode cX12_namelessIn 10 = .ok (.iaload, 1) := by decide +kernel
theorem dX12_namelessIn_11 : decode cX12_namelessIn 11 = .ok (.if_icmp .ge 31, 3) := by decide +kernel
theorem dX12_namelessIn_14 : decode cX12_namelessIn 14 = .ok (.iload_n 2, 1) := by decide +kernel
theorem dX12_namelessIn_15 : decode cX12_namelessIn 15 = .ok (.aload_n 0, 1) := by decide +kernel
theorem dX12_namelessIn_16 : decode cX12_namelessIn 16 = .ok (.getfield 75, 3) := by decide +kernel
theorem dX12_namelessIn_19 : decode cX12_namelessIn 19 = .ok (.bipush 40, 2) := by decide +kernel
theorem dX12_namelessIn_21 : decode cX12_namelessIn 21 = .ok (.iload_n 1, 1) := by decide +kernel
theorem dX12_namelessIn_22 : decode cX12_namelessIn 22 = .ok (.imul, 1) := by decide +kernel
theorem dX12_namelessIn_23 : decode cX12_namelessIn 23 = .ok (.iload_n 3, 1) := by decide +kernel
theorem dX12_namelessIn_24 : decode cX12_namelessIn 24 = .ok (.iadd, 1) := by decide +kernel
theorem dX12_namelessIn_25 : decode cX12_namelessIn 25 = .ok (.iaload, 1) := by decide +kernel
theorem dX12_namelessIn_26 : decode cX12_namelessIn 26 = .ok (.ifCond .ge 7, 3) := by decide +kernel
theorem dX12_namelessIn_29 : decode cX12_namelessIn 29 = .ok (.iconst 1, 1) := by decide +kernel
theorem dX12_namelessIn_30 : decode cX12_namelessIn 30 = .ok (.goto 4, 3) := by decide +kernel
theorem dX12_namelessIn_33 : decode cX12_namelessIn 33 = .ok (.iconst 0, 1) := by decide +kernel
theorem dX12_namelessIn_34 : decode cX12_namelessIn 34 = .ok (.iadd, 1) := by decide +kernel
theorem dX12_namelessIn_35 : decode cX12_namelessIn 35 = .ok (.istore_n 2, 1) := by decide +kernel
theorem dX12_namelessIn_36 : decode cX12_namelessIn 36 = .ok (.iinc 3 1, 3) := by decide +kernel
theorem dX12_namelessIn_39 : decode cX12_namelessIn 39 = .ok (.goto (-35), 3) := by decide +kernel
theorem dX12_namelessIn_42 : decode cX12_namelessIn 42 = .ok (.iload_n 2, 1) := by decide +kernel
theorem dX12_namelessIn_43 : decode cX12_namelessIn 43 = .ok (.ireturn, 1) := by decide +kernel
set_option maxHeartbeats 4000000 in
set_option maxRecDepth 100000 in
theorem s_X12_namelessIn {P : PP} {a0 : Nat} {a1 : Int32} (I : IM P a0) (ha1 : 0 ≤ a1.toInt ∧ a1.toInt ≤ 3) (hW : MW P a0) : CtrI yX12_namelessIn cX12_namelessIn 4 (some Jvm.ClassFile.FieldType.int) ({ frames := 1, cells := 0, slots := 0, locals := 64 } : Room) 0 0 P [.ref a0, .int a1] (fun r P2 => P = P2 ∧ (True)) := by
  refine enI (lv := [(0, .ref a0), (1, .int a1)]) (by decide) (Nat.le_of_ble_eq_true rfl) rfl (fun E D cy C Ci0 ret => ?_)
  have ha0 := I.2.1
  have J4 : ∀ (n4 : Nat) (v4_2 : Int32) (v4_3 : Int32), (40 - v4_3.toInt).toNat < n4 → (0 ≤ v4_3.toInt ∧ v4_3.toInt ≤ 40) → G E ({ frames := 1, cells := 0, slots := 0, locals := 64 } : Room) D cy 4 P 0 0 4 [(0, .ref a0), (1, .int a1), (2, .int v4_2), (3, .int v4_3)] [] := by
    intro n4
    induction n4 with
    | zero => intro v4_2 v4_3 hm4 hv4_3; omega
    | succ n4 ih4 =>
      intro v4_2 v4_3 hm4 hv4_3
      have J34 : ∀ (v34_s0 : Int32), (0 ≤ v4_3.toInt ∧ v4_3.toInt ≤ 39) → (0 ≤ v34_s0.toInt ∧ v34_s0.toInt ≤ 1) → (∀ b, pR P a0 20 = some b → 1 ≤ (pI P b (a1.toInt.toNat)).toInt ∧ (pI P b (a1.toInt.toNat)).toInt ≤ 40) → G E ({ frames := 1, cells := 0, slots := 0, locals := 64 } : Room) D cy 4 P 0 0 34 [(0, .ref a0), (1, .int a1), (3, .int v4_3)] [.int v34_s0, .int v4_2] := by
        intro v34_s0 hv34_3 hv34_s0 hq34_0
        obtain ⟨b1353, e1354, h1355⟩ := I.fld (ha0) 20 13 20 rfl
        have hq34_0 := hq34_0 b1353 e1354
        refine a_iadd C dX12_namelessIn_34 (fun z1356 => ?_)
        refine g_istore_n (lv' := [(2, .int z1356), (0, .ref a0), (1, .int a1), (3, .int v4_3)]) C dX12_namelessIn_35 rfl (by decide) rfl ?_
        refine s_iinc (lv0 := [(2, .int z1356), (0, .ref a0), (1, .int a1)]) (m := 1) C dX12_namelessIn_36 3 rfl (by decide) rfl (by decide) (by omega) (fun z1358 h1359 => ?_)
        have h1359 : z1358.toInt = v4_3.toInt + 1 := h1359
        refine g_goto C 4 dX12_namelessIn_39 (by decide) ?_
        refine g_lv (lv' := [(0, .ref a0), (1, .int a1), (2, .int z1356), (3, .int z1358)]) [2, 3, 1, 0] rfl ?_
        exact ih4 z1356 z1358 (by omega) (by omega)
      refine g_iload_n C dX12_namelessIn_4 rfl 3 rfl ?_
      refine g_aload_n C dX12_namelessIn_5 rfl 0 rfl ?_
      obtain ⟨b1360, e1361, h1362⟩ := I.fld (ha0) 20 13 20 rfl
      refine g_getR C fi_X12_69 rfl e1361 (ha0).1 (ha0).2 dX12_namelessIn_6 ?_
      refine g_iload_n C dX12_namelessIn_9 rfl 1 rfl ?_
      refine g_iald (j := (a1.toInt.toNat)) C h1362.1 h1362.2.1 (ix_in h1362.2.2 (by omega)) dX12_namelessIn_10 ?_
      have h1363 := I.arr e1361 rfl (a1.toInt.toNat)
      refine b_icmp_ge C 42 dX12_namelessIn_11 (by decide) (fun h1364 => ?_) (fun h1364 => ?_)
      · have h1364 : (pI P b1360 (a1.toInt.toNat)).toInt ≤ v4_3.toInt := h1364
        refine g_iload_n C dX12_namelessIn_42 rfl 2 rfl ?_
        exact ret _ _ _ _ _ _ dX12_namelessIn_43 rfl (by decide) (by decide) ⟨rfl, trivial⟩
      · have h1364 : v4_3.toInt < (pI P b1360 (a1.toInt.toNat)).toInt := h1364
        refine g_iload_n C dX12_namelessIn_14 rfl 2 rfl ?_
        refine g_aload_n C dX12_namelessIn_15 rfl 0 rfl ?_
        obtain ⟨b1365, e1366, h1367⟩ := I.fld (ha0) 22 13 800 rfl
        refine g_getR C fi_X12_75 rfl e1366 (ha0).1 (ha0).2 dX12_namelessIn_16 ?_
        refine g_bipush (v := 40) C dX12_namelessIn_19 (by decide) ?_
        refine g_iload_n C dX12_namelessIn_21 rfl 1 rfl ?_
        refine s_imul C dX12_namelessIn_22 (by show -2147483648 ≤ 40 * a1.toInt ∧ 40 * a1.toInt ≤ 2147483647; omega) (fun z1368 h1369 => ?_)
        have h1369 : z1368.toInt = 40 * a1.toInt := h1369
        refine g_iload_n C dX12_namelessIn_23 rfl 3 rfl ?_
        refine s_iadd C dX12_namelessIn_24 (by show -2147483648 ≤ z1368.toInt + v4_3.toInt ∧ z1368.toInt + v4_3.toInt ≤ 2147483647; omega) (fun z1370 h1371 => ?_)
        have h1371 : z1370.toInt = z1368.toInt + v4_3.toInt := h1371
        refine g_iald (j := (z1370.toInt.toNat)) C h1367.1 h1367.2.1 (ix_in h1367.2.2 (by omega)) dX12_namelessIn_25 ?_
        have h1372 := I.arr e1366 rfl (z1370.toInt.toNat)
        refine b_if_ge C 33 dX12_namelessIn_26 (by decide) (fun h1373 => ?_) (fun h1373 => ?_)
        · have h1373 : 0 ≤ (pI P b1365 (z1370.toInt.toNat)).toInt := h1373
          refine g_iconst (v := 0) C dX12_namelessIn_33 (by decide) ?_
          refine g_lv (lv' := [(0, .ref a0), (1, .int a1), (3, .int v4_3)]) [0, 1, 3] rfl ?_
          exact J34 0 (by omega) (by decide) (fun b9 e9 => by rw [e1361] at e9; cases e9; omega)
        · have h1373 : (pI P b1365 (z1370.toInt.toNat)).toInt < 0 := h1373
          refine g_iconst (v := 1) C dX12_namelessIn_29 (by decide) ?_
          refine g_goto C 34 dX12_namelessIn_30 (by decide) ?_
          refine g_lv (lv' := [(0, .ref a0), (1, .int a1), (3, .int v4_3)]) [0, 1, 3] rfl ?_
          exact J34 1 (by omega) (by decide) (fun b9 e9 => by rw [e1361] at e9; cases e9; omega)
  refine g_iconst (v := 0) C dX12_namelessIn_0 (by decide) ?_
  refine g_istore_n (lv' := [(2, .int 0), (0, .ref a0), (1, .int a1)]) C dX12_namelessIn_1 rfl (by decide) rfl ?_
  refine g_iconst (v := 0) C dX12_namelessIn_2 (by decide) ?_
  refine g_istore_n (lv' := [(3, .int 0), (2, .int 0), (0, .ref a0), (1, .int a1)]) C dX12_namelessIn_3 rfl (by decide) rfl ?_
  refine g_lv (lv' := [(0, .ref a0), (1, .int a1), (2, .int 0), (3, .int 0)]) [2, 3, 1, 0] rfl ?_
  exact J4 _ 0 0 (Nat.lt_succ_self _) (by decide)
theorem dX12_apart_82 : decode cX12_apart 82 = .ok (.iadd, 1) := by decide +kernel
theorem dX12_apart_83 : decode cX12_apart 83 = .ok (.istore_n 3, 1) := by decide +kernel
theorem dX12_apart_84 : decode cX12_apart 84 = .ok (.iinc 4 1, 3) := by decide +kernel
theorem dX12_apart_87 : decode cX12_apart 87 = .ok (.goto (-32), 3) := by decide +kernel
theorem dX12_apart_107 : decode cX12_apart 107 = .ok (.ishl, 1) := by decide +kernel
theorem dX12_apart_108 : decode cX12_apart 108 = .ok (.if_icmp .ge 74, 3) := by decide +kernel
theorem dX12_apart_111 : decode cX12_apart 111 = .ok (.aload_n 0, 1) := by decide +kernel
theorem dX12_apart_112 : decode cX12_apart 112 = .ok (.iload_n 1, 1) := by decide +kernel
theorem dX12_apart_113 : decode cX12_apart 113 = .ok (.iconst 0, 1) := by decide +kernel
theorem dX12_apart_114 : decode cX12_apart 114 = .ok (.iload 6, 2) := by decide +kernel
theorem dX12_apart_116 : decode cX12_apart 116 = .ok (.invokevirtual 396, 3) := by decide +kernel
theorem dX12_apart_119 : decode cX12_apart 119 = .ok (.ifCond .eq 57, 3) := by decide +kernel
theorem dX12_apart_122 : decode cX12_apart 122 = .ok (.aload_n 0, 1) := by decide +kernel
theorem dX12_apart_123 : decode cX12_apart 123 = .ok (.iload_n 1, 1) := by decide +kernel
theorem dX12_apart_124 : decode cX12_apart 124 = .ok (.iconst 1, 1) := by decide +kernel
theorem dX12_apart_125 : decode cX12_apart 125 = .ok (.iload 6, 2) := by decide +kernel
theorem dX12_apart_127 : decode cX12_apart 127 = .ok (.invokevirtual 396, 3) := by decide +kernel
theorem dX12_apart_130 : decode cX12_apart 130 = .ok (.ifCond .eq 46, 3) := by decide +kernel
theorem dX12_apart_133 : decode cX12_apart 133 = .ok (.iload 4, 2) := by decide +kernel
theorem dX12_apart_135 : decode cX12_apart 135 = .ok (.ifCond .ne 12, 3) := by decide +kernel
theorem dX12_apart_138 : decode cX12_apart 138 = .ok (.iload 6, 2) := by decide +kernel
theorem dX12_apart_140 : decode cX12_apart 140 = .ok (.iload_n 3, 1) := by decide +kernel
theorem dX12_apart_141 : decode cX12_apart 141 = .ok (.ishr, 1) := by decide +kernel
theorem dX12_apart_142 : decode cX12_apart 142 = .ok (.iconst 1, 1) := by decide +kernel
theorem dX12_apart_143 : decode cX12_apart 143 = .ok (.iand, 1) := by decide +kernel
theorem dX12_apart_144 : decode cX12_apart 144 = .ok (.ifCond .ne 7, 3) := by decide +kernel
theorem dX12_apart_147 : decode cX12_apart 147 = .ok (.iconst 1, 1) := by decide +kernel
theorem dX12_apart_148 : decode cX12_apart 148 = .ok (.goto 4, 3) := by decide +kernel
theorem dX12_apart_151 : decode cX12_apart 151 = .ok (.iconst 0, 1) := by decide +kernel
theorem dX12_apart_152 : decode cX12_apart 152 = .ok (.istore 4, 2) := by decide +kernel
theorem dX12_apart_154 : decode cX12_apart 154 = .ok (.iload 5, 2) := by decide +kernel
theorem dX12_apart_156 : decode cX12_apart 156 = .ok (.ifCond .ne 13, 3) := by decide +kernel
theorem dX12_apart_159 : decode cX12_apart 159 = .ok (.iload 6, 2) := by decide +kernel
theorem dX12_apart_161 : decode cX12_apart 161 = .ok (.iload_n 3, 1) := by decide +kernel
theorem dX12_apart_162 : decode cX12_apart 162 = .ok (.ishr, 1) := by decide +kernel
theorem dX12_apart_163 : decode cX12_apart 163 = .ok (.iconst 1, 1) := by decide +kernel
theorem dX12_apart_164 : decode cX12_apart 164 = .ok (.iand, 1) := by decide +kernel
theorem dX12_apart_165 : decode cX12_apart 165 = .ok (.iconst 1, 1) := by decide +kernel
theorem dX12_apart_166 : decode cX12_apart 166 = .ok (.if_icmp .ne 7, 3) := by decide +kernel
theorem dX12_apart_169 : decode cX12_apart 169 = .ok (.iconst 1, 1) := by decide +kernel
theorem dX12_apart_170 : decode cX12_apart 170 = .ok (.goto 4, 3) := by decide +kernel
theorem dX12_apart_173 : decode cX12_apart 173 = .ok (.iconst 0, 1) := by decide +kernel
theorem dX12_apart_174 : decode cX12_apart 174 = .ok (.istore 5, 2) := by decide +kernel
theorem dX12_apart_176 : decode cX12_apart 176 = .ok (.iinc 6 1, 3) := by decide +kernel
theorem dX12_apart_179 : decode cX12_apart 179 = .ok (.goto (-80), 3) := by decide +kernel
theorem dX12_apart_182 : decode cX12_apart 182 = .ok (.iload 4, 2) := by decide +kernel
theorem dX12_apart_184 : decode cX12_apart 184 = .ok (.ifCond .eq 12, 3) := by decide +kernel
theorem dX12_apart_187 : decode cX12_apart 187 = .ok (.iload 5, 2) := by decide +kernel
theorem dX12_apart_189 : decode cX12_apart 189 = .ok (.ifCond .eq 7, 3) := by decide +kernel
theorem dX12_apart_192 : decode cX12_apart 192 = .ok (.iconst 2, 1) := by decide +kernel
theorem dX12_apart_193 : decode cX12_apart 193 = .ok (.goto 22, 3) := by decide +kernel
theorem dX12_apart_196 : decode cX12_apart 196 = .ok (.iload 4, 2) := by decide +kernel
theorem dX12_apart_198 : decode cX12_apart 198 = .ok (.ifCond .eq 7, 3) := by decide +kernel
theorem dX12_apart_201 : decode cX12_apart 201 = .ok (.iconst 0, 1) := by decide +kernel
theorem dX12_apart_202 : decode cX12_apart 202 = .ok (.goto 13, 3) := by decide +kernel
theorem dX12_apart_205 : decode cX12_apart 205 = .ok (.iload 5, 2) := by decide +kernel
theorem dX12_apart_207 : decode cX12_apart 207 = .ok (.ifCond .eq 7, 3) := by decide +kernel
theorem dX12_apart_210 : decode cX12_apart 210 = .ok (.iconst 1, 1) := by decide +kernel
theorem dX12_apart_211 : decode cX12_apart 211 = .ok (.goto 4, 3) := by decide +kernel
theorem dX12_apart_214 : decode cX12_apart 214 = .ok (.iconst (-1), 1) := by decide +kernel
theorem dX12_apart_215 : decode cX12_apart 215 = .ok (.ireturn, 1) := by decide +kernel
set_option maxHeartbeats 4000000 in
set_option maxRecDepth 100000 in
theorem s_X12_apart {P : PP} {a0 : Nat} {a1 : Int32} {a2 : Int32} (I : IM P a0) (hW : MW P a0) : CtrI yX12_apart cX12_apart 7 (some Jvm.ClassFile.FieldType.int) ({ frames := 8, cells := 0, slots := 0, locals := 512 } : Room) 0 0 P [.ref a0, .int a1, .int a2] (fun r P2 => IM P2 a0 ∧ EM [0, 28, 29, 30, 31, 32, 35, 36, 37, 38] a0 P P2 ∧ MW P2 a0 ∧ (-1 ≤ r.toInt ∧ r.toInt ≤ 2)) := by
  refine enI (lv := [(0, .ref a0), (1, .int a1), (2, .int a2)]) (by decide) (Nat.le_of_ble_eq_true rfl) rfl (fun E D cy C Ci0 ret => ?_)
  have ha0 := I.2.1
  have J196 : ∀ (P196 : PP) (v196_4 : Int32) (v196_5 : Int32), (IM P196 a0) → (EM [0, 28, 29, 30, 31, 32, 35, 36, 37, 38] a0 P P196) → (MW P196 a0) → (0 ≤ v196_4.toInt ∧ v196_4.toInt ≤ 1) → (0 ≤ v196_5.toInt ∧ v196_5.toInt ≤ 1) → (0 ≤ (pI P196 a0 0).toInt ∧ (pI P196 a0 0).toInt ≤ 0) → (∀ b, pR P196 a0 10 = some b → 1 ≤ (pI P196 b 0).toInt ∧ (pI P196 b 0).toInt ≤ 16) → (∀ b, pR P196 a0 10 = some b → 1 ≤ (pI P196 b 1).toInt ∧ (pI P196 b 1).toInt ≤ 16) → (∀ b, pR P196 a0 20 = some b → 1 ≤ (pI P196 b (a1.toInt.toNat)).toInt ∧ (pI P196 b (a1.toInt.toNat)).toInt ≤ 40) → G E ({ frames := 8, cells := 0, slots := 0, locals := 512 } : Room) D cy 7 P196 0 0 196 [(4, .int v196_4), (5, .int v196_5)] [] := by
    intro P196 v196_4 v196_5 I196 X196 W196 hv196_4 hv196_5 hq196_0 hq196_1 hq196_2 hq196_3
    have h5872 := X196.at ha0
    obtain ⟨b5873, e5874, h5875⟩ := I196.fld (h5872) 10 13 2 rfl
    have hq196_1 := hq196_1 b5873 e5874
    have hq196_2 := hq196_2 b5873 e5874
    obtain ⟨b5876, e5877, h5878⟩ := I196.fld (h5872) 20 13 20 rfl
    have hq196_3 := hq196_3 b5876 e5877
    refine g_iload C dX12_apart_196 0 rfl ?_
    refine b_if_eq C 205 dX12_apart_198 (by decide) (fun h5879 => ?_) (fun h5879 => ?_)
    · have h5879 : v196_4.toInt = 0 := congrArg Int32.toInt h5879
      refine g_iload C dX12_apart_205 1 rfl ?_
      refine b_if_eq C 214 dX12_apart_207 (by decide) (fun h5880 => ?_) (fun h5880 => ?_)
      · have h5880 : v196_5.toInt = 0 := congrArg Int32.toInt h5880
        refine g_iconst (v := (-1)) C dX12_apart_214 (by decide) ?_
        exact ret _ _ _ _ _ _ dX12_apart_215 rfl (by decide) (by decide) ⟨I196, X196, W196, (by decide)⟩
      · have h5880 : v196_5.toInt ≠ 0 := ti_ne h5880
        refine g_iconst (v := 1) C dX12_apart_210 (by decide) ?_
        refine g_goto C 215 dX12_apart_211 (by decide) ?_
        exact ret _ _ _ _ _ _ dX12_apart_215 rfl (by decide) (by decide) ⟨I196, X196, W196, (by decide)⟩
    · have h5879 : v196_4.toInt ≠ 0 := ti_ne h5879
      refine g_iconst (v := 0) C dX12_apart_201 (by decide) ?_
      refine g_goto C 215 dX12_apart_202 (by decide) ?_
      exact ret _ _ _ _ _ _ dX12_apart_215 rfl (by decide) (by decide) ⟨I196, X196, W196, (by decide)⟩
  have J99 : ∀ (n99 : Nat) (P99 : PP) (v99_3 : Int32) (v99_4 : Int32) (v99_5 : Int32) (v99_6 : Int32), (2147483647 - v99_6.toInt).toNat < n99 → (IM P99 a0) → (EM [0, 28, 29, 30, 31, 32, 35, 36, 37, 38] a0 P P99) → (MW P99 a0) → (0 ≤ a1.toInt ∧ a1.toInt ≤ 3) → (0 ≤ v99_4.toInt ∧ v99_4.toInt ≤ 1) → (0 ≤ v99_5.toInt ∧ v99_5.toInt ≤ 1) → (0 ≤ v99_6.toInt) → (0 ≤ (pI P99 a0 0).toInt ∧ (pI P99 a0 0).toInt ≤ 0) → (∀ b, pR P99 a0 10 = some b → 1 ≤ (pI P99 b 0).toInt ∧ (pI P99 b 0).toInt ≤ 16) → (∀ b, pR P99 a0 10 = some b → 1 ≤ (pI P99 b 1).toInt ∧ (pI P99 b 1).toInt ≤ 16) → (∀ b, pR P99 a0 20 = some b → 1 ≤ (pI P99 b (a1.toInt.toNat)).toInt ∧ (pI P99 b (a1.toInt.toNat)).toInt ≤ 40) → G E ({ frames := 8, cells := 0, slots := 0, locals := 512 } : Room) D cy 7 P99 0 0 99 [(0, .ref a0), (1, .int a1), (3, .int v99_3), (4, .int v99_4), (5, .int v99_5), (6, .int v99_6)] [] := by
    intro n99
    induction n99 with
    | zero => intro P99 v99_3 v99_4 v99_5 v99_6 hm99 I99 X99 W99 hv99_1 hv99_4 hv99_5 hv99_6 hq99_0 hq99_1 hq99_2 hq99_3; omega
    | succ n99 ih99 =>
      intro P99 v99_3 v99_4 v99_5 v99_6 hm99 I99 X99 W99 hv99_1 hv99_4 hv99_5 hv99_6 hq99_0 hq99_1 hq99_2 hq99_3
      have h5881 := X99.at ha0
      obtain ⟨b5882, e5883, h5884⟩ := I99.fld (h5881) 10 13 2 rfl
      have hq99_1 := hq99_1 b5882 e5883
      have hq99_2 := hq99_2 b5882 e5883
      obtain ⟨b5885, e5886, h5887⟩ := I99.fld (h5881) 20 13 20 rfl
      have hq99_3 := hq99_3 b5885 e5886
      have J176 : ∀ (P176 : PP) (v176_4 : Int32) (v176_5 : Int32), (IM P176 a0) → (EM [0, 28, 29, 30, 31, 32, 35, 36, 37, 38] a0 P P176) → (MW P176 a0) → (0 ≤ a1.toInt ∧ a1.toInt ≤ 3) → (0 ≤ v176_4.toInt ∧ v176_4.toInt ≤ 1) → (0 ≤ v176_5.toInt ∧ v176_5.toInt ≤ 1) → (0 ≤ v99_6.toInt ∧ v99_6.toInt ≤ 2147483646) → (0 ≤ (pI P176 a0 0).toInt ∧ (pI P176 a0 0).toInt ≤ 0) → (∀ b, pR P176 a0 10 = some b → 1 ≤ (pI P176 b 0).toInt ∧ (pI P176 b 0).toInt ≤ 16) → (∀ b, pR P176 a0 10 = some b → 1 ≤ (pI P176 b 1).toInt ∧ (pI P176 b 1).toInt ≤ 16) → (∀ b, pR P176 a0 20 = some b → 1 ≤ (pI P176 b (a1.toInt.toNat)).toInt ∧ (pI P176 b (a1.toInt.toNat)).toInt ≤ 40) → G E ({ frames := 8, cells := 0, slots := 0, locals := 512 } : Room) D cy 7 P176 0 0 176 [(0, .ref a0), (1, .int a1), (3, .int v99_3), (4, .int v176_4), (5, .int v176_5), (6, .int v99_6)] [] := by
        intro P176 v176_4 v176_5 I176 X176 W176 hv176_1 hv176_4 hv176_5 hv176_6 hq176_0 hq176_1 hq176_2 hq176_3
        have h5888 := X176.at ha0
        obtain ⟨b5889, e5890, h5891⟩ := I176.fld (h5888) 10 13 2 rfl
        have hq176_1 := hq176_1 b5889 e5890
        have hq176_2 := hq176_2 b5889 e5890
        obtain ⟨b5892, e5893, h5894⟩ := I176.fld (h5888) 20 13 20 rfl
        have hq176_3 := hq176_3 b5892 e5893
        refine s_iinc (lv0 := [(0, .ref a0), (1, .int a1), (3, .int v99_3), (4, .int v176_4), (5, .int v176_5)]) (m := 1) C dX12_apart_176 5 rfl (by decide) rfl (by decide) (by omega) (fun z5895 h5896 => ?_)
        have h5896 : z5895.toInt = v99_6.toInt + 1 := h5896
        refine g_goto C 99 dX12_apart_179 (by decide) ?_
        refine g_lv (lv' := [(0, .ref a0), (1, .int a1), (3, .int v99_3), (4, .int v176_4), (5, .int v176_5), (6, .int z5895)]) [1, 2, 3, 4, 5, 0] rfl ?_
        exact ih99 P176 v99_3 v176_4 v176_5 z5895 (by omega) I176 X176 W176 (by omega) (by omega) (by omega) (by omega) (by omega) (fun b9 e9 => by rw [e5890] at e9; cases e9; omega) (fun b9 e9 => by rw [e5890] at e9; cases e9; omega) (fun b9 e9 => by rw [e5893] at e9; cases e9; omega)
      have J174 : ∀ (P174 : PP) (v174_4 : Int32) (v174_s0 : Int32), (IM P174 a0) → (EM [0, 28, 29, 30, 31, 32, 35, 36, 37, 38] a0 P P174) → (MW P174 a0) → (0 ≤ a1.toInt ∧ a1.toInt ≤ 3) → (0 ≤ v174_4.toInt ∧ v174_4.toInt ≤ 1) → (0 ≤ v99_6.toInt ∧ v99_6.toInt ≤ 2147483646) → (0 ≤ v174_s0.toInt ∧ v174_s0.toInt ≤ 1) → (0 ≤ (pI P174 a0 0).toInt ∧ (pI P174 a0 0).toInt ≤ 0) → (∀ b, pR P174 a0 10 = some b → 1 ≤ (pI P174 b 0).toInt ∧ (pI P174 b 0).toInt ≤ 16) → (∀ b, pR P174 a0 10 = some b → 1 ≤ (pI P174 b 1).toInt ∧ (pI P174 b 1).toInt ≤ 16) → (∀ b, pR P174 a0 20 = some b → 1 ≤ (pI P174 b (a1.toInt.toNat)).toInt ∧ (pI P174 b (a1.toInt.toNat)).toInt ≤ 40) → G E ({ frames := 8, cells := 0, slots := 0, locals := 512 } : Room) D cy 7 P174 0 0 174 [(0, .ref a0), (1, .int a1), (3, .int v99_3), (4, .int v174_4), (6, .int v99_6)] [.int v174_s0] := by
        intro P174 v174_4 v174_s0 I174 X174 W174 hv174_1 hv174_4 hv174_6 hv174_s0 hq174_0 hq174_1 hq174_2 hq174_3
        have h5897 := X174.at ha0
        obtain ⟨b5898, e5899, h5900⟩ := I174.fld (h5897) 10 13 2 rfl
        have hq174_1 := hq174_1 b5898 e5899
        have hq174_2 := hq174_2 b5898 e5899
        obtain ⟨b5901, e5902, h5903⟩ := I174.fld (h5897) 20 13 20 rfl
        have hq174_3 := hq174_3 b5901 e5902
        refine g_istore (lv' := [(5, .int v174_s0), (0, .ref a0), (1, .int a1), (3, .int v99_3), (4, .int v174_4), (6, .int v99_6)]) C dX12_apart_174 (by decide) rfl ?_
        refine g_lv (lv' := [(0, .ref a0), (1, .int a1), (3, .int v99_3), (4, .int v174_4), (5, .int v174_s0), (6, .int v99_6)]) [1, 2, 3, 4, 0, 5] rfl ?_
        exact J176 P174 v174_4 v174_s0 I174 X174 W174 (by omega) (by omega) (by omega) (by omega) (by omega) (fun b9 e9 => by rw [e5899] at e9; cases e9; omega) (fun b9 e9 => by rw [e5899] at e9; cases e9; omega) (fun b9 e9 => by rw [e5902] at e9; cases e9; omega)
      have J169 : ∀ (P169 : PP) (v169_4 : Int32), (IM P169 a0) → (EM [0, 28, 29, 30, 31, 32, 35, 36, 37, 38] a0 P P169) → (MW P169 a0) → (0 ≤ a1.toInt ∧ a1.toInt ≤ 3) → (0 ≤ v169_4.toInt ∧ v169_4.toInt ≤ 1) → (0 ≤ v99_6.toInt ∧ v99_6.toInt ≤ 2147483646) → (0 ≤ (pI P169 a0 0).toInt ∧ (pI P169 a0 0).toInt ≤ 0) → (∀ b, pR P169 a0 10 = some b → 1 ≤ (pI P169 b 0).toInt ∧ (pI P169 b 0).toInt ≤ 16) → (∀ b, pR P169 a0 10 = some b → 1 ≤ (pI P169 b 1).toInt ∧ (pI P169 b 1).toInt ≤ 16) → (∀ b, pR P169 a0 20 = some b → 1 ≤ (pI P169 b (a1.toInt.toNat)).toInt ∧ (pI P169 b (a1.toInt.toNat)).toInt ≤ 40) → G E ({ frames := 8, cells := 0, slots := 0, locals := 512 } : Room) D cy 7 P169 0 0 169 [(0, .ref a0), (1, .int a1), (3, .int v99_3), (4, .int v169_4), (6, .int v99_6)] [] := by
        intro P169 v169_4 I169 X169 W169 hv169_1 hv169_4 hv169_6 hq169_0 hq169_1 hq169_2 hq169_3
        have h5904 := X169.at ha0
        obtain ⟨b5905, e5906, h5907⟩ := I169.fld (h5904) 10 13 2 rfl
        have hq169_1 := hq169_1 b5905 e5906
        have hq169_2 := hq169_2 b5905 e5906
        obtain ⟨b5908, e5909, h5910⟩ := I169.fld (h5904) 20 13 20 rfl
        have hq169_3 := hq169_3 b5908 e5909
        refine g_iconst (v := 1) C dX12_apart_169 (by decide) ?_
        refine g_goto C 174 dX12_apart_170 (by decide) ?_
        exact J174 P169 v169_4 1 I169 X169 W169 (by omega) (by omega) (by omega) (by decide) (by omega) (fun b9 e9 => by rw [e5906] at e9; cases e9; omega) (fun b9 e9 => by rw [e5906] at e9; cases e9; omega) (fun b9 e9 => by rw [e5909] at e9; cases e9; omega)
      have J152 : ∀ (P152 : PP) (v152_s0 : Int32), (IM P152 a0) → (EM [0, 28, 29, 30, 31, 32, 35, 36, 37, 38] a0 P P152) → (MW P152 a0) → (0 ≤ a1.toInt ∧ a1.toInt ≤ 3) → (0 ≤ v99_6.toInt ∧ v99_6.toInt ≤ 2147483646) → (0 ≤ v152_s0.toInt ∧ v152_s0.toInt ≤ 1) → (0 ≤ (pI P152 a0 0).toInt ∧ (pI P152 a0 0).toInt ≤ 0) → (∀ b, pR P152 a0 10 = some b → 1 ≤ (pI P152 b 0).toInt ∧ (pI P152 b 0).toInt ≤ 16) → (∀ b, pR P152 a0 10 = some b → 1 ≤ (pI P152 b 1).toInt ∧ (pI P152 b 1).toInt ≤ 16) → (∀ b, pR P152 a0 20 = some b → 1 ≤ (pI P152 b (a1.toInt.toNat)).toInt ∧ (pI P152 b (a1.toInt.toNat)).toInt ≤ 40) → G E ({ frames := 8, cells := 0, slots := 0, locals := 512 } : Room) D cy 7 P152 0 0 152 [(0, .ref a0), (1, .int a1), (3, .int v99_3), (5, .int v99_5), (6, .int v99_6)] [.int v152_s0] := by
        intro P152 v152_s0 I152 X152 W152 hv152_1 hv152_6 hv152_s0 hq152_0 hq152_1 hq152_2 hq152_3
        have h5911 := X152.at ha0
        obtain ⟨b5912, e5913, h5914⟩ := I152.fld (h5911) 10 13 2 rfl
        have hq152_1 := hq152_1 b5912 e5913
        have hq152_2 := hq152_2 b5912 e5913
        obtain ⟨b5915, e5916, h5917⟩ := I152.fld (h5911) 20 13 20 rfl
        have hq152_3 := hq152_3 b5915 e5916
        refine g_istore (lv' := [(4, .int v152_s0), (0, .ref a0), (1, .int a1), (3, .int v99_3), (5, .int v99_5), (6, .int v99_6)]) C dX12_apart_152 (by decide) rfl ?_
        refine g_iload C dX12_apart_154 4 rfl ?_
        refine b_if_ne C 169 dX12_apart_156 (by decide) (fun h5918 => ?_) (fun h5918 => ?_)
        · have h5918 : v99_5.toInt ≠ 0 := ti_ne h5918
          refine g_lv (lv' := [(0, .ref a0), (1, .int a1), (3, .int v99_3), (4, .int v152_s0), (6, .int v99_6)]) [1, 2, 3, 0, 5] rfl ?_
          exact J169 P152 v152_s0 I152 X152 W152 (by omega) (by omega) (by omega) (by omega) (fun b9 e9 => by rw [e5913] at e9; cases e9; omega) (fun b9 e9 => by rw [e5913] at e9; cases e9; omega) (fun b9 e9 => by rw [e5916] at e9; cases e9; omega)
        · have h5918 : v99_5.toInt = 0 := congrArg Int32.toInt h5918
          refine g_iload C dX12_apart_159 5 rfl ?_
          refine g_iload_n C dX12_apart_161 rfl 3 rfl ?_
          refine a_ishr C dX12_apart_162 (fun z5919 => ?_)
          refine g_iconst (v := 1) C dX12_apart_163 (by decide) ?_
          refine s_iand C dX12_apart_164 (by show 0 ≤ 1; omega) (fun z5921 h5922 => ?_)
          have h5922 : 0 ≤ z5921.toInt ∧ z5921.toInt ≤ 1 := h5922
          refine g_iconst (v := 1) C dX12_apart_165 (by decide) ?_
          refine b_icmp_ne C 173 dX12_apart_166 (by decide) (fun h5923 => ?_) (fun h5923 => ?_)
          · have h5923 : z5921.toInt ≠ 1 := ti_ne h5923
            refine g_iconst (v := 0) C dX12_apart_173 (by decide) ?_
            refine g_lv (lv' := [(0, .ref a0), (1, .int a1), (3, .int v99_3), (4, .int v152_s0), (6, .int v99_6)]) [1, 2, 3, 0, 5] rfl ?_
            exact J174 P152 v152_s0 0 I152 X152 W152 (by omega) (by omega) (by omega) (by decide) (by omega) (fun b9 e9 => by rw [e5913] at e9; cases e9; omega) (fun b9 e9 => by rw [e5913] at e9; cases e9; omega) (fun b9 e9 => by rw [e5916] at e9; cases e9; omega)
          · have h5923 : z5921.toInt = 1 := congrArg Int32.toInt h5923
            refine g_lv (lv' := [(0, .ref a0), (1, .int a1), (3, .int v99_3), (4, .int v152_s0), (6, .int v99_6)]) [1, 2, 3, 0, 5] rfl ?_
            exact J169 P152 v152_s0 I152 X152 W152 (by omega) (by omega) (by omega) (by omega) (fun b9 e9 => by rw [e5913] at e9; cases e9; omega) (fun b9 e9 => by rw [e5913] at e9; cases e9; omega) (fun b9 e9 => by rw [e5916] at e9; cases e9; omega)
      have J147 : ∀ (P147 : PP), (IM P147 a0) → (EM [0, 28, 29, 30, 31, 32, 35, 36, 37, 38] a0 P P147) → (MW P147 a0) → (0 ≤ a1.toInt ∧ a1.toInt ≤ 3) → (0 ≤ v99_6.toInt ∧ v99_6.toInt ≤ 2147483646) → (0 ≤ (pI P147 a0 0).toInt ∧ (pI P147 a0 0).toInt ≤ 0) → (∀ b, pR P147 a0 10 = some b → 1 ≤ (pI P147 b 0).toInt ∧ (pI P147 b 0).toInt ≤ 16) → (∀ b, pR P147 a0 10 = some b → 1 ≤ (pI P147 b 1).toInt ∧ (pI P147 b 1).toInt ≤ 16) → (∀ b, pR P147 a0 20 = some b → 1 ≤ (pI P147 b (a1.toInt.toNat)).toInt ∧ (pI P147 b (a1.toInt.toNat)).toInt ≤ 40) → G E ({ frames := 8, cells := 0, slots := 0, locals := 512 } : Room) D cy 7 P147 0 0 147 [(0, .ref a0), (1, .int a1), (3, .int v99_3), (5, .int v99_5), (6, .int v99_6)] [] := by
        intro P147 I147 X147 W147 hv147_1 hv147_6 hq147_0 hq147_1 hq147_2 hq147_3
        have h5924 := X147.at ha0
        obtain ⟨b5925, e5926, h5927⟩ := I147.fld (h5924) 10 13 2 rfl
        have hq147_1 := hq147_1 b5925 e5926
        have hq147_2 := hq147_2 b5925 e5926
        obtain ⟨b5928, e5929, h5930⟩ := I147.fld (h5924) 20 13 20 rfl
        have hq147_3 := hq147_3 b5928 e5929
        refine g_iconst (v := 1) C dX12_apart_147 (by decide) ?_
        refine g_goto C 152 dX12_apart_148 (by decide) ?_
        exact J152 P147 1 I147 X147 W147 (by omega) (by omega) (by decide) (by omega) (fun b9 e9 => by rw [e5926] at e9; cases e9; omega) (fun b9 e9 => by rw [e5926] at e9; cases e9; omega) (fun b9 e9 => by rw [e5929] at e9; cases e9; omega)
      refine g_iload C dX12_apart_99 5 rfl ?_
      refine g_iconst (v := 1) C dX12_apart_101 (by decide) ?_
      refine g_aload_n C dX12_apart_102 rfl 0 rfl ?_
      refine g_iload_n C dX12_apart_103 rfl 1 rfl ?_
      refine g_callVI (rest := [.int 1, .int v99_6]) C mv_X12_295 [.int a1] (s_X12_namelessIn I99 (by omega) W99) (h5881).1 (h5881).2 rfl rfl (by decide) (Nat.le_of_ble_eq_true rfl) (by decide) dX12_apart_104 (fun r5931 Y5932 h5933 => ?_)
      obtain ⟨rfl, h5933⟩ := h5933
      have h5933 : True := h5933
      refine a_ishl C dX12_apart_107 (fun z5934 => ?_)
      have u5937 := ti_rng v99_6
      have u5938 := ti_rng z5934
      refine b_icmp_ge C 182 dX12_apart_108 (by decide) (fun h5936 => ?_) (fun h5936 => ?_)
      · have h5936 : z5934.toInt ≤ v99_6.toInt := h5936
        refine g_iload C dX12_apart_182 3 rfl ?_
        refine b_if_eq C 196 dX12_apart_184 (by decide) (fun h5939 => ?_) (fun h5939 => ?_)
        · have h5939 : v99_4.toInt = 0 := congrArg Int32.toInt h5939
          refine g_lv (lv' := [(4, .int v99_4), (5, .int v99_5)]) [3, 4] rfl ?_
          exact J196 P99 v99_4 v99_5 I99 X99 W99 (by omega) (by omega) (by omega) (fun b9 e9 => by rw [e5883] at e9; cases e9; omega) (fun b9 e9 => by rw [e5883] at e9; cases e9; omega) (fun b9 e9 => by rw [e5886] at e9; cases e9; omega)
        · have h5939 : v99_4.toInt ≠ 0 := ti_ne h5939
          refine g_iload C dX12_apart_187 4 rfl ?_
          refine b_if_eq C 196 dX12_apart_189 (by decide) (fun h5940 => ?_) (fun h5940 => ?_)
          · have h5940 : v99_5.toInt = 0 := congrArg Int32.toInt h5940
            refine g_lv (lv' := [(4, .int v99_4), (5, .int v99_5)]) [3, 4] rfl ?_
            exact J196 P99 v99_4 v99_5 I99 X99 W99 (by omega) (by omega) (by omega) (fun b9 e9 => by rw [e5883] at e9; cases e9; omega) (fun b9 e9 => by rw [e5883] at e9; cases e9; omega) (fun b9 e9 => by rw [e5886] at e9; cases e9; omega)
          · have h5940 : v99_5.toInt ≠ 0 := ti_ne h5940
            refine g_iconst (v := 2) C dX12_apart_192 (by decide) ?_
            refine g_goto C 215 dX12_apart_193 (by decide) ?_
            exact ret _ _ _ _ _ _ dX12_apart_215 rfl (by decide) (by decide) ⟨I99, X99, W99, (by decide)⟩
      · have h5936 : v99_6.toInt < z5934.toInt := h5936
        refine g_aload_n C dX12_apart_111 rfl 0 rfl ?_
        refine g_iload_n C dX12_apart_112 rfl 1 rfl ?_
        refine g_iconst (v := 0) C dX12_apart_113 (by decide) ?_
        refine g_iload C dX12_apart_114 5 rfl ?_
        refine g_callVI (rest := []) C mv_X12_396 [.int a1, .int 0, .int v99_6] (s_X12_agreesBy I99 (by omega) (by decide) (fun b9 e9 => by rw [e5883] at e9; cases e9; show 1 ≤ (pI P99 b5882 0).toInt ∧ (pI P99 b5882 0).toInt ≤ 16; omega) W99) (h5881).1 (h5881).2 rfl rfl (by decide) (Nat.le_of_ble_eq_true rfl) (by decide) dX12_apart_116 (fun r5941 Y5942 h5943 => ?_)
        obtain ⟨Iy5944, Xy5945, W5946, h5943⟩ := h5943
        have q5947 := Xy5945.keepF 0 (by decide)
        have q5948 := Xy5945.keepA e5883 (by decide) rfl 0
        have q5949 := Xy5945.keepA e5883 (by decide) rfl 1
        have q5950 := Xy5945.keepA e5886 (by decide) rfl (a1.toInt.toNat)
        have Xz5951 : EM [0, 28, 29, 30, 31, 32, 35, 36, 37, 38] a0 P Y5942 := EM.tr ha0 X99 (Xy5945.mono (by decide))
        have e5952 := Xy5945.ref h5881 (by decide) e5883
        have e5953 := Xy5945.ref h5881 (by decide) e5886
        have h5954 := Xy5945.at h5881
        have h5955 := Xy5945.ar h5884
        have h5956 := Xy5945.ar h5887
        have h5943 : 0 ≤ r5941.toInt ∧ r5941.toInt ≤ 1 := h5943
        refine b_if_eq C 176 dX12_apart_119 (by decide) (fun h5957 => ?_) (fun h5957 => ?_)
        · have h5957 : r5941.toInt = 0 := congrArg Int32.toInt h5957
          exact J176 Y5942 v99_4 v99_5 Iy5944 Xz5951 W5946 (by omega) (by omega) (by omega) (by omega) (by omega) (fun b9 e9 => by rw [e5952] at e9; cases e9; omega) (fun b9 e9 => by rw [e5952] at e9; cases e9; omega) (fun b9 e9 => by rw [e5953] at e9; cases e9; omega)
        · have h5957 : r5941.toInt ≠ 0 := ti_ne h5957
          refine g_aload_n C dX12_apart_122 rfl 0 rfl ?_
          refine g_iload_n C dX12_apart_123 rfl 1 rfl ?_
          refine g_iconst (v := 1) C dX12_apart_124 (by decide) ?_
          refine g_iload C dX12_apart_125 5 rfl ?_
          refine g_callVI (rest := []) C mv_X12_396 [.int a1, .int 1, .int v99_6] (s_X12_agreesBy Iy5944 (by omega) (by decide) (fun b9 e9 => by rw [e5952] at e9; cases e9; show 1 ≤ (pI Y5942 b5882 1).toInt ∧ (pI Y5942 b5882 1).toInt ≤ 16; omega) W5946) (h5954).1 (h5954).2 rfl rfl (by decide) (Nat.le_of_ble_eq_true rfl) (by decide) dX12_apart_127 (fun r5958 Y5959 h5960 => ?_)
          obtain ⟨Iy5961, Xy5962, W5963, h5960⟩ := h5960
          have q5964 := Xy5962.keepF 0 (by decide)
          have q5965 := Xy5962.keepA e5952 (by decide) rfl 0
          have q5966 := Xy5962.keepA e5952 (by decide) rfl 1
          have q5967 := Xy5962.keepA e5953 (by decide) rfl (a1.toInt.toNat)
          have Xz5968 : EM [0, 28, 29, 30, 31, 32, 35, 36, 37, 38] a0 P Y5959 := EM.tr ha0 Xz5951 (Xy5962.mono (by decide))
          have e5969 := Xy5962.ref h5954 (by decide) e5952
          have e5970 := Xy5962.ref h5954 (by decide) e5953
          have h5971 := Xy5962.at h5954
          have h5972 := Xy5962.ar h5955
          have h5973 := Xy5962.ar h5956
          have h5960 : 0 ≤ r5958.toInt ∧ r5958.toInt ≤ 1 := h5960
          refine b_if_eq C 176 dX12_apart_130 (by decide) (fun h5974 => ?_) (fun h5974 => ?_)
          · have h5974 : r5958.toInt = 0 := congrArg Int32.toInt h5974
            exact J176 Y5959 v99_4 v99_5 Iy5961 Xz5968 W5963 (by omega) (by omega) (by omega) (by omega) (by omega) (fun b9 e9 => by rw [e5969] at e9; cases e9; omega) (fun b9 e9 => by rw [e5969] at e9; cases e9; omega) (fun b9 e9 => by rw [e5970] at e9; cases e9; omega)
          · have h5974 : r5958.toInt ≠ 0 := ti_ne h5974
            refine g_iload C dX12_apart_133 3 rfl ?_
            refine b_if_ne C 147 dX12_apart_135 (by decide) (fun h5975 => ?_) (fun h5975 => ?_)
            · have h5975 : v99_4.toInt ≠ 0 := ti_ne h5975
              refine g_lv (lv' := [(0, .ref a0), (1, .int a1), (3, .int v99_3), (5, .int v99_5), (6, .int v99_6)]) [0, 1, 2, 4, 5] rfl ?_
              exact J147 Y5959 Iy5961 Xz5968 W5963 (by omega) (by omega) (by omega) (fun b9 e9 => by rw [e5969] at e9; cases e9; omega) (fun b9 e9 => by rw [e5969] at e9; cases e9; omega) (fun b9 e9 => by rw [e5970] at e9; cases e9; omega)
            · have h5975 : v99_4.toInt = 0 := congrArg Int32.toInt h5975
              refine g_iload C dX12_apart_138 5 rfl ?_
              refine g_iload_n C dX12_apart_140 rfl 2 rfl ?_
              refine a_ishr C dX12_apart_141 (fun z5976 => ?_)
              refine g_iconst (v := 1) C dX12_apart_142 (by decide) ?_
              refine s_iand C dX12_apart_143 (by show 0 ≤ 1; omega) (fun z5978 h5979 => ?_)
              have h5979 : 0 ≤ z5978.toInt ∧ z5978.toInt ≤ 1 := h5979
              refine b_if_ne C 151 dX12_apart_144 (by decide) (fun h5980 => ?_) (fun h5980 => ?_)
              · have h5980 : z5978.toInt ≠ 0 := ti_ne h5980
                refine g_iconst (v := 0) C dX12_apart_151 (by decide) ?_
                refine g_lv (lv' := [(0, .ref a0), (1, .int a1), (3, .int v99_3), (5, .int v99_5), (6, .int v99_6)]) [0, 1, 2, 4, 5] rfl ?_
                exact J152 Y5959 0 Iy5961 Xz5968 W5963 (by omega) (by omega) (by decide) (by omega) (fun b9 e9 => by rw [e5969] at e9; cases e9; omega) (fun b9 e9 => by rw [e5969] at e9; cases e9; omega) (fun b9 e9 => by rw [e5970] at e9; cases e9; omega)
              · have h5980 : z5978.toInt = 0 := congrArg Int32.toInt h5980
                refine g_lv (lv' := [(0, .ref a0), (1, .int a1), (3, .int v99_3), (5, .int v99_5), (6, .int v99_6)]) [0, 1, 2, 4, 5] rfl ?_
                exact J147 Y5959 Iy5961 Xz5968 W5963 (by omega) (by omega) (by omega) (fun b9 e9 => by rw [e5969] at e9; cases e9; omega) (fun b9 e9 => by rw [e5969] at e9; cases e9; omega) (fun b9 e9 => by rw [e5970] at e9; cases e9; omega)
  have J55 : ∀ (n55 : Nat) (P55 : PP) (v55_3 : Int32) (v55_4 : Int32), (40 - v55_4.toInt).toNat < n55 → (IM P55 a0) → (EM [0, 28, 29, 30, 31, 32, 35, 36, 37, 38] a0 P P55) → (MW P55 a0) → (0 ≤ a1.toInt ∧ a1.toInt ≤ 3) → (0 ≤ a2.toInt ∧ a2.toInt ≤ 39) → (0 ≤ v55_4.toInt ∧ v55_4.toInt ≤ 40) → (0 ≤ (pI P55 a0 0).toInt ∧ (pI P55 a0 0).toInt ≤ 0) → (∀ b, pR P55 a0 10 = some b → 1 ≤ (pI P55 b 0).toInt ∧ (pI P55 b 0).toInt ≤ 16) → (∀ b, pR P55 a0 10 = some b → 1 ≤ (pI P55 b 1).toInt ∧ (pI P55 b 1).toInt ≤ 16) → (∀ b, pR P55 a0 20 = some b → 1 ≤ (pI P55 b (a1.toInt.toNat)).toInt ∧ (pI P55 b (a1.toInt.toNat)).toInt ≤ 40) → G E ({ frames := 8, cells := 0, slots := 0, locals := 512 } : Room) D cy 7 P55 0 0 55 [(0, .ref a0), (1, .int a1), (2, .int a2), (3, .int v55_3), (4, .int v55_4)] [] := by
    intro n55
    induction n55 with
    | zero => intro P55 v55_3 v55_4 hm55 I55 X55 W55 hv55_1 hv55_2 hv55_4 hq55_0 hq55_1 hq55_2 hq55_3; omega
    | succ n55 ih55 =>
      intro P55 v55_3 v55_4 hm55 I55 X55 W55 hv55_1 hv55_2 hv55_4 hq55_0 hq55_1 hq55_2 hq55_3
      have h5981 := X55.at ha0
      obtain ⟨b5982, e5983, h5984⟩ := I55.fld (h5981) 10 13 2 rfl
      have hq55_1 := hq55_1 b5982 e5983
      have hq55_2 := hq55_2 b5982 e5983
      obtain ⟨b5985, e5986, h5987⟩ := I55.fld (h5981) 20 13 20 rfl
      have hq55_3 := hq55_3 b5985 e5986
      have J82 : ∀ (v82_s0 : Int32), (0 ≤ a1.toInt ∧ a1.toInt ≤ 3) → (1 ≤ a2.toInt ∧ a2.toInt ≤ 39) → (0 ≤ v55_4.toInt ∧ v55_4.toInt ≤ 38) → (0 ≤ v82_s0.toInt ∧ v82_s0.toInt ≤ 1) → (0 ≤ (pI P55 a0 0).toInt ∧ (pI P55 a0 0).toInt ≤ 0) → (∀ b, pR P55 a0 10 = some b → 1 ≤ (pI P55 b 0).toInt ∧ (pI P55 b 0).toInt ≤ 16) → (∀ b, pR P55 a0 10 = some b → 1 ≤ (pI P55 b 1).toInt ∧ (pI P55 b 1).toInt ≤ 16) → (∀ b, pR P55 a0 20 = some b → 1 ≤ (pI P55 b (a1.toInt.toNat)).toInt ∧ (pI P55 b (a1.toInt.toNat)).toInt ≤ 40) → G E ({ frames := 8, cells := 0, slots := 0, locals := 512 } : Room) D cy 7 P55 0 0 82 [(0, .ref a0), (1, .int a1), (2, .int a2), (4, .int v55_4)] [.int v82_s0, .int v55_3] := by
        intro v82_s0 hv82_1 hv82_2 hv82_4 hv82_s0 hq82_0 hq82_1 hq82_2 hq82_3
        have h5988 := X55.at ha0
        obtain ⟨b5989, e5990, h5991⟩ := I55.fld (h5988) 10 13 2 rfl
        have hq82_1 := hq82_1 b5989 e5990
        have hq82_2 := hq82_2 b5989 e5990
        obtain ⟨b5992, e5993, h5994⟩ := I55.fld (h5988) 20 13 20 rfl
        have hq82_3 := hq82_3 b5992 e5993
        refine a_iadd C dX12_apart_82 (fun z5995 => ?_)
        refine g_istore_n (lv' := [(3, .int z5995), (0, .ref a0), (1, .int a1), (2, .int a2), (4, .int v55_4)]) C dX12_apart_83 rfl (by decide) rfl ?_
        refine s_iinc (lv0 := [(3, .int z5995), (0, .ref a0), (1, .int a1), (2, .int a2)]) (m := 1) C dX12_apart_84 4 rfl (by decide) rfl (by decide) (by omega) (fun z5997 h5998 => ?_)
        have h5998 : z5997.toInt = v55_4.toInt + 1 := h5998
        refine g_goto C 55 dX12_apart_87 (by decide) ?_
        refine g_lv (lv' := [(0, .ref a0), (1, .int a1), (2, .int a2), (3, .int z5995), (4, .int z5997)]) [2, 3, 4, 1, 0] rfl ?_
        exact ih55 P55 z5995 z5997 (by omega) I55 X55 W55 (by omega) (by omega) (by omega) (by omega) (fun b9 e9 => by rw [e5990] at e9; cases e9; omega) (fun b9 e9 => by rw [e5990] at e9; cases e9; omega) (fun b9 e9 => by rw [e5993] at e9; cases e9; omega)
      refine g_iload C dX12_apart_55 4 rfl ?_
      refine g_iload_n C dX12_apart_57 rfl 2 rfl ?_
      refine b_icmp_ge C 90 dX12_apart_58 (by decide) (fun h5999 => ?_) (fun h5999 => ?_)
      · have h5999 : a2.toInt ≤ v55_4.toInt := h5999
        refine g_iconst (v := 0) C dX12_apart_90 (by decide) ?_
        refine g_istore (lv' := [(4, .int 0), (0, .ref a0), (1, .int a1), (2, .int a2), (3, .int v55_3)]) C dX12_apart_91 (by decide) rfl ?_
        refine g_iconst (v := 0) C dX12_apart_93 (by decide) ?_
        refine g_istore (lv' := [(5, .int 0), (4, .int 0), (0, .ref a0), (1, .int a1), (2, .int a2), (3, .int v55_3)]) C dX12_apart_94 (by decide) rfl ?_
        refine g_iconst (v := 0) C dX12_apart_96 (by decide) ?_
        refine g_istore (lv' := [(6, .int 0), (5, .int 0), (4, .int 0), (0, .ref a0), (1, .int a1), (2, .int a2), (3, .int v55_3)]) C dX12_apart_97 (by decide) rfl ?_
        refine g_lv (lv' := [(0, .ref a0), (1, .int a1), (3, .int v55_3), (4, .int 0), (5, .int 0), (6, .int 0)]) [3, 4, 6, 2, 1, 0] rfl ?_
        exact J99 _ P55 v55_3 0 0 0 (Nat.lt_succ_self _) I55 X55 W55 (by omega) (by decide) (by decide) (by decide) (by omega) (fun b9 e9 => by rw [e5983] at e9; cases e9; omega) (fun b9 e9 => by rw [e5983] at e9; cases e9; omega) (fun b9 e9 => by rw [e5986] at e9; cases e9; omega)
      · have h5999 : v55_4.toInt < a2.toInt := h5999
        refine g_iload_n C dX12_apart_61 rfl 3 rfl ?_
        refine g_aload_n C dX12_apart_62 rfl 0 rfl ?_
        obtain ⟨b6000, e6001, h6002⟩ := I55.fld (h5981) 22 13 800 rfl
        refine g_getR C fi_X12_75 rfl e6001 (h5981).1 (h5981).2 dX12_apart_63 ?_
        refine g_bipush (v := 40) C dX12_apart_66 (by decide) ?_
        refine g_iload_n C dX12_apart_68 rfl 1 rfl ?_
        refine s_imul C dX12_apart_69 (by show -2147483648 ≤ 40 * a1.toInt ∧ 40 * a1.toInt ≤ 2147483647; omega) (fun z6003 h6004 => ?_)
        have h6004 : z6003.toInt = 40 * a1.toInt := h6004
        refine g_iload C dX12_apart_70 4 rfl ?_
        refine s_iadd C dX12_apart_72 (by show -2147483648 ≤ z6003.toInt + v55_4.toInt ∧ z6003.toInt + v55_4.toInt ≤ 2147483647; omega) (fun z6005 h6006 => ?_)
        have h6006 : z6005.toInt = z6003.toInt + v55_4.toInt := h6006
        refine g_iald (j := (z6005.toInt.toNat)) C h6002.1 h6002.2.1 (ix_in h6002.2.2 (by omega)) dX12_apart_73 ?_
        have h6007 := I55.arr e6001 rfl (z6005.toInt.toNat)
        refine b_if_ge C 81 dX12_apart_74 (by decide) (fun h6008 => ?_) (fun h6008 => ?_)
        · have h6008 : 0 ≤ (pI P55 b6000 (z6005.toInt.toNat)).toInt := h6008
          refine g_iconst (v := 0) C dX12_apart_81 (by decide) ?_
          refine g_lv (lv' := [(0, .ref a0), (1, .int a1), (2, .int a2), (4, .int v55_4)]) [0, 1, 2, 4] rfl ?_
          exact J82 0 (by omega) (by omega) (by omega) (by decide) (by omega) (fun b9 e9 => by rw [e5983] at e9; cases e9; omega) (fun b9 e9 => by rw [e5983] at e9; cases e9; omega) (fun b9 e9 => by rw [e5986] at e9; cases e9; omega)
        · have h6008 : (pI P55 b6000 (z6005.toInt.toNat)).toInt < 0 := h6008
          refine g_iconst (v := 1) C dX12_apart_77 (by decide) ?_
          refine g_goto C 82 dX12_apart_78 (by decide) ?_
          refine g_lv (lv' := [(0, .ref a0), (1, .int a1), (2, .int a2), (4, .int v55_4)]) [0, 1, 2, 4] rfl ?_
          exact J82 1 (by omega) (by omega) (by omega) (by decide) (by omega) (fun b9 e9 => by rw [e5983] at e9; cases e9; omega) (fun b9 e9 => by rw [e5983] at e9; cases e9; omega) (fun b9 e9 => by rw [e5986] at e9; cases e9; omega)
  have J44 : ∀ (P44 : PP), (IM P44 a0) → (EM [0, 28, 29, 30, 31, 32, 35, 36, 37, 38] a0 P P44) → (MW P44 a0) → (0 ≤ (pI P44 a0 0).toInt ∧ (pI P44 a0 0).toInt ≤ 0) → G E ({ frames := 8, cells := 0, slots := 0, locals := 512 } : Room) D cy 7 P44 0 0 44 [] [] := by
    intro P44 I44 X44 W44 hq44_0
    have h6009 := X44.at ha0
    refine g_iconst (v := (-1)) C dX12_apart_44 (by decide) ?_
    exact ret _ _ _ _ _ _ dX12_apart_45 rfl (by decide) (by decide) ⟨I44, X44, W44, (by decide)⟩
  refine g_aload_n C dX12_apart_0 rfl 0 rfl ?_
  refine g_iconst (v := 0) C dX12_apart_1 (by decide) ?_
  refine g_putI C fi_X12_1 rfl (ha0).1 (ha0).2 dX12_apart_2 ?_
  refine gqW (ks := [0]) (I.setI (rgOk.of rfl (by decide))) (EM.setI I (by decide)) (fun Y6010 Iy6011 Xy6012 w6013 => ?_)
  have w6013 : (pI Y6010 a0 0).toInt = 0 := w6013
  have W6014 := hW.keep I Xy6012 (by decide) (by decide) (by decide)
  have Xz6015 : EM [0, 28, 29, 30, 31, 32, 35, 36, 37, 38] a0 P Y6010 := Xy6012.mono (by decide)
  have h6016 := Xy6012.at ha0
  refine g_aload_n C dX12_apart_5 rfl 0 rfl ?_
  refine g_iload_n C dX12_apart_6 rfl 1 rfl ?_
  refine g_iload_n C dX12_apart_7 rfl 2 rfl ?_
  refine g_callVI (rest := []) C mv_X12_298 [.int a1, .int a2] (s_X12_isPaper Iy6011 W6014) (h6016).1 (h6016).2 rfl rfl (by decide) (Nat.le_of_ble_eq_true rfl) (by decide) dX12_apart_8 (fun r6017 Y6018 h6019 => ?_)
  obtain ⟨rfl, h6019⟩ := h6019
  obtain ⟨h6019, hi6020, hi6021⟩ := h6019
  have hi6020 : r6017.toInt = 0 ∨ (((0 : Int) ≤ a1.toInt ∧ a1.toInt ≤ (3 : Int)) ∧ ((0 : Int) ≤ a2.toInt ∧ a2.toInt ≤ (39 : Int))) := hi6020
  have h6019 : 0 ≤ r6017.toInt ∧ r6017.toInt ≤ 1 := h6019
  refine b_if_eq C 44 dX12_apart_11 (by decide) (fun h6022 => ?_) (fun h6022 => ?_)
  · have h6022 : r6017.toInt = 0 := congrArg Int32.toInt h6022
    clear hi6020
    refine g_lv (lv' := []) [] rfl ?_
    exact J44 Y6010 Iy6011 Xz6015 W6014 (by omega)
  · have h6022 : r6017.toInt ≠ 0 := ti_ne h6022
    replace hi6020 := hi6020.resolve_left (by omega)
    obtain ⟨b6023, e6024, h6025⟩ := Iy6011.fld (h6016) 20 13 20 rfl
    have hi6021 := (hi6021.resolve_left (by omega)) b6023 e6024
    have hi6021 : a2.toInt < (pI Y6010 b6023 (a1.toInt.toNat)).toInt ∧ 0 ≤ a2.toInt := hi6021
    have h6026 := Iy6011.arr e6024 rfl (a1.toInt.toNat)
    refine g_aload_n C dX12_apart_14 rfl 0 rfl ?_
    obtain ⟨b6027, e6028, h6029⟩ := Iy6011.fld (h6016) 22 13 800 rfl
    refine g_getR C fi_X12_75 rfl e6028 (h6016).1 (h6016).2 dX12_apart_15 ?_
    refine g_bipush (v := 40) C dX12_apart_18 (by decide) ?_
    refine g_iload_n C dX12_apart_20 rfl 1 rfl ?_
    refine s_imul C dX12_apart_21 (by show -2147483648 ≤ 40 * a1.toInt ∧ 40 * a1.toInt ≤ 2147483647; omega) (fun z6030 h6031 => ?_)
    have h6031 : z6030.toInt = 40 * a1.toInt := h6031
    refine g_iload_n C dX12_apart_22 rfl 2 rfl ?_
    refine s_iadd C dX12_apart_23 (by show -2147483648 ≤ z6030.toInt + a2.toInt ∧ z6030.toInt + a2.toInt ≤ 2147483647; omega) (fun z6032 h6033 => ?_)
    have h6033 : z6032.toInt = z6030.toInt + a2.toInt := h6033
    refine g_iald (j := (z6032.toInt.toNat)) C h6029.1 h6029.2.1 (ix_in h6029.2.2 (by omega)) dX12_apart_24 ?_
    have h6034 := Iy6011.arr e6028 rfl (z6032.toInt.toNat)
    refine b_if_ge C 44 dX12_apart_25 (by decide) (fun h6035 => ?_) (fun h6035 => ?_)
    · have h6035 : 0 ≤ (pI Y6010 b6027 (z6032.toInt.toNat)).toInt := h6035
      refine g_lv (lv' := []) [] rfl ?_
      exact J44 Y6010 Iy6011 Xz6015 W6014 (by omega)
    · have h6035 : (pI Y6010 b6027 (z6032.toInt.toNat)).toInt < 0 := h6035
      refine g_aload_n C dX12_apart_28 rfl 0 rfl ?_
      refine g_iconst (v := 0) C dX12_apart_29 (by decide) ?_
      refine g_callVI (rest := []) C mv_X12_192 [.int 0] (s_X12_isBook Iy6011 W6014) (h6016).1 (h6016).2 rfl rfl (by decide) (Nat.le_of_ble_eq_true rfl) (by decide) dX12_apart_30 (fun r6036 Y6037 h6038 => ?_)
      obtain ⟨rfl, h6038⟩ := h6038
      obtain ⟨h6038, hi6039, hi6040⟩ := h6038
      have hi6039 : r6036.toInt = 0 ∨ (((0 : Int) ≤ 0 ∧ 0 ≤ (1 : Int))) := hi6039
      have h6038 : 0 ≤ r6036.toInt ∧ r6036.toInt ≤ 1 := h6038
      refine b_if_eq C 44 dX12_apart_33 (by decide) (fun h6041 => ?_) (fun h6041 => ?_)
      · have h6041 : r6036.toInt = 0 := congrArg Int32.toInt h6041
        clear hi6039
        refine g_lv (lv' := []) [] rfl ?_
        exact J44 Y6010 Iy6011 Xz6015 W6014 (by omega)
      · have h6041 : r6036.toInt ≠ 0 := ti_ne h6041
        replace hi6039 := hi6039.resolve_left (by omega)
        obtain ⟨b6042, e6043, h6044⟩ := Iy6011.fld (h6016) 10 13 2 rfl
        have hi6040 := (hi6040.resolve_left (by omega)) b6042 e6043
        have hi6040 : 0 < (pI Y6010 b6042 0).toInt := hi6040
        have h6045 := Iy6011.arr e6043 rfl 0
        refine g_aload_n C dX12_apart_36 rfl 0 rfl ?_
        refine g_iconst (v := 1) C dX12_apart_37 (by decide) ?_
        refine g_callVI (rest := []) C mv_X12_192 [.int 1] (s_X12_isBook Iy6011 W6014) (h6016).1 (h6016).2 rfl rfl (by decide) (Nat.le_of_ble_eq_true rfl) (by decide) dX12_apart_38 (fun r6046 Y6047 h6048 => ?_)
        obtain ⟨rfl, h6048⟩ := h6048
        obtain ⟨h6048, hi6049, hi6050⟩ := h6048
        have hi6049 : r6046.toInt = 0 ∨ (((0 : Int) ≤ 1 ∧ 1 ≤ (1 : Int))) := hi6049
        have h6048 : 0 ≤ r6046.toInt ∧ r6046.toInt ≤ 1 := h6048
        refine b_if_ne C 46 dX12_apart_41 (by decide) (fun h6051 => ?_) (fun h6051 => ?_)
        · have h6051 : r6046.toInt ≠ 0 := ti_ne h6051
          replace hi6049 := hi6049.resolve_left (by omega)
          have hi6050 := (hi6050.resolve_left (by omega)) b6042 e6043
          have hi6050 : 0 < (pI Y6010 b6042 1).toInt := hi6050
          have h6052 := Iy6011.arr e6043 rfl 1
          refine g_aload_n C dX12_apart_46 rfl 0 rfl ?_
          refine g_callVV (rest := []) C mv_X12_336 [] (s_X12_leavesNone Iy6011 W6014) (h6016).1 (h6016).2 rfl rfl (by decide) (Nat.le_of_ble_eq_true rfl) (by decide) dX12_apart_47 (fun Y6054 h6055 => ?_)
          obtain ⟨Iy6056, Xy6057, W6058⟩ := h6055
          have q6059 := Xy6057.keepF 0 (by decide)
          have q6060 := Xy6057.keepA e6024 (by decide) rfl (a1.toInt.toNat)
          have q6061 := Xy6057.keepA e6028 (by decide) rfl (z6032.toInt.toNat)
          have q6062 := Xy6057.keepA e6043 (by decide) rfl 0
          have q6063 := Xy6057.keepA e6043 (by decide) rfl 1
          have Xz6064 : EM [0, 28, 29, 30, 31, 32, 35, 36, 37, 38] a0 P Y6054 := EM.tr ha0 Xz6015 (Xy6057.mono (by decide))
          have e6065 := Xy6057.ref h6016 (by decide) e6024
          have e6066 := Xy6057.ref h6016 (by decide) e6028
          have e6067 := Xy6057.ref h6016 (by decide) e6043
          have h6068 := Xy6057.at h6016
          have h6069 := Xy6057.ar h6025
          have h6070 := Xy6057.ar h6029
          have h6071 := Xy6057.ar h6044
          refine g_iconst (v := 0) C dX12_apart_50 (by decide) ?_
          refine g_istore_n (lv' := [(3, .int 0), (0, .ref a0), (1, .int a1), (2, .int a2)]) C dX12_apart_51 rfl (by decide) rfl ?_
          refine g_iconst (v := 0) C dX12_apart_52 (by decide) ?_
          refine g_istore (lv' := [(4, .int 0), (3, .int 0), (0, .ref a0), (1, .int a1), (2, .int a2)]) C dX12_apart_53 (by decide) rfl ?_
          refine g_lv (lv' := [(0, .ref a0), (1, .int a1), (2, .int a2), (3, .int 0), (4, .int 0)]) [2, 3, 4, 1, 0] rfl ?_
          exact J55 _ Y6054 0 0 (Nat.lt_succ_self _) Iy6056 Xz6064 W6058 (by omega) (by omega) (by decide) (by omega) (fun b9 e9 => by rw [e6067] at e9; cases e9; omega) (fun b9 e9 => by rw [e6067] at e9; cases e9; omega) (fun b9 e9 => by rw [e6065] at e9; cases e9; omega)
        · have h6051 : r6046.toInt = 0 := congrArg Int32.toInt h6051
          clear hi6049
          refine g_lv (lv' := []) [] rfl ?_
          exact J44 Y6010 Iy6011 Xz6015 W6014 (by omega)
theorem dX12_areChances_0 : decode cX12_areChances 0 = .ok (.aload_n 0, 1) := by decide +kernel
theorem dX12_areChances_1 : decode cX12_areChances 1 = .ok (.iload_n 1, 1) := by decide +kernel
theorem dX12_areChances_2 : decode cX12_areChances 2 = .ok (.invokevirtual 192, 3) := by decide +kernel
theorem dX12_areChances_5 : decode cX12_areChances 5 = .ok (.ifCond .eq 26, 3) := by decide +kernel
theorem dX12_areChances_8 : decode cX12_areChances 8 = .ok (.iload_n 2, 1) := by decide +kernel
theorem dX12_areChances_9 : decode cX12_areChances 9 = .ok (.iconst 1, 1) := by decide +kernel
theorem dX12_areChances_10 : decode cX12_areChances 10 = .ok (.bipush 11, 2) := by decide +kernel
theorem dX12_areChances_12 : decode cX12_areChances 12 = .ok (.invokestatic 178, 3) := by decide +kernel
theorem dX12_areChances_15 : decode cX12_areChances 15 = .ok (.ifCond .eq 16, 3) := by decide +kernel
theorem dX12_areChances_18 : decode cX12_areChances 18 = .ok (.iload_n 3, 1) := by decide +kernel
theorem dX12_areChances_19 : decode cX12_areChances 19 = .ok (.iconst 0, 1) := by decide +kernel
theorem dX12_areChances_20 : decode cX12_areChances 20 = .ok (.iconst 1, 1) := by decide +kernel
theorem dX12_areChances_21 : decode cX12_areChances 21 = .ok (.invokestatic 178, 3) := by decide +kernel
theorem dX12_areChances_24 : decode cX12_areChances 24 = .ok (.ifCond .eq 7, 3) := by decide +kernel
theorem dX12_areChances_27 : decode cX12_areChances 27 = .ok (.iconst 1, 1) := by decide +kernel
theorem dX12_areChances_28 : decode cX12_areChances 28 = .ok (.goto 4, 3) := by decide +kernel
theorem dX12_areChances_31 : decode cX12_areChances 31 = .ok (.iconst 0, 1) := by decide +kernel
theorem dX12_areChances_32 : decode cX12_areChances 32 = .ok (.ireturn, 1) := by decide +kernel
set_option maxHeartbeats 4000000 in
set_option maxRecDepth 100000 in
theorem s_X12_areChances {P : PP} {a0 : Nat} {a1 : Int32} {a2 : Int32} {a3 : Int32} (I : IM P a0) (hW : MW P a0) : CtrI yX12_areChances cX12_areChances 4 (some Jvm.ClassFile.FieldType.boolean) ({ frames := 3, cells := 0, slots := 0, locals := 192 } : Room) 0 0 P [.ref a0, .int a1, .int a2, .int a3] (fun r P2 => P = P2 ∧ (0 ≤ r.toInt ∧ r.toInt ≤ 1) ∧ (r.toInt = 0 ∨ (((0 : Int) ≤ a1.toInt ∧ a1.toInt ≤ (1 : Int)) ∧ ((1 : Int) ≤ a2.toInt ∧ a2.toInt ≤ (11 : Int)) ∧ ((0 : Int) ≤ a3.toInt ∧ a3.toInt ≤ (1 : Int)))) ∧ (r.toInt = 0 ∨ ∀ b, pR P2 a0 10 = some b → 0 < (pI P2 b (a1.toInt.toNat)).toInt)) := by
  refine enI (lv := [(0, .ref a0), (1, .int a1), (2, .int a2), (3, .int a3)]) (by decide) (Nat.le_of_ble_eq_true rfl) rfl (fun E D cy C Ci0 ret => ?_)
  have ha0 := I.2.1
  have J31 : G E ({ frames := 3, cells := 0, slots := 0, locals := 192 } : Room) D cy 4 P 0 0 31 [] [] := by
    refine g_iconst (v := 0) C dX12_areChances_31 (by decide) ?_
    exact ret _ _ _ _ _ _ dX12_areChances_32 rfl (by decide) (by decide) ⟨rfl, (by decide), Or.inl rfl, Or.inl rfl⟩
  refine g_aload_n C dX12_areChances_0 rfl 0 rfl ?_
  refine g_iload_n C dX12_areChances_1 rfl 1 rfl ?_
  refine g_callVI (rest := []) C mv_X12_192 [.int a1] (s_X12_isBook I hW) (ha0).1 (ha0).2 rfl rfl (by decide) (Nat.le_of_ble_eq_true rfl) (by decide) dX12_areChances_2 (fun r6092 Y6093 h6094 => ?_)
  obtain ⟨rfl, h6094⟩ := h6094
  obtain ⟨h6094, hi6095, hi6096⟩ := h6094
  have hi6095 : r6092.toInt = 0 ∨ (((0 : Int) ≤ a1.toInt ∧ a1.toInt ≤ (1 : Int))) := hi6095
  have h6094 : 0 ≤ r6092.toInt ∧ r6092.toInt ≤ 1 := h6094
  refine b_if_eq C 31 dX12_areChances_5 (by decide) (fun h6097 => ?_) (fun h6097 => ?_)
  · have h6097 : r6092.toInt = 0 := congrArg Int32.toInt h6097
    clear hi6095
    refine g_lv (lv' := []) [] rfl ?_
    exact J31 
  · have h6097 : r6092.toInt ≠ 0 := ti_ne h6097
    replace hi6095 := hi6095.resolve_left (by omega)
    obtain ⟨b6098, e6099, h6100⟩ := I.fld (ha0) 10 13 2 rfl
    have hi6096 := (hi6096.resolve_left (by omega)) b6098 e6099
    have hi6096 : 0 < (pI P b6098 (a1.toInt.toNat)).toInt := hi6096
    have h6101 := I.arr e6099 rfl (a1.toInt.toNat)
    refine g_iload_n C dX12_areChances_8 rfl 2 rfl ?_
    refine g_iconst (v := 1) C dX12_areChances_9 (by decide) ?_
    refine g_bipush (v := 11) C dX12_areChances_10 (by decide) ?_
    refine g_callSI (b := 0) (ci := 0) (rest := []) C ms_X12_178 [.int a2, .int 1, .int 11] (s_X12_within I.1) rfl rfl (by decide) (Nat.le_of_ble_eq_true rfl) (by decide) dX12_areChances_12 (fun r6102 Y6103 h6104 => ?_)
    obtain ⟨rfl, h6104⟩ := h6104
    obtain ⟨h6104, hi6105⟩ := h6104
    have hi6105 : r6102.toInt = 0 ∨ (1 ≤ a2.toInt ∧ a2.toInt ≤ 11) := hi6105
    have h6104 : 0 ≤ r6102.toInt ∧ r6102.toInt ≤ 1 := h6104
    refine b_if_eq C 31 dX12_areChances_15 (by decide) (fun h6106 => ?_) (fun h6106 => ?_)
    · have h6106 : r6102.toInt = 0 := congrArg Int32.toInt h6106
      clear hi6105
      refine g_lv (lv' := []) [] rfl ?_
      exact J31 
    · have h6106 : r6102.toInt ≠ 0 := ti_ne h6106
      replace hi6105 := hi6105.resolve_left (by omega)
      refine g_iload_n C dX12_areChances_18 rfl 3 rfl ?_
      refine g_iconst (v := 0) C dX12_areChances_19 (by decide) ?_
      refine g_iconst (v := 1) C dX12_areChances_20 (by decide) ?_
      refine g_callSI (b := 0) (ci := 0) (rest := []) C ms_X12_178 [.int a3, .int 0, .int 1] (s_X12_within I.1) rfl rfl (by decide) (Nat.le_of_ble_eq_true rfl) (by decide) dX12_areChances_21 (fun r6107 Y6108 h6109 => ?_)
      obtain ⟨rfl, h6109⟩ := h6109
      obtain ⟨h6109, hi6110⟩ := h6109
      have hi6110 : r6107.toInt = 0 ∨ (0 ≤ a3.toInt ∧ a3.toInt ≤ 1) := hi6110
      have h6109 : 0 ≤ r6107.toInt ∧ r6107.toInt ≤ 1 := h6109
      refine b_if_eq C 31 dX12_areChances_24 (by decide) (fun h6111 => ?_) (fun h6111 => ?_)
      · have h6111 : r6107.toInt = 0 := congrArg Int32.toInt h6111
        clear hi6110
        refine g_lv (lv' := []) [] rfl ?_
        exact J31 
      · have h6111 : r6107.toInt ≠ 0 := ti_ne h6111
        replace hi6110 := hi6110.resolve_left (by omega)
        refine g_iconst (v := 1) C dX12_areChances_27 (by decide) ?_
        refine g_goto C 32 dX12_areChances_28 (by decide) ?_
        exact ret _ _ _ _ _ _ dX12_areChances_32 rfl (by decide) (by decide) ⟨rfl, (by decide), Or.inr (by omega), Or.inr (fun b9 e9 => by rw [e6099] at e9; cases e9; show 0 < (pI P b6098 (a1.toInt.toNat)).toInt; omega)⟩
theorem s_X12_average {P : PP} {a0 : Nat} {a1 a2 a3 a4 : Int32} (I : IM P a0) (hW : MW P a0) : CtrL yX12_average cX12_average 16 (some .long) ({ frames := 8, cells := 0, slots := 0, locals := 512 } : Room) 0 0 P [.ref a0, .int a1, .int a2, .int a3, .int a4] (fun _ P2 => IM P2 a0 ∧ EM [0, 28, 29, 30, 31, 33, 34, 35, 36, 37, 38, 43] a0 P P2 ∧ MW P2 a0 ∧ (True)) := by
  sorry
theorem dX12_away_0 : decode cX12_away 0 = .ok (.aload_n 0, 1) := by decide +kernel
theorem dX12_away_1 : decode cX12_away 1 = .ok (.iconst 0, 1) := by decide +kernel
theorem dX12_away_2 : decode cX12_away 2 = .ok (.putfield 1, 3) := by decide +kernel
theorem dX12_away_5 : decode cX12_away 5 = .ok (.aload_n 0, 1) := by decide +kernel
theorem dX12_away_6 : decode cX12_away 6 = .ok (.iload_n 1, 1) := by decide +kernel
theorem dX12_away_7 : decode cX12_away 7 = .ok (.iload_n 2, 1) := by decide +kernel
theorem dX12_away_8 : decode cX12_away 8 = .ok (.invokevirtual 298, 3) := by decide +kernel
theorem dX12_away_11 : decode cX12_away 11 = .ok (.ifCond .ne 5, 3) := by decide +kernel
theorem dX12_away_16 : decode cX12_away 16 = .ok (.aload_n 0, 1) := by decide +kernel
theorem dX12_away_17 : decode cX12_away 17 = .ok (.iload_n 1, 1) := by decide +kernel
theorem dX12_away_18 : decode cX12_away 18 = .ok (.iload_n 2, 1) := by decide +kernel
theorem dX12_away_19 : decode cX12_away 19 = .ok (.invokevirtual 185, 3) := by decide +kernel
theorem dX12_takesOut_0 : decode cX12_takesOut 0 = .ok (.aload_n 0, 1) := by decide +kernel
theorem dX12_takesOut_1 : decode cX12_takesOut 1 = .ok (.getfield 69, 3) := by decide +kernel
theorem dX12_takesOut_4 : decode cX12_takesOut 4 = .ok (.iload_n 1, 1) := by decide +kernel
theorem dX12_takesOut_5 : decode cX12_takesOut 5 = .ok (.dup2, 1) := by decide +kernel
theorem dX12_takesOut_6 : decode cX12_takesOut 6 = .ok (.iaload, 1) := by decide +kernel
theorem dX12_takesOut_7 : decode cX12_takesOut 7 = .ok (.iconst 1, 1) := by decide +kernel
theorem dX12_takesOut_8 : decode cX12_takesOut 8 = .ok (.isub, 1) := by decide +kernel
theorem dX12_takesOut_9 : decode cX12_takesOut 9 = .ok (.iastore, 1) := by decide +kernel
theorem dX12_takesOut_10 : decode cX12_takesOut 10 = .ok (.iload_n 2, 1) := by decide +kernel
theorem dX12_takesOut_11 : decode cX12_takesOut 11 = .ok (.istore_n 3, 1) := by decide +kernel
theorem dX12_takesOut_12 : decode cX12_takesOut 12 = .ok (.iload_n 3, 1) := by decide +kernel
theorem dX12_takesOut_13 : decode cX12_takesOut 13 = .ok (.aload_n 0, 1) := by decide +kernel
theorem dX12_takesOut_14 : decode cX12_takesOut 14 = .ok (.getfield 69, 3) := by decide +kernel
theorem dX12_takesOut_17 : decode cX12_takesOut 17 = .ok (.iload_n 1, 1) := by decide +kernel
theorem dX12_takesOut_18 : decode cX12_takesOut 18 = .ok (.iaload, 1) := by decide +kernel
theorem dX12_takesOut_19 : decode cX12_takesOut 19 = .ok (.if_icmp .ge 27, 3) := by decide +kernel
theorem dX12_takesOut_22 : decode cX12_takesOut 22 = .ok (.aload_n 0, 1) := by decide +kernel
theorem dX12_takesOut_23 : decode cX12_takesOut 23 = .ok (.bipush 40, 2) := by decide +kernel
theorem dX12_takesOut_25 : decode cX12_takesOut 25 = .ok (.iload_n 1, 1) := by decide +kernel
theorem dX12_takesOut_26 : decode cX12_takesOut 26 = .ok (.imul, 1) := by decide +kernel
theorem dX12_takesOut_27 : decode cX12_takesOut 27 = .ok (.iload_n 3, 1) := by decide +kernel
theorem dX12_takesOut_28 : decode cX12_takesOut 28 = .ok (.iadd, 1) := by decide +kernel
theorem dX12_takesOut_29 : decode cX12_takesOut 29 = .ok (.iconst 1, 1) := by decide +kernel
theorem dX12_takesOut_30 : decode cX12_takesOut 30 = .ok (.iadd, 1) := by decide +kernel
theorem dX12_takesOut_31 : decode cX12_takesOut 31 = .ok (.bipush 40, 2) := by decide +kernel
theorem dX12_takesOut_33 : decode cX12_takesOut 33 = .ok (.iload_n 1, 1) := by decide +kernel
theorem dX12_takesOut_34 : decode cX12_takesOut 34 = .ok (.imul, 1) := by decide +kernel
theorem dX12_takesOut_35 : decode cX12_takesOut 35 = .ok (.iload_n 3, 1) := by decide +kernel
theorem dX12_takesOut_36 : decode cX12_takesOut 36 = .ok (.iadd, 1) := by decide +kernel
theorem dX12_takesOut_37 : decode cX12_takesOut 37 = .ok (.invokevirtual 274, 3) := by decide +kernel
theorem dX12_takesOut_46 : decode cX12_takesOut 46 = .ok (.return_, 1) := by decide +kernel
theorem dX12_moves_0 : decode cX12_moves 0 = .ok (.aload_n 0, 1) := by decide +kernel
theorem dX12_moves_1 : decode cX12_moves 1 = .ok (.getfield 72, 3) := by decide +kernel
theorem dX12_moves_4 : decode cX12_moves 4 = .ok (.iload_n 2, 1) := by decide +kernel
theorem dX12_moves_5 : decode cX12_moves 5 = .ok (.aload_n 0, 1) := by decide +kernel
theorem dX12_moves_6 : decode cX12_moves 6 = .ok (.getfield 72, 3) := by decide +kernel
theorem dX12_moves_9 : decode cX12_moves 9 = .ok (.iload_n 1, 1) := by decide +kernel
theorem dX12_moves_10 : decode cX12_moves 10 = .ok (.iaload, 1) := by decide +kernel
theorem dX12_moves_11 : decode cX12_moves 11 = .ok (.iastore, 1) := by decide +kernel
theorem dX12_moves_12 : decode cX12_moves 12 = .ok (.aload_n 0, 1) := by decide +kernel
theorem dX12_moves_13 : decode cX12_moves 13 = .ok (.getfield 75, 3) := by decide +kernel
theorem dX12_moves_16 : decode cX12_moves 16 = .ok (.iload_n 2, 1) := by decide +kernel
theorem dX12_moves_17 : decode cX12_moves 17 = .ok (.aload_n 0, 1) := by decide +kernel
theorem dX12_moves_18 : decode cX12_moves 18 = .ok (.getfield 75, 3) := by decide +kernel
theorem dX12_moves_21 : decode cX12_moves 21 = .ok (.iload_n 1, 1) := by decide +kernel
theorem dX12_moves_22 : decode cX12_moves 22 = .ok (.iaload, 1) := by decide +kernel
theorem dX12_moves_23 : decode cX12_moves 23 = .ok (.iastore, 1) := by decide +kernel
theorem dX12_moves_24 : decode cX12_moves 24 = .ok (.aload_n 0, 1) := by decide +kernel
theorem dX12_moves_25 : decode cX12_moves 25 = .ok (.getfield 78, 3) := by decide +kernel
theorem dX12_moves_28 : decode cX12_moves 28 = .ok (.iload_n 2, 1) := by decide +kernel
theorem dX12_moves_29 : decode cX12_moves 29 = .ok (.aload_n 0, 1) := by decide +kernel
theorem dX12_moves_30 : decode cX12_moves 30 = .ok (.getfield 78, 3) := by decide +kernel
theorem dX12_moves_33 : decode cX12_moves 33 = .ok (.iload_n 1, 1) := by decide +kernel
theorem dX12_moves_34 : decode cX12_moves 34 = .ok (.iaload, 1) := by decide +kernel
theorem dX12_moves_35 : decode cX12_moves 35 = .ok (.iastore, 1) := by decide +kernel
theorem dX12_moves_36 : decode cX12_moves 36 = .ok (.aload_n 0, 1) := by decide +kernel
theorem dX12_moves_37 : decode cX12_moves 37 = .ok (.getfield 81, 3) := by decide +kernel
theorem dX12_moves_40 : decode cX12_moves 40 = .ok (.iload_n 2, 1) := by decide +kernel
theorem dX12_moves_41 : decode cX12_moves 41 = .ok (.aload_n 0, 1) := by decide +kernel
theorem dX12_moves_42 : decode cX12_moves 42 = .ok (.getfield 81, 3) := by decide +kernel
theorem dX12_moves_45 : decode cX12_moves 45 = .ok (.iload_n 1, 1) := by decide +kernel
theorem dX12_moves_46 : decode cX12_moves 46 = .ok (.iaload, 1) := by decide +kernel
theorem dX12_moves_47 : decode cX12_moves 47 = .ok (.iastore, 1) := by decide +kernel
theorem dX12_moves_48 : decode cX12_moves 48 = .ok (.aload_n 0, 1) := by decide +kernel
theorem dX12_moves_49 : decode cX12_moves 49 = .ok (.getfield 84, 3) := by decide +kernel
theorem dX12_moves_52 : decode cX12_moves 52 = .ok (.iload_n 2, 1) := by decide +kernel
theorem dX12_moves_53 : decode cX12_moves 53 = .ok (.aload_n 0, 1) := by decide +kernel
theorem dX12_moves_54 : decode cX12_moves 54 = .ok (.getfield 84, 3) := by decide +kernel
theorem dX12_moves_57 : decode cX12_moves 57 = .ok (.iload_n 1, 1) := by decide +kernel
theorem dX12_moves_58 : decode cX12_moves 58 = .ok (.iaload, 1) := by decide +kernel
theorem dX12_moves_59 : decode cX12_moves 59 = .ok (.iastore, 1) := by decide +kernel
theorem dX12_moves_60 : decode cX12_moves 60 = .ok (.return_, 1) := by decide +kernel
set_option maxHeartbeats 4000000 in
set_option maxRecDepth 100000 in
theorem s_X12_moves {P : PP} {a0 : Nat} {a1 : Int32} {a2 : Int32} (I : IM P a0) (ha1 : 0 ≤ a1.toInt ∧ a1.toInt ≤ 799) (ha2 : 0 ≤ a2.toInt ∧ a2.toInt ≤ 799) (hW : MW P a0) : CtrV yX12_moves cX12_moves 3 none ({ frames := 1, cells := 0, slots := 0, locals := 64 } : Room) 0 0 P [.ref a0, .int a1, .int a2] (fun P2 => IM P2 a0 ∧ EM [21, 22, 23, 24, 25] a0 P P2 ∧ MW P2 a0) := by
  refine enV (lv := [(0, .ref a0), (1, .int a1), (2, .int a2)]) (by decide) (Nat.le_of_ble_eq_true rfl) rfl (fun E D cy C Ci0 ret => ?_)
  have ha0 := I.2.1
  refine g_aload_n C dX12_moves_0 rfl 0 rfl ?_
  obtain ⟨b6249, e6250, h6251⟩ := I.fld (ha0) 21 13 800 rfl
  refine g_getR C fi_X12_72 rfl e6250 (ha0).1 (ha0).2 dX12_moves_1 ?_
  refine g_iload_n C dX12_moves_4 rfl 2 rfl ?_
  refine g_aload_n C dX12_moves_5 rfl 0 rfl ?_
  refine g_getR C fi_X12_72 rfl e6250 (ha0).1 (ha0).2 dX12_moves_6 ?_
  refine g_iload_n C dX12_moves_9 rfl 1 rfl ?_
  refine g_iald (j := (a1.toInt.toNat)) C h6251.1 h6251.2.1 (ix_in h6251.2.2 (by omega)) dX12_moves_10 ?_
  refine g_iast (j := (a2.toInt.toNat)) C h6251.1 h6251.2.1 (ix_in h6251.2.2 (by omega)) dX12_moves_11 ?_
  refine gqW (ks := [21]) (I.setA e6250 h6251 (by decide) (arOk.none rfl)) (EM.setA I e6250 rfl (by decide)) (fun Y6252 Iy6253 Xy6254 w6255 => ?_)
  have w6255 : (pI Y6252 b6249 (a2.toInt.toNat)).toInt = (pI P b6249 (a1.toInt.toNat)).toInt := w6255
  have W6256 := hW.keep I Xy6254 (by decide) (by decide) (by decide)
  have Xz6257 : EM [21, 22, 23, 24, 25] a0 P Y6252 := Xy6254.mono (by decide)
  have e6258 := Xy6254.ref ha0 (by decide) e6250
  have h6259 := Xy6254.at ha0
  have h6260 := Xy6254.ar h6251
  refine g_aload_n C dX12_moves_12 rfl 0 rfl ?_
  obtain ⟨b6261, e6262, h6263⟩ := Iy6253.fld (h6259) 22 13 800 rfl
  refine g_getR C fi_X12_75 rfl e6262 (h6259).1 (h6259).2 dX12_moves_13 ?_
  refine g_iload_n C dX12_moves_16 rfl 2 rfl ?_
  refine g_aload_n C dX12_moves_17 rfl 0 rfl ?_
  refine g_getR C fi_X12_75 rfl e6262 (h6259).1 (h6259).2 dX12_moves_18 ?_
  refine g_iload_n C dX12_moves_21 rfl 1 rfl ?_
  refine g_iald (j := (a1.toInt.toNat)) C h6263.1 h6263.2.1 (ix_in h6263.2.2 (by omega)) dX12_moves_22 ?_
  have h6264 := Iy6253.arr e6262 rfl (a1.toInt.toNat)
  refine g_iast (j := (a2.toInt.toNat)) C h6263.1 h6263.2.1 (ix_in h6263.2.2 (by omega)) dX12_moves_23 ?_
  refine gqX (ks := [22]) (W := (fun P => MW P a0)) (Iy6253.setA e6262 h6263 (by decide) (arOk.of rfl (by omega))) (EM.setA Iy6253 e6262 rfl (by decide)) (W6256.set22 Iy6253 e6262 (fun c9 f9 h9 => W6256.told e6262 f9 h9)) (fun Y6265 Iy6266 Xy6267 w6268 W6269 => ?_)
  have w6268 : (pI Y6265 b6261 (a2.toInt.toNat)).toInt = (pI Y6252 b6261 (a1.toInt.toNat)).toInt := w6268
  have q6270 := Xy6267.keepA e6258 (by decide) rfl (a2.toInt.toNat)
  have Xz6271 : EM [21, 22, 23, 24, 25] a0 P Y6265 := EM.tr ha0 Xz6257 (Xy6267.mono (by decide))
  have e6272 := Xy6267.ref h6259 (by decide) e6258
  have e6273 := Xy6267.ref h6259 (by decide) e6262
  have h6274 := Xy6267.at h6259
  have h6275 := Xy6267.ar h6260
  have h6276 := Xy6267.ar h6263
  refine g_aload_n C dX12_moves_24 rfl 0 rfl ?_
  obtain ⟨b6277, e6278, h6279⟩ := Iy6266.fld (h6274) 23 13 800 rfl
  refine g_getR C fi_X12_78 rfl e6278 (h6274).1 (h6274).2 dX12_moves_25 ?_
  refine g_iload_n C dX12_moves_28 rfl 2 rfl ?_
  refine g_aload_n C dX12_moves_29 rfl 0 rfl ?_
  refine g_getR C fi_X12_78 rfl e6278 (h6274).1 (h6274).2 dX12_moves_30 ?_
  refine g_iload_n C dX12_moves_33 rfl 1 rfl ?_
  refine g_iald (j := (a1.toInt.toNat)) C h6279.1 h6279.2.1 (ix_in h6279.2.2 (by omega)) dX12_moves_34 ?_
  refine g_iast (j := (a2.toInt.toNat)) C h6279.1 h6279.2.1 (ix_in h6279.2.2 (by omega)) dX12_moves_35 ?_
  refine gqW (ks := [23]) (Iy6266.setA e6278 h6279 (by decide) (arOk.none rfl)) (EM.setA Iy6266 e6278 rfl (by decide)) (fun Y6280 Iy6281 Xy6282 w6283 => ?_)
  have w6283 : (pI Y6280 b6277 (a2.toInt.toNat)).toInt = (pI Y6265 b6277 (a1.toInt.toNat)).toInt := w6283
  have q6284 := Xy6282.keepA e6272 (by decide) rfl (a2.toInt.toNat)
  have q6285 := Xy6282.keepA e6273 (by decide) rfl (a2.toInt.toNat)
  have W6286 := W6269.keep Iy6266 Xy6282 (by decide) (by decide) (by decide)
  have Xz6287 : EM [21, 22, 23, 24, 25] a0 P Y6280 := EM.tr ha0 Xz6271 (Xy6282.mono (by decide))
  have e6288 := Xy6282.ref h6274 (by decide) e6272
  have e6289 := Xy6282.ref h6274 (by decide) e6273
  have e6290 := Xy6282.ref h6274 (by decide) e6278
  have h6291 := Xy6282.at h6274
  have h6292 := Xy6282.ar h6275
  have h6293 := Xy6282.ar h6276
  have h6294 := Xy6282.ar h6279
  refine g_aload_n C dX12_moves_36 rfl 0 rfl ?_
  obtain ⟨b6295, e6296, h6297⟩ := Iy6281.fld (h6291) 24 13 800 rfl
  refine g_getR C fi_X12_81 rfl e6296 (h6291).1 (h6291).2 dX12_moves_37 ?_
  refine g_iload_n C dX12_moves_40 rfl 2 rfl ?_
  refine g_aload_n C dX12_moves_41 rfl 0 rfl ?_
  refine g_getR C fi_X12_81 rfl e6296 (h6291).1 (h6291).2 dX12_moves_42 ?_
  refine g_iload_n C dX12_moves_45 rfl 1 rfl ?_
  refine g_iald (j := (a1.toInt.toNat)) C h6297.1 h6297.2.1 (ix_in h6297.2.2 (by omega)) dX12_moves_46 ?_
  refine g_iast (j := (a2.toInt.toNat)) C h6297.1 h6297.2.1 (ix_in h6297.2.2 (by omega)) dX12_moves_47 ?_
  refine gqW (ks := [24]) (Iy6281.setA e6296 h6297 (by decide) (arOk.none rfl)) (EM.setA Iy6281 e6296 rfl (by decide)) (fun Y6298 Iy6299 Xy6300 w6301 => ?_)
  have w6301 : (pI Y6298 b6295 (a2.toInt.toNat)).toInt = (pI Y6280 b6295 (a1.toInt.toNat)).toInt := w6301
  have q6302 := Xy6300.keepA e6288 (by decide) rfl (a2.toInt.toNat)
  have q6303 := Xy6300.keepA e6289 (by decide) rfl (a2.toInt.toNat)
  have q6304 := Xy6300.keepA e6290 (by decide) rfl (a2.toInt.toNat)
  have W6305 := W6286.keep Iy6281 Xy6300 (by decide) (by decide) (by decide)
  have Xz6306 : EM [21, 22, 23, 24, 25] a0 P Y6298 := EM.tr ha0 Xz6287 (Xy6300.mono (by decide))
  have e6307 := Xy6300.ref h6291 (by decide) e6288
  have e6308 := Xy6300.ref h6291 (by decide) e6289
  have e6309 := Xy6300.ref h6291 (by decide) e6290
  have e6310 := Xy6300.ref h6291 (by decide) e6296
  have h6311 := Xy6300.at h6291
  have h6312 := Xy6300.ar h6292
  have h6313 := Xy6300.ar h6293
  have h6314 := Xy6300.ar h6294
  have h6315 := Xy6300.ar h6297
  refine g_aload_n C dX12_moves_48 rfl 0 rfl ?_
  obtain ⟨b6316, e6317, h6318⟩ := Iy6299.fld (h6311) 25 13 800 rfl
  refine g_getR C fi_X12_84 rfl e6317 (h6311).1 (h6311).2 dX12_moves_49 ?_
  refine g_iload_n C dX12_moves_52 rfl 2 rfl ?_
  refine g_aload_n C dX12_moves_53 rfl 0 rfl ?_
  refine g_getR C fi_X12_84 rfl e6317 (h6311).1 (h6311).2 dX12_moves_54 ?_
  refine g_iload_n C dX12_moves_57 rfl 1 rfl ?_
  refine g_iald (j := (a1.toInt.toNat)) C h6318.1 h6318.2.1 (ix_in h6318.2.2 (by omega)) dX12_moves_58 ?_
  refine g_iast (j := (a2.toInt.toNat)) C h6318.1 h6318.2.1 (ix_in h6318.2.2 (by omega)) dX12_moves_59 ?_
  refine gqW (ks := [25]) (Iy6299.setA e6317 h6318 (by decide) (arOk.none rfl)) (EM.setA Iy6299 e6317 rfl (by decide)) (fun Y6319 Iy6320 Xy6321 w6322 => ?_)
  have w6322 : (pI Y6319 b6316 (a2.toInt.toNat)).toInt = (pI Y6298 b6316 (a1.toInt.toNat)).toInt := w6322
  have q6323 := Xy6321.keepA e6307 (by decide) rfl (a2.toInt.toNat)
  have q6324 := Xy6321.keepA e6308 (by decide) rfl (a2.toInt.toNat)
  have q6325 := Xy6321.keepA e6309 (by decide) rfl (a2.toInt.toNat)
  have q6326 := Xy6321.keepA e6310 (by decide) rfl (a2.toInt.toNat)
  have W6327 := W6305.keep Iy6299 Xy6321 (by decide) (by decide) (by decide)
  have Xz6328 : EM [21, 22, 23, 24, 25] a0 P Y6319 := EM.tr ha0 Xz6306 (Xy6321.mono (by decide))
  have e6329 := Xy6321.ref h6311 (by decide) e6307
  have e6330 := Xy6321.ref h6311 (by decide) e6308
  have e6331 := Xy6321.ref h6311 (by decide) e6309
  have e6332 := Xy6321.ref h6311 (by decide) e6310
  have e6333 := Xy6321.ref h6311 (by decide) e6317
  have h6334 := Xy6321.at h6311
  have h6335 := Xy6321.ar h6312
  have h6336 := Xy6321.ar h6313
  have h6337 := Xy6321.ar h6314
  have h6338 := Xy6321.ar h6315
  have h6339 := Xy6321.ar h6318
  exact ret _ _ _ _ _ dX12_moves_60 (by decide) (by decide) ⟨Iy6320, Xz6328, W6327⟩
theorem dX12_takesOut_40 : decode cX12_takesOut 40 = .ok (.iinc 3 1, 3) := by decide +kernel
theorem dX12_takesOut_43 : decode cX12_takesOut 43 = .ok (.goto (-31), 3) := by decide +kernel
set_option maxHeartbeats 4000000 in
set_option maxRecDepth 100000 in
theorem s_X12_takesOut {P : PP} {a0 : Nat} {a1 : Int32} {a2 : Int32} (I : IM P a0) (ha1 : 0 ≤ a1.toInt ∧ a1.toInt ≤ 3) (ha2 : 0 ≤ a2.toInt ∧ a2.toInt ≤ 39) (hf0 : ∀ b, pR P a0 20 = some b → 1 ≤ (pI P b (a1.toInt.toNat)).toInt ∧ (pI P b (a1.toInt.toNat)).toInt ≤ 40) (hW : MW P a0) : CtrV yX12_takesOut cX12_takesOut 4 none ({ frames := 2, cells := 0, slots := 0, locals := 128 } : Room) 0 0 P [.ref a0, .int a1, .int a2] (fun P2 => IM P2 a0 ∧ EM [20, 21, 22, 23, 24, 25] a0 P P2 ∧ MW P2 a0 ∧ (∀ b, pR P a0 20 = some b → (pI P2 b (a1.toInt.toNat)).toInt = (pI P b (a1.toInt.toNat)).toInt - 1)) := by
  refine enV (lv := [(0, .ref a0), (1, .int a1), (2, .int a2)]) (by decide) (Nat.le_of_ble_eq_true rfl) rfl (fun E D cy C Ci0 ret => ?_)
  have ha0 := I.2.1
  have J12 : ∀ (n12 : Nat) (P12 : PP) (v12_3 : Int32), (39 - v12_3.toInt).toNat < n12 → (IM P12 a0) → (EM [20, 21, 22, 23, 24, 25] a0 P P12) → (MW P12 a0) → (0 ≤ v12_3.toInt ∧ v12_3.toInt ≤ 39) → (∀ b, pR P12 a0 20 = some b → 0 ≤ (pI P12 b (a1.toInt.toNat)).toInt ∧ (pI P12 b (a1.toInt.toNat)).toInt ≤ 39) → (∀ b920, pR P12 a0 20 = some b920 → (pI P12 b920 (a1.toInt.toNat)).toInt = (pI P b920 (a1.toInt.toNat)).toInt - 1) → G E ({ frames := 2, cells := 0, slots := 0, locals := 128 } : Room) D cy 4 P12 0 0 12 [(0, .ref a0), (1, .int a1), (3, .int v12_3)] [] := by
    intro n12
    induction n12 with
    | zero => intro P12 v12_3 hm12 I12 X12 W12 hv12_3 hq12_0 rel12_0; omega
    | succ n12 ih12 =>
      intro P12 v12_3 hm12 I12 X12 W12 hv12_3 hq12_0 rel12_0
      have h6382 := X12.at ha0
      obtain ⟨b6383, e6384, h6385⟩ := I12.fld (h6382) 20 13 20 rfl
      have hq12_0 := hq12_0 b6383 e6384
      have rel12_0 := rel12_0 b6383 e6384
      refine g_iload_n C dX12_takesOut_12 rfl 2 rfl ?_
      refine g_aload_n C dX12_takesOut_13 rfl 0 rfl ?_
      refine g_getR C fi_X12_69 rfl e6384 (h6382).1 (h6382).2 dX12_takesOut_14 ?_
      refine g_iload_n C dX12_takesOut_17 rfl 1 rfl ?_
      refine g_iald (j := (a1.toInt.toNat)) C h6385.1 h6385.2.1 (ix_in h6385.2.2 (by omega)) dX12_takesOut_18 ?_
      refine b_icmp_ge C 46 dX12_takesOut_19 (by decide) (fun h6386 => ?_) (fun h6386 => ?_)
      · have h6386 : (pI P12 b6383 (a1.toInt.toNat)).toInt ≤ v12_3.toInt := h6386
        exact ret _ _ _ _ _ dX12_takesOut_46 (by decide) (by decide) ⟨I12, X12, W12, (fun b9 e9 => by have e8 := EM.ref X12 ha0 (by decide) e9; rw [e6384] at e8; cases e8; show (pI P12 b6383 (a1.toInt.toNat)).toInt = (pI P b6383 (a1.toInt.toNat)).toInt - 1; omega)⟩
      · have h6386 : v12_3.toInt < (pI P12 b6383 (a1.toInt.toNat)).toInt := h6386
        refine g_aload_n C dX12_takesOut_22 rfl 0 rfl ?_
        refine g_bipush (v := 40) C dX12_takesOut_23 (by decide) ?_
        refine g_iload_n C dX12_takesOut_25 rfl 1 rfl ?_
        refine s_imul C dX12_takesOut_26 (by show -2147483648 ≤ 40 * a1.toInt ∧ 40 * a1.toInt ≤ 2147483647; omega) (fun z6387 h6388 => ?_)
        have h6388 : z6387.toInt = 40 * a1.toInt := h6388
        refine g_iload_n C dX12_takesOut_27 rfl 2 rfl ?_
        refine s_iadd C dX12_takesOut_28 (by show -2147483648 ≤ z6387.toInt + v12_3.toInt ∧ z6387.toInt + v12_3.toInt ≤ 2147483647; omega) (fun z6389 h6390 => ?_)
        have h6390 : z6389.toInt = z6387.toInt + v12_3.toInt := h6390
        refine g_iconst (v := 1) C dX12_takesOut_29 (by decide) ?_
        refine s_iadd C dX12_takesOut_30 (by show -2147483648 ≤ z6389.toInt + 1 ∧ z6389.toInt + 1 ≤ 2147483647; omega) (fun z6391 h6392 => ?_)
        have h6392 : z6391.toInt = z6389.toInt + 1 := h6392
        refine g_bipush (v := 40) C dX12_takesOut_31 (by decide) ?_
        refine g_iload_n C dX12_takesOut_33 rfl 1 rfl ?_
        refine s_imul C dX12_takesOut_34 (by show -2147483648 ≤ 40 * a1.toInt ∧ 40 * a1.toInt ≤ 2147483647; omega) (fun z6393 h6394 => ?_)
        have h6394 : z6393.toInt = 40 * a1.toInt := h6394
        refine g_iload_n C dX12_takesOut_35 rfl 2 rfl ?_
        refine s_iadd C dX12_takesOut_36 (by show -2147483648 ≤ z6393.toInt + v12_3.toInt ∧ z6393.toInt + v12_3.toInt ≤ 2147483647; omega) (fun z6395 h6396 => ?_)
        have h6396 : z6395.toInt = z6393.toInt + v12_3.toInt := h6396
        refine g_callVV (rest := []) C mv_X12_274 [.int z6391, .int z6395] (s_X12_moves I12 (by omega) (by omega) W12) (h6382).1 (h6382).2 rfl rfl (by decide) (Nat.le_of_ble_eq_true rfl) (by decide) dX12_takesOut_37 (fun Y6398 h6399 => ?_)
        obtain ⟨Iy6400, Xy6401, W6402⟩ := h6399
        have q6403 := Xy6401.keepA e6384 (by decide) rfl (a1.toInt.toNat)
        have Xz6404 : EM [20, 21, 22, 23, 24, 25] a0 P Y6398 := EM.tr ha0 X12 (Xy6401.mono (by decide))
        have e6405 := Xy6401.ref h6382 (by decide) e6384
        have h6406 := Xy6401.at h6382
        have h6407 := Xy6401.ar h6385
        refine s_iinc (lv0 := [(0, .ref a0), (1, .int a1)]) (m := 1) C dX12_takesOut_40 2 rfl (by decide) rfl (by decide) (by omega) (fun z6408 h6409 => ?_)
        have h6409 : z6408.toInt = v12_3.toInt + 1 := h6409
        refine g_goto C 12 dX12_takesOut_43 (by decide) ?_
        refine g_lv (lv' := [(0, .ref a0), (1, .int a1), (3, .int z6408)]) [1, 2, 0] rfl ?_
        exact ih12 Y6398 z6408 (by omega) Iy6400 Xz6404 W6402 (by omega) (fun b9 e9 => by rw [e6405] at e9; cases e9; omega) (by intro b920 e920; rw [e6405] at e920; cases e920; show (pI Y6398 b6383 (a1.toInt.toNat)).toInt = (pI P b6383 (a1.toInt.toNat)).toInt - 1; omega)
  obtain ⟨b6410, e6411, h6412⟩ := I.fld (ha0) 20 13 20 rfl
  have hf0 := hf0 b6410 e6411
  refine g_aload_n C dX12_takesOut_0 rfl 0 rfl ?_
  refine g_getR C fi_X12_69 rfl e6411 (ha0).1 (ha0).2 dX12_takesOut_1 ?_
  refine g_iload_n C dX12_takesOut_4 rfl 1 rfl ?_
  refine g_dup2_11 C dX12_takesOut_5 rfl rfl ?_
  refine g_iald (j := (a1.toInt.toNat)) C h6412.1 h6412.2.1 (ix_in h6412.2.2 (by omega)) dX12_takesOut_6 ?_
  refine g_iconst (v := 1) C dX12_takesOut_7 (by decide) ?_
  refine s_isub C dX12_takesOut_8 (by show -2147483648 ≤ (pI P b6410 (a1.toInt.toNat)).toInt - 1 ∧ (pI P b6410 (a1.toInt.toNat)).toInt - 1 ≤ 2147483647; omega) (fun z6413 h6414 => ?_)
  have h6414 : z6413.toInt = (pI P b6410 (a1.toInt.toNat)).toInt - 1 := h6414
  refine g_iast (j := (a1.toInt.toNat)) C h6412.1 h6412.2.1 (ix_in h6412.2.2 (by omega)) dX12_takesOut_9 ?_
  refine gqW (ks := [20]) (I.setA e6411 h6412 (by decide) (arOk.of rfl (by omega))) (EM.setA I e6411 rfl (by decide)) (fun Y6415 Iy6416 Xy6417 w6418 => ?_)
  have w6418 : (pI Y6415 b6410 (a1.toInt.toNat)).toInt = z6413.toInt := w6418
  have W6419 := hW.keep I Xy6417 (by decide) (by decide) (by decide)
  have Xz6420 : EM [20, 21, 22, 23, 24, 25] a0 P Y6415 := Xy6417.mono (by decide)
  have e6421 := Xy6417.ref ha0 (by decide) e6411
  have h6422 := Xy6417.at ha0
  have h6423 := Xy6417.ar h6412
  refine g_iload_n C dX12_takesOut_10 rfl 2 rfl ?_
  refine g_istore_n (lv' := [(3, .int a2), (0, .ref a0), (1, .int a1), (2, .int a2)]) C dX12_takesOut_11 rfl (by decide) rfl ?_
  refine g_lv (lv' := [(0, .ref a0), (1, .int a1), (3, .int a2)]) [1, 2, 0] rfl ?_
  exact J12 _ Y6415 a2 (Nat.lt_succ_self _) Iy6416 Xz6420 W6419 (by omega) (fun b9 e9 => by rw [e6421] at e9; cases e9; omega) (by intro b920 e920; rw [e6421] at e920; cases e920; show (pI Y6415 b6410 (a1.toInt.toNat)).toInt = (pI P b6410 (a1.toInt.toNat)).toInt - 1; omega)
theorem dX12_away_14 : decode cX12_away 14 = .ok (.iconst 0, 1) := by decide +kernel
theorem dX12_away_15 : decode cX12_away 15 = .ok (.ireturn, 1) := by decide +kernel
theorem dX12_away_22 : decode cX12_away 22 = .ok (.iconst 1, 1) := by decide +kernel
theorem dX12_away_23 : decode cX12_away 23 = .ok (.ireturn, 1) := by decide +kernel
set_option maxHeartbeats 4000000 in
set_option maxRecDepth 100000 in
theorem s_X12_away {P : PP} {a0 : Nat} {a1 : Int32} {a2 : Int32} (I : IM P a0) (hW : MW P a0) : CtrI yX12_away cX12_away 3 (some Jvm.ClassFile.FieldType.boolean) ({ frames := 4, cells := 0, slots := 0, locals := 256 } : Room) 0 0 P [.ref a0, .int a1, .int a2] (fun r P2 => IM P2 a0 ∧ EM [0, 20, 21, 22, 23, 24, 25] a0 P P2 ∧ MW P2 a0 ∧ (0 ≤ r.toInt ∧ r.toInt ≤ 1) ∧ (r.toInt = 0 ∨ (((0 : Int) ≤ a1.toInt ∧ a1.toInt ≤ (3 : Int)) ∧ ((0 : Int) ≤ a2.toInt ∧ a2.toInt ≤ (39 : Int))))) := by
  refine enI (lv := [(0, .ref a0), (1, .int a1), (2, .int a2)]) (by decide) (Nat.le_of_ble_eq_true rfl) rfl (fun E D cy C Ci0 ret => ?_)
  have ha0 := I.2.1
  refine g_aload_n C dX12_away_0 rfl 0 rfl ?_
  refine g_iconst (v := 0) C dX12_away_1 (by decide) ?_
  refine g_putI C fi_X12_1 rfl (ha0).1 (ha0).2 dX12_away_2 ?_
  refine gqW (ks := [0]) (I.setI (rgOk.of rfl (by decide))) (EM.setI I (by decide)) (fun Y6453 Iy6454 Xy6455 w6456 => ?_)
  have w6456 : (pI Y6453 a0 0).toInt = 0 := w6456
  have W6457 := hW.keep I Xy6455 (by decide) (by decide) (by decide)
  have Xz6458 : EM [0, 20, 21, 22, 23, 24, 25] a0 P Y6453 := Xy6455.mono (by decide)
  have h6459 := Xy6455.at ha0
  refine g_aload_n C dX12_away_5 rfl 0 rfl ?_
  refine g_iload_n C dX12_away_6 rfl 1 rfl ?_
  refine g_iload_n C dX12_away_7 rfl 2 rfl ?_
  refine g_callVI (rest := []) C mv_X12_298 [.int a1, .int a2] (s_X12_isPaper Iy6454 W6457) (h6459).1 (h6459).2 rfl rfl (by decide) (Nat.le_of_ble_eq_true rfl) (by decide) dX12_away_8 (fun r6460 Y6461 h6462 => ?_)
  obtain ⟨rfl, h6462⟩ := h6462
  obtain ⟨h6462, hi6463, hi6464⟩ := h6462
  have hi6463 : r6460.toInt = 0 ∨ (((0 : Int) ≤ a1.toInt ∧ a1.toInt ≤ (3 : Int)) ∧ ((0 : Int) ≤ a2.toInt ∧ a2.toInt ≤ (39 : Int))) := hi6463
  have h6462 : 0 ≤ r6460.toInt ∧ r6460.toInt ≤ 1 := h6462
  refine b_if_ne C 16 dX12_away_11 (by decide) (fun h6465 => ?_) (fun h6465 => ?_)
  · have h6465 : r6460.toInt ≠ 0 := ti_ne h6465
    replace hi6463 := hi6463.resolve_left (by omega)
    obtain ⟨b6466, e6467, h6468⟩ := Iy6454.fld (h6459) 20 13 20 rfl
    have hi6464 := (hi6464.resolve_left (by omega)) b6466 e6467
    have hi6464 : a2.toInt < (pI Y6453 b6466 (a1.toInt.toNat)).toInt ∧ 0 ≤ a2.toInt := hi6464
    have h6469 := Iy6454.arr e6467 rfl (a1.toInt.toNat)
    refine g_aload_n C dX12_away_16 rfl 0 rfl ?_
    refine g_iload_n C dX12_away_17 rfl 1 rfl ?_
    refine g_iload_n C dX12_away_18 rfl 2 rfl ?_
    refine g_callVV (rest := []) C mv_X12_185 [.int a1, .int a2] (s_X12_takesOut Iy6454 (by omega) (by omega) (fun b9 e9 => by rw [e6467] at e9; cases e9; show 1 ≤ (pI Y6453 b6466 (a1.toInt.toNat)).toInt ∧ (pI Y6453 b6466 (a1.toInt.toNat)).toInt ≤ 40; omega) W6457) (h6459).1 (h6459).2 rfl rfl (by decide) (Nat.le_of_ble_eq_true rfl) (by decide) dX12_away_19 (fun Y6471 h6472 => ?_)
    obtain ⟨Iy6473, Xy6474, W6475, p6476⟩ := h6472
    have p6476 := p6476 b6466 e6467
    have p6476 : (pI Y6471 b6466 (a1.toInt.toNat)).toInt = (pI Y6453 b6466 (a1.toInt.toNat)).toInt - 1 := p6476
    have q6477 := Xy6474.keepF 0 (by decide)
    have Xz6478 : EM [0, 20, 21, 22, 23, 24, 25] a0 P Y6471 := EM.tr ha0 Xz6458 (Xy6474.mono (by decide))
    have e6479 := Xy6474.ref h6459 (by decide) e6467
    have h6480 := Xy6474.at h6459
    have h6481 := Xy6474.ar h6468
    refine g_iconst (v := 1) C dX12_away_22 (by decide) ?_
    exact ret _ _ _ _ _ _ dX12_away_23 rfl (by decide) (by decide) ⟨Iy6473, Xz6478, W6475, (by decide), Or.inr (by omega)⟩
  · have h6465 : r6460.toInt = 0 := congrArg Int32.toInt h6465
    clear hi6463
    refine g_iconst (v := 0) C dX12_away_14 (by decide) ?_
    exact ret _ _ _ _ _ _ dX12_away_15 rfl (by decide) (by decide) ⟨Iy6454, Xz6458, W6457, (by decide), Or.inl rfl⟩
theorem dX12_begins_0 : decode cX12_begins 0 = .ok (.aload_n 0, 1) := by decide +kernel
theorem dX12_begins_1 : decode cX12_begins 1 = .ok (.iconst 0, 1) := by decide +kernel
theorem dX12_begins_2 : decode cX12_begins 2 = .ok (.putfield 305, 3) := by decide +kernel
theorem dX12_begins_5 : decode cX12_begins 5 = .ok (.iconst 0, 1) := by decide +kernel
theorem dX12_begins_6 : decode cX12_begins 6 = .ok (.istore_n 2, 1) := by decide +kernel
theorem dX12_begins_7 : decode cX12_begins 7 = .ok (.iload_n 2, 1) := by decide +kernel
theorem dX12_begins_8 : decode cX12_begins 8 = .ok (.aload_n 0, 1) := by decide +kernel
theorem dX12_begins_9 : decode cX12_begins 9 = .ok (.getfield 60, 3) := by decide +kernel
theorem dX12_begins_12 : decode cX12_begins 12 = .ok (.iload_n 1, 1) := by decide +kernel
theorem dX12_begins_13 : decode cX12_begins 13 = .ok (.iaload, 1) := by decide +kernel
theorem dX12_begins_14 : decode cX12_begins 14 = .ok (.if_icmp .ge 36, 3) := by decide +kernel
theorem dX12_begins_17 : decode cX12_begins 17 = .ok (.aload_n 0, 1) := by decide +kernel
theorem dX12_begins_18 : decode cX12_begins 18 = .ok (.aload_n 0, 1) := by decide +kernel
theorem dX12_begins_19 : decode cX12_begins 19 = .ok (.getfield 63, 3) := by decide +kernel
theorem dX12_begins_22 : decode cX12_begins 22 = .ok (.iconst 4, 1) := by decide +kernel
theorem dX12_begins_23 : decode cX12_begins 23 = .ok (.iload_n 1, 1) := by decide +kernel
theorem dX12_begins_24 : decode cX12_begins 24 = .ok (.imul, 1) := by decide +kernel
theorem dX12_begins_25 : decode cX12_begins 25 = .ok (.iload_n 2, 1) := by decide +kernel
theorem dX12_begins_26 : decode cX12_begins 26 = .ok (.iadd, 1) := by decide +kernel
theorem dX12_begins_27 : decode cX12_begins 27 = .ok (.iaload, 1) := by decide +kernel
theorem dX12_begins_28 : decode cX12_begins 28 = .ok (.iconst 1, 1) := by decide +kernel
theorem dX12_begins_29 : decode cX12_begins 29 = .ok (.aload_n 0, 1) := by decide +kernel
theorem dX12_begins_30 : decode cX12_begins 30 = .ok (.getfield 45, 3) := by decide +kernel
theorem dX12_begins_33 : decode cX12_begins 33 = .ok (.iload_n 1, 1) := by decide +kernel
theorem dX12_begins_34 : decode cX12_begins 34 = .ok (.iaload, 1) := by decide +kernel
theorem dX12_begins_35 : decode cX12_begins 35 = .ok (.iload_n 2, 1) := by decide +kernel
theorem dX12_begins_36 : decode cX12_begins 36 = .ok (.iadd, 1) := by decide +kernel
theorem dX12_begins_37 : decode cX12_begins 37 = .ok (.ishl, 1) := by decide +kernel
theorem dX12_begins_38 : decode cX12_begins 38 = .ok (.ior, 1) := by decide +kernel
theorem dX12_begins_39 : decode cX12_begins 39 = .ok (.iconst 0, 1) := by decide +kernel
theorem dX12_begins_40 : decode cX12_begins 40 = .ok (.iconst (-1), 1) := by decide +kernel
theorem dX12_begins_41 : decode cX12_begins 41 = .ok (.invokevirtual 308, 3) := by decide +kernel
theorem dX12_begins_44 : decode cX12_begins 44 = .ok (.iinc 2 1, 3) := by decide +kernel
theorem dX12_begins_47 : decode cX12_begins 47 = .ok (.goto (-40), 3) := by decide +kernel
theorem dX12_begins_50 : decode cX12_begins 50 = .ok (.return_, 1) := by decide +kernel
set_option maxHeartbeats 4000000 in
set_option maxRecDepth 100000 in
theorem s_X12_begins {P : PP} {a0 : Nat} {a1 : Int32} (I : IM P a0) (ha1 : 0 ≤ a1.toInt ∧ a1.toInt ≤ 1) (hW : MW P a0) : CtrV yX12_begins cX12_begins 3 none ({ frames := 2, cells := 0, slots := 0, locals := 128 } : Room) 0 0 P [.ref a0, .int a1] (fun P2 => IM P2 a0 ∧ EM [28, 29, 30, 31] a0 P P2 ∧ MW P2 a0 ∧ ((pI P2 a0 28).toInt ≤ 4)) := by
  refine enV (lv := [(0, .ref a0), (1, .int a1)]) (by decide) (Nat.le_of_ble_eq_true rfl) rfl (fun E D cy C Ci0 ret => ?_)
  have ha0 := I.2.1
  have J7 : ∀ (n7 : Nat) (P7 : PP) (v7_2 : Int32), (4 - v7_2.toInt).toNat < n7 → (IM P7 a0) → (EM [28, 29, 30, 31] a0 P P7) → (MW P7 a0) → (0 ≤ v7_2.toInt ∧ v7_2.toInt ≤ 4) → (0 ≤ (pI P7 a0 28).toInt) → ((pI P7 a0 28).toInt ≤ v7_2.toInt) → G E ({ frames := 2, cells := 0, slots := 0, locals := 128 } : Room) D cy 3 P7 0 0 7 [(0, .ref a0), (1, .int a1), (2, .int v7_2)] [] := by
    intro n7
    induction n7 with
    | zero => intro P7 v7_2 hm7 I7 X7 W7 hv7_2 hq7_0 rel7_0; omega
    | succ n7 ih7 =>
      intro P7 v7_2 hm7 I7 X7 W7 hv7_2 hq7_0 rel7_0
      have h7842 := X7.at ha0
      refine g_iload_n C dX12_begins_7 rfl 2 rfl ?_
      refine g_aload_n C dX12_begins_8 rfl 0 rfl ?_
      obtain ⟨b7843, e7844, h7845⟩ := I7.fld (h7842) 15 13 3 rfl
      refine g_getR C fi_X12_60 rfl e7844 (h7842).1 (h7842).2 dX12_begins_9 ?_
      refine g_iload_n C dX12_begins_12 rfl 1 rfl ?_
      refine g_iald (j := (a1.toInt.toNat)) C h7845.1 h7845.2.1 (ix_in h7845.2.2 (by omega)) dX12_begins_13 ?_
      have h7846 := I7.arr e7844 rfl (a1.toInt.toNat)
      refine b_icmp_ge C 50 dX12_begins_14 (by decide) (fun h7847 => ?_) (fun h7847 => ?_)
      · have h7847 : (pI P7 b7843 (a1.toInt.toNat)).toInt ≤ v7_2.toInt := h7847
        exact ret _ _ _ _ _ dX12_begins_50 (by decide) (by decide) ⟨I7, X7, W7, (by show (pI P7 a0 28).toInt ≤ 4; omega)⟩
      · have h7847 : v7_2.toInt < (pI P7 b7843 (a1.toInt.toNat)).toInt := h7847
        refine g_aload_n C dX12_begins_17 rfl 0 rfl ?_
        refine g_aload_n C dX12_begins_18 rfl 0 rfl ?_
        obtain ⟨b7848, e7849, h7850⟩ := I7.fld (h7842) 16 13 12 rfl
        refine g_getR C fi_X12_63 rfl e7849 (h7842).1 (h7842).2 dX12_begins_19 ?_
        refine g_iconst (v := 4) C dX12_begins_22 (by decide) ?_
        refine g_iload_n C dX12_begins_23 rfl 1 rfl ?_
        refine s_imul C dX12_begins_24 (by show -2147483648 ≤ 4 * a1.toInt ∧ 4 * a1.toInt ≤ 2147483647; omega) (fun z7851 h7852 => ?_)
        have h7852 : z7851.toInt = 4 * a1.toInt := h7852
        refine g_iload_n C dX12_begins_25 rfl 2 rfl ?_
        refine s_iadd C dX12_begins_26 (by show -2147483648 ≤ z7851.toInt + v7_2.toInt ∧ z7851.toInt + v7_2.toInt ≤ 2147483647; omega) (fun z7853 h7854 => ?_)
        have h7854 : z7853.toInt = z7851.toInt + v7_2.toInt := h7854
        refine g_iald (j := (z7853.toInt.toNat)) C h7850.1 h7850.2.1 (ix_in h7850.2.2 (by omega)) dX12_begins_27 ?_
        refine g_iconst (v := 1) C dX12_begins_28 (by decide) ?_
        refine g_aload_n C dX12_begins_29 rfl 0 rfl ?_
        obtain ⟨b7855, e7856, h7857⟩ := I7.fld (h7842) 10 13 2 rfl
        refine g_getR C fi_X12_45 rfl e7856 (h7842).1 (h7842).2 dX12_begins_30 ?_
        refine g_iload_n C dX12_begins_33 rfl 1 rfl ?_
        refine g_iald (j := (a1.toInt.toNat)) C h7857.1 h7857.2.1 (ix_in h7857.2.2 (by omega)) dX12_begins_34 ?_
        have h7858 := I7.arr e7856 rfl (a1.toInt.toNat)
        refine g_iload_n C dX12_begins_35 rfl 2 rfl ?_
        refine s_iadd C dX12_begins_36 (by show -2147483648 ≤ (pI P7 b7855 (a1.toInt.toNat)).toInt + v7_2.toInt ∧ (pI P7 b7855 (a1.toInt.toNat)).toInt + v7_2.toInt ≤ 2147483647; omega) (fun z7859 h7860 => ?_)
        have h7860 : z7859.toInt = (pI P7 b7855 (a1.toInt.toNat)).toInt + v7_2.toInt := h7860
        refine a_ishl C dX12_begins_37 (fun z7861 => ?_)
        refine a_ior C dX12_begins_38 (fun z7863 => ?_)
        refine g_iconst (v := 0) C dX12_begins_39 (by decide) ?_
        refine g_iconst (v := (-1)) C dX12_begins_40 (by decide) ?_
        refine g_callVV (rest := []) C mv_X12_308 [.int z7863, .int 0, .int (-1)] (s_X12_adds I7 (by omega) W7) (h7842).1 (h7842).2 rfl rfl (by decide) (Nat.le_of_ble_eq_true rfl) (by decide) dX12_begins_41 (fun Y7866 h7867 => ?_)
        obtain ⟨Iy7868, Xy7869, W7870, p7871⟩ := h7867
        have p7871 : (pI Y7866 a0 28).toInt = (pI P7 a0 28).toInt + 1 := p7871
        have q7872 := Xy7869.keepA e7844 (by decide) rfl (a1.toInt.toNat)
        have q7873 := Xy7869.keepA e7856 (by decide) rfl (a1.toInt.toNat)
        have Xz7874 : EM [28, 29, 30, 31] a0 P Y7866 := EM.tr ha0 X7 (Xy7869.mono (by decide))
        have e7875 := Xy7869.ref h7842 (by decide) e7844
        have e7876 := Xy7869.ref h7842 (by decide) e7856
        have h7877 := Xy7869.at h7842
        have h7878 := Xy7869.ar h7845
        have h7879 := Xy7869.ar h7857
        have h7880 := Iy7868.rg h7877 28 rfl
        refine s_iinc (lv0 := [(0, .ref a0), (1, .int a1)]) (m := 1) C dX12_begins_44 2 rfl (by decide) rfl (by decide) (by omega) (fun z7881 h7882 => ?_)
        have h7882 : z7881.toInt = v7_2.toInt + 1 := h7882
        refine g_goto C 7 dX12_begins_47 (by decide) ?_
        refine g_lv (lv' := [(0, .ref a0), (1, .int a1), (2, .int z7881)]) [1, 2, 0] rfl ?_
        exact ih7 Y7866 z7881 (by omega) Iy7868 Xz7874 W7870 (by omega) (by omega) (by show (pI Y7866 a0 28).toInt ≤ z7881.toInt; omega)
  refine g_aload_n C dX12_begins_0 rfl 0 rfl ?_
  refine g_iconst (v := 0) C dX12_begins_1 (by decide) ?_
  refine g_putI C fi_X12_305 rfl (ha0).1 (ha0).2 dX12_begins_2 ?_
  refine gqW (ks := [28]) (I.setI (rgOk.of rfl (by decide))) (EM.setI I (by decide)) (fun Y7883 Iy7884 Xy7885 w7886 => ?_)
  have w7886 : (pI Y7883 a0 28).toInt = 0 := w7886
  have W7887 := hW.keep I Xy7885 (by decide) (by decide) (by decide)
  have Xz7888 : EM [28, 29, 30, 31] a0 P Y7883 := Xy7885.mono (by decide)
  have h7889 := Xy7885.at ha0
  refine g_iconst (v := 0) C dX12_begins_5 (by decide) ?_
  refine g_istore_n (lv' := [(2, .int 0), (0, .ref a0), (1, .int a1)]) C dX12_begins_6 rfl (by decide) rfl ?_
  refine g_lv (lv' := [(0, .ref a0), (1, .int a1), (2, .int 0)]) [1, 2, 0] rfl ?_
  exact J7 _ Y7883 0 (Nat.lt_succ_self _) Iy7884 Xz7888 W7887 (by decide) (by omega) (by show (pI Y7883 a0 28).toInt ≤ 0; omega)
theorem dX12_bits_0 : decode cX12_bits 0 = .ok (.iconst 0, 1) := by decide +kernel
theorem dX12_bits_1 : decode cX12_bits 1 = .ok (.istore_n 1, 1) := by decide +kernel
theorem dX12_bits_2 : decode cX12_bits 2 = .ok (.iconst 0, 1) := by decide +kernel
theorem dX12_bits_3 : decode cX12_bits 3 = .ok (.istore_n 2, 1) := by decide +kernel
theorem dX12_bits_4 : decode cX12_bits 4 = .ok (.iload_n 2, 1) := by decide +kernel
theorem dX12_bits_5 : decode cX12_bits 5 = .ok (.bipush 20, 2) := by decide +kernel
theorem dX12_bits_7 : decode cX12_bits 7 = .ok (.if_icmp .ge 17, 3) := by decide +kernel
theorem dX12_bits_10 : decode cX12_bits 10 = .ok (.iload_n 1, 1) := by decide +kernel
theorem dX12_bits_11 : decode cX12_bits 11 = .ok (.iload_n 0, 1) := by decide +kernel
theorem dX12_bits_12 : decode cX12_bits 12 = .ok (.iload_n 2, 1) := by decide +kernel
theorem dX12_bits_13 : decode cX12_bits 13 = .ok (.ishr, 1) := by decide +kernel
theorem dX12_bits_14 : decode cX12_bits 14 = .ok (.iconst 1, 1) := by decide +kernel
theorem dX12_bits_15 : decode cX12_bits 15 = .ok (.iand, 1) := by decide +kernel
theorem dX12_bits_16 : decode cX12_bits 16 = .ok (.iadd, 1) := by decide +kernel
theorem dX12_bits_17 : decode cX12_bits 17 = .ok (.istore_n 1, 1) := by decide +kernel
theorem dX12_bits_18 : decode cX12_bits 18 = .ok (.iinc 2 1, 3) := by decide +kernel
theorem dX12_bits_21 : decode cX12_bits 21 = .ok (.goto (-17), 3) := by decide +kernel
theorem dX12_bits_24 : decode cX12_bits 24 = .ok (.iload_n 1, 1) := by decide +kernel
theorem dX12_bits_25 : decode cX12_bits 25 = .ok (.ireturn, 1) := by decide +kernel
set_option maxHeartbeats 4000000 in
set_option maxRecDepth 100000 in
theorem s_X12_bits {P : PP} {a0 : Int32} (I : IV P) : CtrI yX12_bits cX12_bits 3 (some Jvm.ClassFile.FieldType.int) ({ frames := 1, cells := 0, slots := 0, locals := 64 } : Room) 0 0 P [.int a0] (fun r P2 => P = P2 ∧ (0 ≤ r.toInt ∧ r.toInt ≤ 20) ∧ (r.toInt = 0 ∨ a0.toInt ≠ 0)) := by
  refine enI (lv := [(0, .int a0)]) (by decide) (Nat.le_of_ble_eq_true rfl) rfl (fun E D cy C Ci0 ret => ?_)
  have J4 : ∀ (n4 : Nat) (v4_1 : Int32) (v4_2 : Int32), (20 - v4_2.toInt).toNat < n4 → (0 ≤ v4_1.toInt ∧ v4_1.toInt ≤ 20) → (0 ≤ v4_2.toInt ∧ v4_2.toInt ≤ 20) → (a0.toInt ≠ 0 ∨ v4_1.toInt = 0) → (v4_1.toInt ≤ v4_2.toInt) → G E ({ frames := 1, cells := 0, slots := 0, locals := 64 } : Room) D cy 3 P 0 0 4 [(0, .int a0), (1, .int v4_1), (2, .int v4_2)] [] := by
    intro n4
    induction n4 with
    | zero => intro v4_1 v4_2 hm4 hv4_1 hv4_2 rel4_0 rel4_1; omega
    | succ n4 ih4 =>
      intro v4_1 v4_2 hm4 hv4_1 hv4_2 rel4_0 rel4_1
      refine g_iload_n C dX12_bits_4 rfl 2 rfl ?_
      refine g_bipush (v := 20) C dX12_bits_5 (by decide) ?_
      refine b_icmp_ge C 24 dX12_bits_7 (by decide) (fun h8033 => ?_) (fun h8033 => ?_)
      · have h8033 : 20 ≤ v4_2.toInt := h8033
        refine g_iload_n C dX12_bits_24 rfl 1 rfl ?_
        exact ret _ _ _ _ _ _ dX12_bits_25 rfl (by decide) (by decide) ⟨rfl, (by omega), (by show v4_1.toInt = 0 ∨ a0.toInt ≠ 0; omega)⟩
      · have h8033 : v4_2.toInt < 20 := h8033
        refine g_iload_n C dX12_bits_10 rfl 1 rfl ?_
        refine g_iload_n C dX12_bits_11 rfl 0 rfl ?_
        refine g_iload_n C dX12_bits_12 rfl 2 rfl ?_
        refine g_ishr C dX12_bits_13 ?_
        refine g_topi (fun z8034 h8035 => ?_)
        refine g_iconst (v := 1) C dX12_bits_14 (by decide) ?_
        refine g_iand C dX12_bits_15 ?_
        refine g_topi (fun z8036 h8037 => ?_)
        have hb8038 := bit_of0 h8035 h8037 (by omega)
        have h8039 : 0 ≤ z8036.toInt ∧ z8036.toInt ≤ 1 := by rw [h8037]; exact i_and (by decide)
        refine s_iadd C dX12_bits_16 (by show -2147483648 ≤ v4_1.toInt + z8036.toInt ∧ v4_1.toInt + z8036.toInt ≤ 2147483647; omega) (fun z8040 h8041 => ?_)
        have h8041 : z8040.toInt = v4_1.toInt + z8036.toInt := h8041
        refine g_istore_n (lv' := [(1, .int z8040), (0, .int a0), (2, .int v4_2)]) C dX12_bits_17 rfl (by decide) rfl ?_
        refine s_iinc (lv0 := [(1, .int z8040), (0, .int a0)]) (m := 1) C dX12_bits_18 2 rfl (by decide) rfl (by decide) (by omega) (fun z8042 h8043 => ?_)
        have h8043 : z8042.toInt = v4_2.toInt + 1 := h8043
        refine g_goto C 4 dX12_bits_21 (by decide) ?_
        refine g_lv (lv' := [(0, .int a0), (1, .int z8040), (2, .int z8042)]) [2, 1, 0] rfl ?_
        exact ih4 z8040 z8042 (by omega) (by omega) (by omega) (by show a0.toInt ≠ 0 ∨ z8040.toInt = 0; omega) (by show z8040.toInt ≤ z8042.toInt; omega)
  refine g_iconst (v := 0) C dX12_bits_0 (by decide) ?_
  refine g_istore_n (lv' := [(1, .int 0), (0, .int a0)]) C dX12_bits_1 rfl (by decide) rfl ?_
  refine g_iconst (v := 0) C dX12_bits_2 (by decide) ?_
  refine g_istore_n (lv' := [(2, .int 0), (1, .int 0), (0, .int a0)]) C dX12_bits_3 rfl (by decide) rfl ?_
  refine g_lv (lv' := [(0, .int a0), (1, .int 0), (2, .int 0)]) [2, 1, 0] rfl ?_
  exact J4 _ 0 0 (Nat.lt_succ_self _) (by decide) (by decide) (by show a0.toInt ≠ 0 ∨ 0 = 0; omega) (by show 0 ≤ 0; omega)
theorem dX12_book_0 : decode cX12_book 0 = .ok (.aload_n 0, 1) := by decide +kernel
theorem dX12_book_1 : decode cX12_book 1 = .ok (.iconst 0, 1) := by decide +kernel
theorem dX12_book_2 : decode cX12_book 2 = .ok (.putfield 1, 3) := by decide +kernel
theorem dX12_book_5 : decode cX12_book 5 = .ok (.iload_n 1, 1) := by decide +kernel
theorem dX12_book_6 : decode cX12_book 6 = .ok (.iconst 0, 1) := by decide +kernel
theorem dX12_book_7 : decode cX12_book 7 = .ok (.iconst 1, 1) := by decide +kernel
theorem dX12_book_8 : decode cX12_book 8 = .ok (.invokestatic 178, 3) := by decide +kernel
theorem dX12_book_11 : decode cX12_book 11 = .ok (.ifCond .eq 13, 3) := by decide +kernel
theorem dX12_book_14 : decode cX12_book 14 = .ok (.iload_n 2, 1) := by decide +kernel
theorem dX12_book_15 : decode cX12_book 15 = .ok (.iconst 1, 1) := by decide +kernel
theorem dX12_book_16 : decode cX12_book 16 = .ok (.bipush 16, 2) := by decide +kernel
theorem dX12_book_18 : decode cX12_book 18 = .ok (.invokestatic 178, 3) := by decide +kernel
theorem dX12_book_21 : decode cX12_book 21 = .ok (.ifCond .ne 5, 3) := by decide +kernel
theorem dX12_book_24 : decode cX12_book 24 = .ok (.iconst 0, 1) := by decide +kernel
theorem dX12_book_25 : decode cX12_book 25 = .ok (.ireturn, 1) := by decide +kernel
theorem dX12_book_26 : decode cX12_book 26 = .ok (.aload_n 0, 1) := by decide +kernel
theorem dX12_book_27 : decode cX12_book 27 = .ok (.getfield 45, 3) := by decide +kernel
theorem dX12_book_30 : decode cX12_book 30 = .ok (.iload_n 1, 1) := by decide +kernel
theorem dX12_book_31 : decode cX12_book 31 = .ok (.iload_n 2, 1) := by decide +kernel
theorem dX12_book_32 : decode cX12_book 32 = .ok (.iastore, 1) := by decide +kernel
theorem dX12_book_33 : decode cX12_book 33 = .ok (.iconst 0, 1) := by decide +kernel
theorem dX12_book_34 : decode cX12_book 34 = .ok (.istore_n 3, 1) := by decide +kernel
theorem dX12_book_35 : decode cX12_book 35 = .ok (.iload_n 3, 1) := by decide +kernel
theorem dX12_book_36 : decode cX12_book 36 = .ok (.bipush 16, 2) := by decide +kernel
theorem dX12_book_38 : decode cX12_book 38 = .ok (.if_icmp .ge 21, 3) := by decide +kernel
theorem dX12_book_41 : decode cX12_book 41 = .ok (.aload_n 0, 1) := by decide +kernel
theorem dX12_book_42 : decode cX12_book 42 = .ok (.getfield 48, 3) := by decide +kernel
theorem dX12_book_45 : decode cX12_book 45 = .ok (.bipush 16, 2) := by decide +kernel
theorem dX12_book_47 : decode cX12_book 47 = .ok (.iload_n 1, 1) := by decide +kernel
theorem dX12_book_48 : decode cX12_book 48 = .ok (.imul, 1) := by decide +kernel
theorem dX12_book_49 : decode cX12_book 49 = .ok (.iload_n 3, 1) := by decide +kernel
theorem dX12_book_50 : decode cX12_book 50 = .ok (.iadd, 1) := by decide +kernel
theorem dX12_book_51 : decode cX12_book 51 = .ok (.iconst 0, 1) := by decide +kernel
theorem dX12_book_52 : decode cX12_book 52 = .ok (.iastore, 1) := by decide +kernel
theorem dX12_book_53 : decode cX12_book 53 = .ok (.iinc 3 1, 3) := by decide +kernel
theorem dX12_book_56 : decode cX12_book 56 = .ok (.goto (-21), 3) := by decide +kernel
theorem dX12_book_59 : decode cX12_book 59 = .ok (.aload_n 0, 1) := by decide +kernel
theorem dX12_book_60 : decode cX12_book 60 = .ok (.iload_n 1, 1) := by decide +kernel
theorem dX12_book_61 : decode cX12_book 61 = .ok (.invokevirtual 182, 3) := by decide +kernel
theorem dX12_forgetsDraw_0 : decode cX12_forgetsDraw 0 = .ok (.iconst 0, 1) := by decide +kernel
theorem dX12_forgetsDraw_1 : decode cX12_forgetsDraw 1 = .ok (.istore_n 2, 1) := by decide +kernel
theorem dX12_forgetsDraw_2 : decode cX12_forgetsDraw 2 = .ok (.iload_n 2, 1) := by decide +kernel
theorem dX12_forgetsDraw_3 : decode cX12_forgetsDraw 3 = .ok (.bipush 21, 2) := by decide +kernel
theorem dX12_forgetsDraw_5 : decode cX12_forgetsDraw 5 = .ok (.if_icmp .ge 21, 3) := by decide +kernel
theorem dX12_forgetsDraw_8 : decode cX12_forgetsDraw 8 = .ok (.aload_n 0, 1) := by decide +kernel
theorem dX12_forgetsDraw_9 : decode cX12_forgetsDraw 9 = .ok (.getfield 51, 3) := by decide +kernel
theorem dX12_forgetsDraw_12 : decode cX12_forgetsDraw 12 = .ok (.bipush 21, 2) := by decide +kernel
theorem dX12_forgetsDraw_14 : decode cX12_forgetsDraw 14 = .ok (.iload_n 1, 1) := by decide +kernel
theorem dX12_forgetsDraw_15 : decode cX12_forgetsDraw 15 = .ok (.imul, 1) := by decide +kernel
theorem dX12_forgetsDraw_16 : decode cX12_forgetsDraw 16 = .ok (.iload_n 2, 1) := by decide +kernel
theorem dX12_forgetsDraw_17 : decode cX12_forgetsDraw 17 = .ok (.iadd, 1) := by decide +kernel
theorem dX12_forgetsDraw_18 : decode cX12_forgetsDraw 18 = .ok (.iconst (-1), 1) := by decide +kernel
theorem dX12_forgetsDraw_19 : decode cX12_forgetsDraw 19 = .ok (.iastore, 1) := by decide +kernel
theorem dX12_forgetsDraw_20 : decode cX12_forgetsDraw 20 = .ok (.iinc 2 1, 3) := by decide +kernel
theorem dX12_forgetsDraw_23 : decode cX12_forgetsDraw 23 = .ok (.goto (-21), 3) := by decide +kernel
theorem dX12_forgetsDraw_26 : decode cX12_forgetsDraw 26 = .ok (.aload_n 0, 1) := by decide +kernel
theorem dX12_forgetsDraw_27 : decode cX12_forgetsDraw 27 = .ok (.getfield 54, 3) := by decide +kernel
theorem dX12_forgetsDraw_30 : decode cX12_forgetsDraw 30 = .ok (.iload_n 1, 1) := by decide +kernel
theorem dX12_forgetsDraw_31 : decode cX12_forgetsDraw 31 = .ok (.iconst 0, 1) := by decide +kernel
theorem dX12_forgetsDraw_32 : decode cX12_forgetsDraw 32 = .ok (.iastore, 1) := by decide +kernel
theorem dX12_forgetsDraw_33 : decode cX12_forgetsDraw 33 = .ok (.aload_n 0, 1) := by decide +kernel
theorem dX12_forgetsDraw_34 : decode cX12_forgetsDraw 34 = .ok (.getfield 57, 3) := by decide +kernel
theorem dX12_forgetsDraw_37 : decode cX12_forgetsDraw 37 = .ok (.iload_n 1, 1) := by decide +kernel
theorem dX12_forgetsDraw_38 : decode cX12_forgetsDraw 38 = .ok (.iconst 1, 1) := by decide +kernel
theorem dX12_forgetsDraw_39 : decode cX12_forgetsDraw 39 = .ok (.iastore, 1) := by decide +kernel
theorem dX12_forgetsDraw_40 : decode cX12_forgetsDraw 40 = .ok (.aload_n 0, 1) := by decide +kernel
theorem dX12_forgetsDraw_41 : decode cX12_forgetsDraw 41 = .ok (.getfield 60, 3) := by decide +kernel
theorem dX12_forgetsDraw_44 : decode cX12_forgetsDraw 44 = .ok (.iload_n 1, 1) := by decide +kernel
theorem dX12_forgetsDraw_45 : decode cX12_forgetsDraw 45 = .ok (.iconst 0, 1) := by decide +kernel
theorem dX12_forgetsDraw_46 : decode cX12_forgetsDraw 46 = .ok (.iastore, 1) := by decide +kernel
theorem dX12_forgetsDraw_47 : decode cX12_forgetsDraw 47 = .ok (.aload_n 0, 1) := by decide +kernel
theorem dX12_forgetsDraw_48 : decode cX12_forgetsDraw 48 = .ok (.getfield 66, 3) := by decide +kernel
theorem dX12_forgetsDraw_51 : decode cX12_forgetsDraw 51 = .ok (.iload_n 1, 1) := by decide +kernel
theorem dX12_forgetsDraw_52 : decode cX12_forgetsDraw 52 = .ok (.iconst 0, 1) := by decide +kernel
theorem dX12_forgetsDraw_53 : decode cX12_forgetsDraw 53 = .ok (.iastore, 1) := by decide +kernel
theorem dX12_forgetsDraw_54 : decode cX12_forgetsDraw 54 = .ok (.return_, 1) := by decide +kernel
set_option maxHeartbeats 4000000 in
set_option maxRecDepth 100000 in
theorem s_X12_forgetsDrawx {P : PP} {a0 : Nat} {a1 : Int32} (I : IM P a0) (ha1 : 0 ≤ a1.toInt ∧ a1.toInt ≤ 2) (hW : MX P a0 (a1.toInt.toNat)) : CtrV yX12_forgetsDraw cX12_forgetsDraw 3 none ({ frames := 1, cells := 0, slots := 0, locals := 64 } : Room) 0 0 P [.ref a0, .int a1] (fun P2 => IM P2 a0 ∧ EM [12, 13, 14, 15, 17] a0 P P2 ∧ MX P2 a0 (a1.toInt.toNat) ∧ (∀ b, pR P a0 14 = some b → (pI P2 b (a1.toInt.toNat)).toInt = 1)) := by
  refine enV (lv := [(0, .ref a0), (1, .int a1)]) (by decide) (Nat.le_of_ble_eq_true rfl) rfl (fun E D cy C Ci0 ret => ?_)
  have ha0 := I.2.1
  have J2 : ∀ (n2 : Nat) (P2 : PP) (v2_2 : Int32), (21 - v2_2.toInt).toNat < n2 → (IM P2 a0) → (EM [12, 13, 14, 15, 17] a0 P P2) → (MX P2 a0 (a1.toInt.toNat)) → (0 ≤ v2_2.toInt ∧ v2_2.toInt ≤ 21) → G E ({ frames := 1, cells := 0, slots := 0, locals := 64 } : Room) D cy 3 P2 0 0 2 [(0, .ref a0), (1, .int a1), (2, .int v2_2)] [] := by
    intro n2
    induction n2 with
    | zero => intro P2 v2_2 hm2 I2 X2 W2 hv2_2; omega
    | succ n2 ih2 =>
      intro P2 v2_2 hm2 I2 X2 W2 hv2_2
      have h8695 := X2.at ha0
      refine g_iload_n C dX12_forgetsDraw_2 rfl 2 rfl ?_
      refine g_bipush (v := 21) C dX12_forgetsDraw_3 (by decide) ?_
      refine b_icmp_ge C 26 dX12_forgetsDraw_5 (by decide) (fun h8696 => ?_) (fun h8696 => ?_)
      · have h8696 : 21 ≤ v2_2.toInt := h8696
        refine g_aload_n C dX12_forgetsDraw_26 rfl 0 rfl ?_
        obtain ⟨b8697, e8698, h8699⟩ := I2.fld (h8695) 13 13 3 rfl
        refine g_getR C fi_X12_54 rfl e8698 (h8695).1 (h8695).2 dX12_forgetsDraw_27 ?_
        refine g_iload_n C dX12_forgetsDraw_30 rfl 1 rfl ?_
        refine g_iconst (v := 0) C dX12_forgetsDraw_31 (by decide) ?_
        refine g_iast (j := (a1.toInt.toNat)) C h8699.1 h8699.2.1 (ix_in h8699.2.2 (by omega)) dX12_forgetsDraw_32 ?_
        refine gqW (ks := [13]) (I2.setA e8698 h8699 (by decide) (arOk.none rfl)) (EM.setA I2 e8698 rfl (by decide)) (fun Y8700 Iy8701 Xy8702 w8703 => ?_)
        have w8703 : (pI Y8700 b8697 (a1.toInt.toNat)).toInt = 0 := w8703
        have W8704 := W2.keep I2 Xy8702 (by decide) (by decide) (by decide)
        have Xz8705 : EM [12, 13, 14, 15, 17] a0 P Y8700 := EM.tr ha0 X2 (Xy8702.mono (by decide))
        have e8706 := Xy8702.ref h8695 (by decide) e8698
        have h8707 := Xy8702.at h8695
        have h8708 := Xy8702.ar h8699
        refine g_aload_n C dX12_forgetsDraw_33 rfl 0 rfl ?_
        obtain ⟨b8709, e8710, h8711⟩ := Iy8701.fld (h8707) 14 13 3 rfl
        refine g_getR C fi_X12_57 rfl e8710 (h8707).1 (h8707).2 dX12_forgetsDraw_34 ?_
        refine g_iload_n C dX12_forgetsDraw_37 rfl 1 rfl ?_
        refine g_iconst (v := 1) C dX12_forgetsDraw_38 (by decide) ?_
        refine g_iast (j := (a1.toInt.toNat)) C h8711.1 h8711.2.1 (ix_in h8711.2.2 (by omega)) dX12_forgetsDraw_39 ?_
        refine gqX (ks := [14]) (W := (fun P => MX P a0 (a1.toInt.toNat))) (Iy8701.setA e8710 h8711 (by decide) (arOk.of rfl (by decide))) (EM.setA Iy8701 e8710 rfl (by decide)) (W8704.set14 Iy8701 e8710 rfl) (fun Y8712 Iy8713 Xy8714 w8715 W8716 => ?_)
        have w8715 : (pI Y8712 b8709 (a1.toInt.toNat)).toInt = 1 := w8715
        have q8717 := Xy8714.keepA e8706 (by decide) rfl (a1.toInt.toNat)
        have Xz8718 : EM [12, 13, 14, 15, 17] a0 P Y8712 := EM.tr ha0 Xz8705 (Xy8714.mono (by decide))
        have e8719 := Xy8714.ref h8707 (by decide) e8706
        have e8720 := Xy8714.ref h8707 (by decide) e8710
        have h8721 := Xy8714.at h8707
        have h8722 := Xy8714.ar h8708
        have h8723 := Xy8714.ar h8711
        refine g_aload_n C dX12_forgetsDraw_40 rfl 0 rfl ?_
        obtain ⟨b8724, e8725, h8726⟩ := Iy8713.fld (h8721) 15 13 3 rfl
        refine g_getR C fi_X12_60 rfl e8725 (h8721).1 (h8721).2 dX12_forgetsDraw_41 ?_
        refine g_iload_n C dX12_forgetsDraw_44 rfl 1 rfl ?_
        refine g_iconst (v := 0) C dX12_forgetsDraw_45 (by decide) ?_
        refine g_iast (j := (a1.toInt.toNat)) C h8726.1 h8726.2.1 (ix_in h8726.2.2 (by omega)) dX12_forgetsDraw_46 ?_
        refine gqW (ks := [15]) (Iy8713.setA e8725 h8726 (by decide) (arOk.of rfl (by decide))) (EM.setA Iy8713 e8725 rfl (by decide)) (fun Y8727 Iy8728 Xy8729 w8730 => ?_)
        have w8730 : (pI Y8727 b8724 (a1.toInt.toNat)).toInt = 0 := w8730
        have q8731 := Xy8729.keepA e8719 (by decide) rfl (a1.toInt.toNat)
        have q8732 := Xy8729.keepA e8720 (by decide) rfl (a1.toInt.toNat)
        have W8733 := W8716.keep Iy8713 Xy8729 (by decide) (by decide) (by decide)
        have Xz8734 : EM [12, 13, 14, 15, 17] a0 P Y8727 := EM.tr ha0 Xz8718 (Xy8729.mono (by decide))
        have e8735 := Xy8729.ref h8721 (by decide) e8719
        have e8736 := Xy8729.ref h8721 (by decide) e8720
        have e8737 := Xy8729.ref h8721 (by decide) e8725
        have h8738 := Xy8729.at h8721
        have h8739 := Xy8729.ar h8722
        have h8740 := Xy8729.ar h8723
        have h8741 := Xy8729.ar h8726
        refine g_aload_n C dX12_forgetsDraw_47 rfl 0 rfl ?_
        obtain ⟨b8742, e8743, h8744⟩ := Iy8728.fld (h8738) 17 13 3 rfl
        refine g_getR C fi_X12_66 rfl e8743 (h8738).1 (h8738).2 dX12_forgetsDraw_48 ?_
        refine g_iload_n C dX12_forgetsDraw_51 rfl 1 rfl ?_
        refine g_iconst (v := 0) C dX12_forgetsDraw_52 (by decide) ?_
        refine g_iast (j := (a1.toInt.toNat)) C h8744.1 h8744.2.1 (ix_in h8744.2.2 (by omega)) dX12_forgetsDraw_53 ?_
        refine gqW (ks := [17]) (Iy8728.setA e8743 h8744 (by decide) (arOk.none rfl)) (EM.setA Iy8728 e8743 rfl (by decide)) (fun Y8745 Iy8746 Xy8747 w8748 => ?_)
        have w8748 : (pI Y8745 b8742 (a1.toInt.toNat)).toInt = 0 := w8748
        have q8749 := Xy8747.keepA e8735 (by decide) rfl (a1.toInt.toNat)
        have q8750 := Xy8747.keepA e8736 (by decide) rfl (a1.toInt.toNat)
        have q8751 := Xy8747.keepA e8737 (by decide) rfl (a1.toInt.toNat)
        have W8752 := W8733.keep Iy8728 Xy8747 (by decide) (by decide) (by decide)
        have Xz8753 : EM [12, 13, 14, 15, 17] a0 P Y8745 := EM.tr ha0 Xz8734 (Xy8747.mono (by decide))
        have e8754 := Xy8747.ref h8738 (by decide) e8735
        have e8755 := Xy8747.ref h8738 (by decide) e8736
        have e8756 := Xy8747.ref h8738 (by decide) e8737
        have e8757 := Xy8747.ref h8738 (by decide) e8743
        have h8758 := Xy8747.at h8738
        have h8759 := Xy8747.ar h8739
        have h8760 := Xy8747.ar h8740
        have h8761 := Xy8747.ar h8741
        have h8762 := Xy8747.ar h8744
        exact ret _ _ _ _ _ dX12_forgetsDraw_54 (by decide) (by decide) ⟨Iy8746, Xz8753, W8752, (fun b9 e9 => by have e8 := EM.ref Xz8753 ha0 (by decide) e9; rw [e8755] at e8; cases e8; show (pI Y8745 b8709 (a1.toInt.toNat)).toInt = 1; omega)⟩
      · have h8696 : v2_2.toInt < 21 := h8696
        refine g_aload_n C dX12_forgetsDraw_8 rfl 0 rfl ?_
        obtain ⟨b8763, e8764, h8765⟩ := I2.fld (h8695) 12 13 63 rfl
        refine g_getR C fi_X12_51 rfl e8764 (h8695).1 (h8695).2 dX12_forgetsDraw_9 ?_
        refine g_bipush (v := 21) C dX12_forgetsDraw_12 (by decide) ?_
        refine g_iload_n C dX12_forgetsDraw_14 rfl 1 rfl ?_
        refine s_imul C dX12_forgetsDraw_15 (by show -2147483648 ≤ 21 * a1.toInt ∧ 21 * a1.toInt ≤ 2147483647; omega) (fun z8766 h8767 => ?_)
        have h8767 : z8766.toInt = 21 * a1.toInt := h8767
        refine g_iload_n C dX12_forgetsDraw_16 rfl 2 rfl ?_
        refine s_iadd C dX12_forgetsDraw_17 (by show -2147483648 ≤ z8766.toInt + v2_2.toInt ∧ z8766.toInt + v2_2.toInt ≤ 2147483647; omega) (fun z8768 h8769 => ?_)
        have h8769 : z8768.toInt = z8766.toInt + v2_2.toInt := h8769
        refine g_iconst (v := (-1)) C dX12_forgetsDraw_18 (by decide) ?_
        refine g_iast (j := (z8768.toInt.toNat)) C h8765.1 h8765.2.1 (ix_in h8765.2.2 (by omega)) dX12_forgetsDraw_19 ?_
        refine gqW (ks := [12]) (I2.setA e8764 h8765 (by decide) (arOk.none rfl)) (EM.setA I2 e8764 rfl (by decide)) (fun Y8770 Iy8771 Xy8772 w8773 => ?_)
        have w8773 : (pI Y8770 b8763 (z8768.toInt.toNat)).toInt = (-1) := w8773
        have W8774 := W2.keep I2 Xy8772 (by decide) (by decide) (by decide)
        have Xz8775 : EM [12, 13, 14, 15, 17] a0 P Y8770 := EM.tr ha0 X2 (Xy8772.mono (by decide))
        have e8776 := Xy8772.ref h8695 (by decide) e8764
        have h8777 := Xy8772.at h8695
        have h8778 := Xy8772.ar h8765
        refine s_iinc (lv0 := [(0, .ref a0), (1, .int a1)]) (m := 1) C dX12_forgetsDraw_20 2 rfl (by decide) rfl (by decide) (by omega) (fun z8779 h8780 => ?_)
        have h8780 : z8779.toInt = v2_2.toInt + 1 := h8780
        refine g_goto C 2 dX12_forgetsDraw_23 (by decide) ?_
        refine g_lv (lv' := [(0, .ref a0), (1, .int a1), (2, .int z8779)]) [1, 2, 0] rfl ?_
        exact ih2 Y8770 z8779 (by omega) Iy8771 Xz8775 W8774 (by omega)
  refine g_iconst (v := 0) C dX12_forgetsDraw_0 (by decide) ?_
  refine g_istore_n (lv' := [(2, .int 0), (0, .ref a0), (1, .int a1)]) C dX12_forgetsDraw_1 rfl (by decide) rfl ?_
  refine g_lv (lv' := [(0, .ref a0), (1, .int a1), (2, .int 0)]) [1, 2, 0] rfl ?_
  exact J2 _ P 0 (Nat.lt_succ_self _) I EM.rf hW (by decide)
theorem dX12_book_64 : decode cX12_book 64 = .ok (.iconst 0, 1) := by decide +kernel
theorem dX12_book_65 : decode cX12_book 65 = .ok (.istore_n 3, 1) := by decide +kernel
theorem dX12_book_66 : decode cX12_book 66 = .ok (.iload_n 3, 1) := by decide +kernel
theorem dX12_book_67 : decode cX12_book 67 = .ok (.iconst 4, 1) := by decide +kernel
theorem dX12_book_68 : decode cX12_book 68 = .ok (.if_icmp .ge 68, 3) := by decide +kernel
theorem dX12_book_71 : decode cX12_book 71 = .ok (.aload_n 0, 1) := by decide +kernel
theorem dX12_book_72 : decode cX12_book 72 = .ok (.getfield 69, 3) := by decide +kernel
theorem dX12_book_75 : decode cX12_book 75 = .ok (.iload_n 3, 1) := by decide +kernel
theorem dX12_book_76 : decode cX12_book 76 = .ok (.iaload, 1) := by decide +kernel
theorem dX12_book_77 : decode cX12_book 77 = .ok (.iconst 1, 1) := by decide +kernel
theorem dX12_book_78 : decode cX12_book 78 = .ok (.isub, 1) := by decide +kernel
theorem dX12_book_79 : decode cX12_book 79 = .ok (.istore 4, 2) := by decide +kernel
theorem dX12_book_81 : decode cX12_book 81 = .ok (.iload 4, 2) := by decide +kernel
theorem dX12_book_83 : decode cX12_book 83 = .ok (.ifCond .lt 47, 3) := by decide +kernel
theorem dX12_book_86 : decode cX12_book 86 = .ok (.aload_n 0, 1) := by decide +kernel
theorem dX12_book_87 : decode cX12_book 87 = .ok (.getfield 75, 3) := by decide +kernel
theorem dX12_book_90 : decode cX12_book 90 = .ok (.bipush 40, 2) := by decide +kernel
theorem dX12_book_92 : decode cX12_book 92 = .ok (.iload_n 3, 1) := by decide +kernel
theorem dX12_book_93 : decode cX12_book 93 = .ok (.imul, 1) := by decide +kernel
theorem dX12_book_94 : decode cX12_book 94 = .ok (.iload 4, 2) := by decide +kernel
theorem dX12_book_96 : decode cX12_book 96 = .ok (.iadd, 1) := by decide +kernel
theorem dX12_book_97 : decode cX12_book 97 = .ok (.iaload, 1) := by decide +kernel
theorem dX12_book_98 : decode cX12_book 98 = .ok (.iload_n 1, 1) := by decide +kernel
theorem dX12_book_99 : decode cX12_book 99 = .ok (.if_icmp .eq 18, 3) := by decide +kernel
theorem dX12_book_102 : decode cX12_book 102 = .ok (.aload_n 0, 1) := by decide +kernel
theorem dX12_book_103 : decode cX12_book 103 = .ok (.getfield 75, 3) := by decide +kernel
theorem dX12_book_106 : decode cX12_book 106 = .ok (.bipush 40, 2) := by decide +kernel
theorem dX12_book_108 : decode cX12_book 108 = .ok (.iload_n 3, 1) := by decide +kernel
theorem dX12_book_109 : decode cX12_book 109 = .ok (.imul, 1) := by decide +kernel
theorem dX12_book_110 : decode cX12_book 110 = .ok (.iload 4, 2) := by decide +kernel
theorem dX12_book_112 : decode cX12_book 112 = .ok (.iadd, 1) := by decide +kernel
theorem dX12_book_113 : decode cX12_book 113 = .ok (.iaload, 1) := by decide +kernel
theorem dX12_book_114 : decode cX12_book 114 = .ok (.ifCond .ge 10, 3) := by decide +kernel
theorem dX12_book_117 : decode cX12_book 117 = .ok (.aload_n 0, 1) := by decide +kernel
theorem dX12_book_118 : decode cX12_book 118 = .ok (.iload_n 3, 1) := by decide +kernel
theorem dX12_book_119 : decode cX12_book 119 = .ok (.iload 4, 2) := by decide +kernel
theorem dX12_book_121 : decode cX12_book 121 = .ok (.invokevirtual 185, 3) := by decide +kernel
theorem dX12_book_124 : decode cX12_book 124 = .ok (.iinc 4 (-1), 3) := by decide +kernel
theorem dX12_book_127 : decode cX12_book 127 = .ok (.goto (-46), 3) := by decide +kernel
theorem dX12_book_130 : decode cX12_book 130 = .ok (.iinc 3 1, 3) := by decide +kernel
theorem dX12_book_133 : decode cX12_book 133 = .ok (.goto (-67), 3) := by decide +kernel
theorem dX12_book_136 : decode cX12_book 136 = .ok (.aload_n 0, 1) := by decide +kernel
theorem dX12_book_137 : decode cX12_book 137 = .ok (.invokevirtual 189, 3) := by decide +kernel
theorem dX12_forgetsMarks_0 : decode cX12_forgetsMarks 0 = .ok (.iconst 0, 1) := by decide +kernel
theorem dX12_forgetsMarks_1 : decode cX12_forgetsMarks 1 = .ok (.istore_n 1, 1) := by decide +kernel
theorem dX12_forgetsMarks_2 : decode cX12_forgetsMarks 2 = .ok (.iload_n 1, 1) := by decide +kernel
theorem dX12_forgetsMarks_3 : decode cX12_forgetsMarks 3 = .ok (.iconst 4, 1) := by decide +kernel
theorem dX12_forgetsMarks_4 : decode cX12_forgetsMarks 4 = .ok (.if_icmp .ge 16, 3) := by decide +kernel
theorem dX12_forgetsMarks_7 : decode cX12_forgetsMarks 7 = .ok (.aload_n 0, 1) := by decide +kernel
theorem dX12_forgetsMarks_8 : decode cX12_forgetsMarks 8 = .ok (.getfield 87, 3) := by decide +kernel
theorem dX12_forgetsMarks_11 : decode cX12_forgetsMarks 11 = .ok (.iload_n 1, 1) := by decide +kernel
theorem dX12_forgetsMarks_12 : decode cX12_forgetsMarks 12 = .ok (.iconst 0, 1) := by decide +kernel
theorem dX12_forgetsMarks_13 : decode cX12_forgetsMarks 13 = .ok (.bastore, 1) := by decide +kernel
theorem dX12_forgetsMarks_14 : decode cX12_forgetsMarks 14 = .ok (.iinc 1 1, 3) := by decide +kernel
theorem dX12_forgetsMarks_17 : decode cX12_forgetsMarks 17 = .ok (.goto (-15), 3) := by decide +kernel
theorem dX12_forgetsMarks_20 : decode cX12_forgetsMarks 20 = .ok (.return_, 1) := by decide +kernel
set_option maxHeartbeats 4000000 in
set_option maxRecDepth 100000 in
theorem s_X12_forgetsMarks {P : PP} {a0 : Nat} (I : IM P a0) (hW : MW P a0) : CtrV yX12_forgetsMarks cX12_forgetsMarks 2 none ({ frames := 1, cells := 0, slots := 0, locals := 64 } : Room) 0 0 P [.ref a0] (fun P2 => IM P2 a0 ∧ EM [26] a0 P P2 ∧ MW P2 a0) := by
  refine enV (lv := [(0, .ref a0)]) (by decide) (Nat.le_of_ble_eq_true rfl) rfl (fun E D cy C Ci0 ret => ?_)
  have ha0 := I.2.1
  have J2 : ∀ (n2 : Nat) (P2 : PP) (v2_1 : Int32), (4 - v2_1.toInt).toNat < n2 → (IM P2 a0) → (EM [26] a0 P P2) → (MW P2 a0) → (0 ≤ v2_1.toInt ∧ v2_1.toInt ≤ 4) → G E ({ frames := 1, cells := 0, slots := 0, locals := 64 } : Room) D cy 2 P2 0 0 2 [(0, .ref a0), (1, .int v2_1)] [] := by
    intro n2
    induction n2 with
    | zero => intro P2 v2_1 hm2 I2 X2 W2 hv2_1; omega
    | succ n2 ih2 =>
      intro P2 v2_1 hm2 I2 X2 W2 hv2_1
      have h9460 := X2.at ha0
      refine g_iload_n C dX12_forgetsMarks_2 rfl 1 rfl ?_
      refine g_iconst (v := 4) C dX12_forgetsMarks_3 (by decide) ?_
      refine b_icmp_ge C 20 dX12_forgetsMarks_4 (by decide) (fun h9461 => ?_) (fun h9461 => ?_)
      · have h9461 : 4 ≤ v2_1.toInt := h9461
        exact ret _ _ _ _ _ dX12_forgetsMarks_20 (by decide) (by decide) ⟨I2, X2, W2⟩
      · have h9461 : v2_1.toInt < 4 := h9461
        refine g_aload_n C dX12_forgetsMarks_7 rfl 0 rfl ?_
        obtain ⟨b9462, e9463, h9464⟩ := I2.fld (h9460) 26 15 4 rfl
        refine g_getR C fi_X12_87 rfl e9463 (h9460).1 (h9460).2 dX12_forgetsMarks_8 ?_
        refine g_iload_n C dX12_forgetsMarks_11 rfl 1 rfl ?_
        refine g_iconst (v := 0) C dX12_forgetsMarks_12 (by decide) ?_
        refine g_zast (j := (v2_1.toInt.toNat)) C h9464.1 h9464.2.1 (ix_in h9464.2.2 (by omega)) (Or.inl rfl) dX12_forgetsMarks_13 ?_
        refine gqW (ks := [26]) (I2.setA e9463 h9464 (by decide) (arOk.none rfl)) (EM.setA I2 e9463 rfl (by decide)) (fun Y9465 Iy9466 Xy9467 w9468 => ?_)
        have w9468 : (pI Y9465 b9462 (v2_1.toInt.toNat)).toInt = 0 := w9468
        have W9469 := W2.keep I2 Xy9467 (by decide) (by decide) (by decide)
        have Xz9470 : EM [26] a0 P Y9465 := EM.tr ha0 X2 (Xy9467.mono (by decide))
        have e9471 := Xy9467.ref h9460 (by decide) e9463
        have h9472 := Xy9467.at h9460
        have h9473 := Xy9467.ar h9464
        refine s_iinc (lv0 := [(0, .ref a0)]) (m := 1) C dX12_forgetsMarks_14 1 rfl (by decide) rfl (by decide) (by omega) (fun z9474 h9475 => ?_)
        have h9475 : z9474.toInt = v2_1.toInt + 1 := h9475
        refine g_goto C 2 dX12_forgetsMarks_17 (by decide) ?_
        refine g_lv (lv' := [(0, .ref a0), (1, .int z9474)]) [1, 0] rfl ?_
        exact ih2 Y9465 z9474 (by omega) Iy9466 Xz9470 W9469 (by omega)
  refine g_iconst (v := 0) C dX12_forgetsMarks_0 (by decide) ?_
  refine g_istore_n (lv' := [(1, .int 0), (0, .ref a0)]) C dX12_forgetsMarks_1 rfl (by decide) rfl ?_
  refine g_lv (lv' := [(0, .ref a0), (1, .int 0)]) [1, 0] rfl ?_
  exact J2 _ P 0 (Nat.lt_succ_self _) I EM.rf hW (by decide)
theorem dX12_book_140 : decode cX12_book 140 = .ok (.iconst 1, 1) := by decide +kernel
theorem dX12_book_141 : decode cX12_book 141 = .ok (.ireturn, 1) := by decide +kernel
set_option maxHeartbeats 4000000 in
set_option maxRecDepth 100000 in
theorem s_X12_book {P : PP} {a0 : Nat} {a1 : Int32} {a2 : Int32} (I : IM P a0) (hW : MW P a0) : CtrI yX12_book cX12_book 5 (some Jvm.ClassFile.FieldType.boolean) ({ frames := 3, cells := 0, slots := 0, locals := 192 } : Room) 0 0 P [.ref a0, .int a1, .int a2] (fun r P2 => IM P2 a0 ∧ EM [0, 10, 11, 12, 13, 14, 15, 17, 20, 21, 22, 23, 24, 25, 26] a0 P P2 ∧ MW P2 a0 ∧ (0 ≤ r.toInt ∧ r.toInt ≤ 1) ∧ (r.toInt = 0 ∨ (((0 : Int) ≤ a1.toInt ∧ a1.toInt ≤ (1 : Int))))) := by
  refine enI (lv := [(0, .ref a0), (1, .int a1), (2, .int a2)]) (by decide) (Nat.le_of_ble_eq_true rfl) rfl (fun E D cy C Ci0 ret => ?_)
  have ha0 := I.2.1
  have J66 : ∀ (n66 : Nat) (P66 : PP) (v66_3 : Int32), (4 - v66_3.toInt).toNat < n66 → (IM P66 a0) → (EM [0, 10, 11, 12, 13, 14, 15, 17, 20, 21, 22, 23, 24, 25, 26] a0 P P66) → (MW P66 a0) → (0 ≤ a1.toInt ∧ a1.toInt ≤ 1) → (0 ≤ v66_3.toInt ∧ v66_3.toInt ≤ 4) → (0 ≤ (pI P66 a0 0).toInt ∧ (pI P66 a0 0).toInt ≤ 0) → (∀ b, pR P66 a0 10 = some b → 1 ≤ (pI P66 b (a1.toInt.toNat)).toInt ∧ (pI P66 b (a1.toInt.toNat)).toInt ≤ 16) → G E ({ frames := 3, cells := 0, slots := 0, locals := 192 } : Room) D cy 5 P66 0 0 66 [(0, .ref a0), (1, .int a1), (3, .int v66_3)] [] := by
    intro n66
    induction n66 with
    | zero => intro P66 v66_3 hm66 I66 X66 W66 hv66_1 hv66_3 hq66_0 hq66_1; omega
    | succ n66 ih66 =>
      intro P66 v66_3 hm66 I66 X66 W66 hv66_1 hv66_3 hq66_0 hq66_1
      have h10127 := X66.at ha0
      obtain ⟨b10128, e10129, h10130⟩ := I66.fld (h10127) 10 13 2 rfl
      have hq66_1 := hq66_1 b10128 e10129
      have J81 : ∀ (n81 : Nat) (P81 : PP) (v81_4 : Int32), (v81_4.toInt - (-1)).toNat < n81 → (IM P81 a0) → (EM [0, 10, 11, 12, 13, 14, 15, 17, 20, 21, 22, 23, 24, 25, 26] a0 P P81) → (MW P81 a0) → (0 ≤ a1.toInt ∧ a1.toInt ≤ 1) → (0 ≤ v66_3.toInt ∧ v66_3.toInt ≤ 3) → (-1 ≤ v81_4.toInt ∧ v81_4.toInt ≤ 39) → (0 ≤ (pI P81 a0 0).toInt ∧ (pI P81 a0 0).toInt ≤ 0) → (∀ b, pR P81 a0 10 = some b → 1 ≤ (pI P81 b (a1.toInt.toNat)).toInt ∧ (pI P81 b (a1.toInt.toNat)).toInt ≤ 16) → (∀ b920, pR P81 a0 20 = some b920 → v81_4.toInt < (pI P81 b920 (v66_3.toInt.toNat)).toInt) → G E ({ frames := 3, cells := 0, slots := 0, locals := 192 } : Room) D cy 5 P81 0 0 81 [(0, .ref a0), (1, .int a1), (3, .int v66_3), (4, .int v81_4)] [] := by
        intro n81
        induction n81 with
        | zero => intro P81 v81_4 hm81 I81 X81 W81 hv81_1 hv81_3 hv81_4 hq81_0 hq81_1 rel81_0; omega
        | succ n81 ih81 =>
          intro P81 v81_4 hm81 I81 X81 W81 hv81_1 hv81_3 hv81_4 hq81_0 hq81_1 rel81_0
          have h10131 := X81.at ha0
          obtain ⟨b10132, e10133, h10134⟩ := I81.fld (h10131) 10 13 2 rfl
          have hq81_1 := hq81_1 b10132 e10133
          obtain ⟨b10135, e10136, h10137⟩ := I81.fld (h10131) 20 13 20 rfl
          have rel81_0 := rel81_0 b10135 e10136
          have h10138 := I81.arr e10136 rfl (v66_3.toInt.toNat)
          have J124 : ∀ (P124 : PP), (IM P124 a0) → (EM [0, 10, 11, 12, 13, 14, 15, 17, 20, 21, 22, 23, 24, 25, 26] a0 P P124) → (MW P124 a0) → (0 ≤ a1.toInt ∧ a1.toInt ≤ 1) → (0 ≤ v66_3.toInt ∧ v66_3.toInt ≤ 3) → (0 ≤ v81_4.toInt ∧ v81_4.toInt ≤ 39) → (0 ≤ (pI P124 a0 0).toInt ∧ (pI P124 a0 0).toInt ≤ 0) → (∀ b, pR P124 a0 10 = some b → 1 ≤ (pI P124 b (a1.toInt.toNat)).toInt ∧ (pI P124 b (a1.toInt.toNat)).toInt ≤ 16) → (∀ b920, pR P124 a0 20 = some b920 → v81_4.toInt ≤ (pI P124 b920 (v66_3.toInt.toNat)).toInt) → G E ({ frames := 3, cells := 0, slots := 0, locals := 192 } : Room) D cy 5 P124 0 0 124 [(0, .ref a0), (1, .int a1), (3, .int v66_3), (4, .int v81_4)] [] := by
            intro P124 I124 X124 W124 hv124_1 hv124_3 hv124_4 hq124_0 hq124_1 rel124_0
            have h10139 := X124.at ha0
            obtain ⟨b10140, e10141, h10142⟩ := I124.fld (h10139) 10 13 2 rfl
            have hq124_1 := hq124_1 b10140 e10141
            obtain ⟨b10143, e10144, h10145⟩ := I124.fld (h10139) 20 13 20 rfl
            have rel124_0 := rel124_0 b10143 e10144
            have h10146 := I124.arr e10144 rfl (v66_3.toInt.toNat)
            refine s_iinc (lv0 := [(0, .ref a0), (1, .int a1), (3, .int v66_3)]) (m := -1) C dX12_book_124 3 rfl (by decide) rfl (by decide) (by omega) (fun z10147 h10148 => ?_)
            have h10148 : z10147.toInt = v81_4.toInt + (-1) := h10148
            refine g_goto C 81 dX12_book_127 (by decide) ?_
            refine g_lv (lv' := [(0, .ref a0), (1, .int a1), (3, .int v66_3), (4, .int z10147)]) [1, 2, 3, 0] rfl ?_
            exact ih81 P124 z10147 (by omega) I124 X124 W124 (by omega) (by omega) (by omega) (by omega) (fun b9 e9 => by rw [e10141] at e9; cases e9; omega) (by intro b920 e920; rw [e10144] at e920; cases e920; show z10147.toInt < (pI P124 b10143 (v66_3.toInt.toNat)).toInt; omega)
          have J117 : (0 ≤ a1.toInt ∧ a1.toInt ≤ 1) → (0 ≤ v66_3.toInt ∧ v66_3.toInt ≤ 3) → (0 ≤ v81_4.toInt ∧ v81_4.toInt ≤ 39) → (0 ≤ (pI P81 a0 0).toInt ∧ (pI P81 a0 0).toInt ≤ 0) → (∀ b, pR P81 a0 10 = some b → 1 ≤ (pI P81 b (a1.toInt.toNat)).toInt ∧ (pI P81 b (a1.toInt.toNat)).toInt ≤ 16) → (∀ b920, pR P81 a0 20 = some b920 → v81_4.toInt < (pI P81 b920 (v66_3.toInt.toNat)).toInt) → G E ({ frames := 3, cells := 0, slots := 0, locals := 192 } : Room) D cy 5 P81 0 0 117 [(0, .ref a0), (1, .int a1), (3, .int v66_3), (4, .int v81_4)] [] := by
            intro hv117_1 hv117_3 hv117_4 hq117_0 hq117_1 rel117_0
            have h10149 := X81.at ha0
            obtain ⟨b10150, e10151, h10152⟩ := I81.fld (h10149) 10 13 2 rfl
            have hq117_1 := hq117_1 b10150 e10151
            obtain ⟨b10153, e10154, h10155⟩ := I81.fld (h10149) 20 13 20 rfl
            have rel117_0 := rel117_0 b10153 e10154
            have h10156 := I81.arr e10154 rfl (v66_3.toInt.toNat)
            refine g_aload_n C dX12_book_117 rfl 0 rfl ?_
            refine g_iload_n C dX12_book_118 rfl 2 rfl ?_
            refine g_iload C dX12_book_119 3 rfl ?_
            refine g_callVV (rest := []) C mv_X12_185 [.int v66_3, .int v81_4] (s_X12_takesOut I81 (by omega) (by omega) (fun b9 e9 => by rw [e10154] at e9; cases e9; show 1 ≤ (pI P81 b10153 (v66_3.toInt.toNat)).toInt ∧ (pI P81 b10153 (v66_3.toInt.toNat)).toInt ≤ 40; omega) W81) (h10149).1 (h10149).2 rfl rfl (by decide) (Nat.le_of_ble_eq_true rfl) (by decide) dX12_book_121 (fun Y10158 h10159 => ?_)
            obtain ⟨Iy10160, Xy10161, W10162, p10163⟩ := h10159
            have p10163 := p10163 b10153 e10154
            have p10163 : (pI Y10158 b10153 (v66_3.toInt.toNat)).toInt = (pI P81 b10153 (v66_3.toInt.toNat)).toInt - 1 := p10163
            have q10164 := Xy10161.keepF 0 (by decide)
            have q10165 := Xy10161.keepA e10151 (by decide) rfl (a1.toInt.toNat)
            have Xz10166 : EM [0, 10, 11, 12, 13, 14, 15, 17, 20, 21, 22, 23, 24, 25, 26] a0 P Y10158 := EM.tr ha0 X81 (Xy10161.mono (by decide))
            have e10167 := Xy10161.ref h10149 (by decide) e10151
            have e10168 := Xy10161.ref h10149 (by decide) e10154
            have h10169 := Xy10161.at h10149
            have h10170 := Xy10161.ar h10152
            have h10171 := Xy10161.ar h10155
            exact J124 Y10158 Iy10160 Xz10166 W10162 (by omega) (by omega) (by omega) (by omega) (fun b9 e9 => by rw [e10167] at e9; cases e9; omega) (by intro b920 e920; rw [e10168] at e920; cases e920; show v81_4.toInt ≤ (pI Y10158 b10153 (v66_3.toInt.toNat)).toInt; omega)
          refine g_iload C dX12_book_81 3 rfl ?_
          refine b_if_lt C 130 dX12_book_83 (by decide) (fun h10172 => ?_) (fun h10172 => ?_)
          · have h10172 : v81_4.toInt < 0 := h10172
            refine s_iinc (lv0 := [(0, .ref a0), (1, .int a1), (4, .int v81_4)]) (m := 1) C dX12_book_130 2 rfl (by decide) rfl (by decide) (by omega) (fun z10173 h10174 => ?_)
            have h10174 : z10173.toInt = v66_3.toInt + 1 := h10174
            refine g_goto C 66 dX12_book_133 (by decide) ?_
            refine g_lv (lv' := [(0, .ref a0), (1, .int a1), (3, .int z10173)]) [1, 2, 0] rfl ?_
            exact ih66 P81 z10173 (by omega) I81 X81 W81 (by omega) (by omega) (by omega) (fun b9 e9 => by rw [e10133] at e9; cases e9; omega)
          · have h10172 : 0 ≤ v81_4.toInt := h10172
            refine g_aload_n C dX12_book_86 rfl 0 rfl ?_
            obtain ⟨b10175, e10176, h10177⟩ := I81.fld (h10131) 22 13 800 rfl
            refine g_getR C fi_X12_75 rfl e10176 (h10131).1 (h10131).2 dX12_book_87 ?_
            refine g_bipush (v := 40) C dX12_book_90 (by decide) ?_
            refine g_iload_n C dX12_book_92 rfl 2 rfl ?_
            refine s_imul C dX12_book_93 (by show -2147483648 ≤ 40 * v66_3.toInt ∧ 40 * v66_3.toInt ≤ 2147483647; omega) (fun z10178 h10179 => ?_)
            have h10179 : z10178.toInt = 40 * v66_3.toInt := h10179
            refine g_iload C dX12_book_94 3 rfl ?_
            refine s_iadd C dX12_book_96 (by show -2147483648 ≤ z10178.toInt + v81_4.toInt ∧ z10178.toInt + v81_4.toInt ≤ 2147483647; omega) (fun z10180 h10181 => ?_)
            have h10181 : z10180.toInt = z10178.toInt + v81_4.toInt := h10181
            refine g_iald (j := (z10180.toInt.toNat)) C h10177.1 h10177.2.1 (ix_in h10177.2.2 (by omega)) dX12_book_97 ?_
            have h10182 := I81.arr e10176 rfl (z10180.toInt.toNat)
            refine g_iload_n C dX12_book_98 rfl 1 rfl ?_
            refine b_icmp_eq C 117 dX12_book_99 (by decide) (fun h10183 => ?_) (fun h10183 => ?_)
            · have h10183 : (pI P81 b10175 (z10180.toInt.toNat)).toInt = a1.toInt := congrArg Int32.toInt h10183
              exact J117 (by omega) (by omega) (by omega) (by omega) (fun b9 e9 => by rw [e10133] at e9; cases e9; omega) (by intro b920 e920; rw [e10136] at e920; cases e920; show v81_4.toInt < (pI P81 b10135 (v66_3.toInt.toNat)).toInt; omega)
            · have h10183 : (pI P81 b10175 (z10180.toInt.toNat)).toInt ≠ a1.toInt := ti_ne h10183
              refine g_aload_n C dX12_book_102 rfl 0 rfl ?_
              refine g_getR C fi_X12_75 rfl e10176 (h10131).1 (h10131).2 dX12_book_103 ?_
              refine g_bipush (v := 40) C dX12_book_106 (by decide) ?_
              refine g_iload_n C dX12_book_108 rfl 2 rfl ?_
              refine s_imul C dX12_book_109 (by show -2147483648 ≤ 40 * v66_3.toInt ∧ 40 * v66_3.toInt ≤ 2147483647; omega) (fun z10184 h10185 => ?_)
              have h10185 : z10184.toInt = 40 * v66_3.toInt := h10185
              refine g_iload C dX12_book_110 3 rfl ?_
              refine s_iadd C dX12_book_112 (by show -2147483648 ≤ z10184.toInt + v81_4.toInt ∧ z10184.toInt + v81_4.toInt ≤ 2147483647; omega) (fun z10186 h10187 => ?_)
              have h10187 : z10186.toInt = z10184.toInt + v81_4.toInt := h10187
              refine g_iald (j := (z10186.toInt.toNat)) C h10177.1 h10177.2.1 (ix_in h10177.2.2 (by omega)) dX12_book_113 ?_
              have h10188 := I81.arr e10176 rfl (z10186.toInt.toNat)
              refine b_if_ge C 124 dX12_book_114 (by decide) (fun h10189 => ?_) (fun h10189 => ?_)
              · have h10189 : 0 ≤ (pI P81 b10175 (z10186.toInt.toNat)).toInt := h10189
                exact J124 P81 I81 X81 W81 (by omega) (by omega) (by omega) (by omega) (fun b9 e9 => by rw [e10133] at e9; cases e9; omega) (by intro b920 e920; rw [e10136] at e920; cases e920; show v81_4.toInt ≤ (pI P81 b10135 (v66_3.toInt.toNat)).toInt; omega)
              · have h10189 : (pI P81 b10175 (z10186.toInt.toNat)).toInt < 0 := h10189
                exact J117 (by omega) (by omega) (by omega) (by omega) (fun b9 e9 => by rw [e10133] at e9; cases e9; omega) (by intro b920 e920; rw [e10136] at e920; cases e920; show v81_4.toInt < (pI P81 b10135 (v66_3.toInt.toNat)).toInt; omega)
      refine g_iload_n C dX12_book_66 rfl 2 rfl ?_
      refine g_iconst (v := 4) C dX12_book_67 (by decide) ?_
      refine b_icmp_ge C 136 dX12_book_68 (by decide) (fun h10190 => ?_) (fun h10190 => ?_)
      · have h10190 : 4 ≤ v66_3.toInt := h10190
        refine g_aload_n C dX12_book_136 rfl 0 rfl ?_
        refine g_callVV (rest := []) C mv_X12_189 [] (s_X12_forgetsMarks I66 W66) (h10127).1 (h10127).2 rfl rfl (by decide) (Nat.le_of_ble_eq_true rfl) (by decide) dX12_book_137 (fun Y10192 h10193 => ?_)
        obtain ⟨Iy10194, Xy10195, W10196⟩ := h10193
        have q10197 := Xy10195.keepF 0 (by decide)
        have q10198 := Xy10195.keepA e10129 (by decide) rfl (a1.toInt.toNat)
        have Xz10199 : EM [0, 10, 11, 12, 13, 14, 15, 17, 20, 21, 22, 23, 24, 25, 26] a0 P Y10192 := EM.tr ha0 X66 (Xy10195.mono (by decide))
        have e10200 := Xy10195.ref h10127 (by decide) e10129
        have h10201 := Xy10195.at h10127
        have h10202 := Xy10195.ar h10130
        refine g_iconst (v := 1) C dX12_book_140 (by decide) ?_
        exact ret _ _ _ _ _ _ dX12_book_141 rfl (by decide) (by decide) ⟨Iy10194, Xz10199, W10196, (by decide), Or.inr (by omega)⟩
      · have h10190 : v66_3.toInt < 4 := h10190
        refine g_aload_n C dX12_book_71 rfl 0 rfl ?_
        obtain ⟨b10203, e10204, h10205⟩ := I66.fld (h10127) 20 13 20 rfl
        refine g_getR C fi_X12_69 rfl e10204 (h10127).1 (h10127).2 dX12_book_72 ?_
        refine g_iload_n C dX12_book_75 rfl 2 rfl ?_
        refine g_iald (j := (v66_3.toInt.toNat)) C h10205.1 h10205.2.1 (ix_in h10205.2.2 (by omega)) dX12_book_76 ?_
        have h10206 := I66.arr e10204 rfl (v66_3.toInt.toNat)
        refine g_iconst (v := 1) C dX12_book_77 (by decide) ?_
        refine s_isub C dX12_book_78 (by show -2147483648 ≤ (pI P66 b10203 (v66_3.toInt.toNat)).toInt - 1 ∧ (pI P66 b10203 (v66_3.toInt.toNat)).toInt - 1 ≤ 2147483647; omega) (fun z10207 h10208 => ?_)
        have h10208 : z10207.toInt = (pI P66 b10203 (v66_3.toInt.toNat)).toInt - 1 := h10208
        refine g_istore (lv' := [(4, .int z10207), (0, .ref a0), (1, .int a1), (3, .int v66_3)]) C dX12_book_79 (by decide) rfl ?_
        refine g_lv (lv' := [(0, .ref a0), (1, .int a1), (3, .int v66_3), (4, .int z10207)]) [1, 2, 3, 0] rfl ?_
        exact J81 _ P66 z10207 (Nat.lt_succ_self _) I66 X66 W66 (by omega) (by omega) (by omega) (by omega) (fun b9 e9 => by rw [e10129] at e9; cases e9; omega) (by intro b920 e920; rw [e10204] at e920; cases e920; show z10207.toInt < (pI P66 b10203 (v66_3.toInt.toNat)).toInt; omega)
  have J35 : ∀ (n35 : Nat) (P35 : PP) (v35_3 : Int32), (16 - v35_3.toInt).toNat < n35 → (IM P35 a0) → (EM [0, 10, 11, 12, 13, 14, 15, 17, 20, 21, 22, 23, 24, 25, 26] a0 P P35) → (MX P35 a0 (a1.toInt.toNat)) → (0 ≤ a1.toInt ∧ a1.toInt ≤ 1) → (0 ≤ v35_3.toInt ∧ v35_3.toInt ≤ 16) → (0 ≤ (pI P35 a0 0).toInt ∧ (pI P35 a0 0).toInt ≤ 0) → (∀ b, pR P35 a0 10 = some b → 1 ≤ (pI P35 b (a1.toInt.toNat)).toInt ∧ (pI P35 b (a1.toInt.toNat)).toInt ≤ 16) → G E ({ frames := 3, cells := 0, slots := 0, locals := 192 } : Room) D cy 5 P35 0 0 35 [(0, .ref a0), (1, .int a1), (3, .int v35_3)] [] := by
    intro n35
    induction n35 with
    | zero => intro P35 v35_3 hm35 I35 X35 W35 hv35_1 hv35_3 hq35_0 hq35_1; omega
    | succ n35 ih35 =>
      intro P35 v35_3 hm35 I35 X35 W35 hv35_1 hv35_3 hq35_0 hq35_1
      have h10209 := X35.at ha0
      obtain ⟨b10210, e10211, h10212⟩ := I35.fld (h10209) 10 13 2 rfl
      have hq35_1 := hq35_1 b10210 e10211
      refine g_iload_n C dX12_book_35 rfl 2 rfl ?_
      refine g_bipush (v := 16) C dX12_book_36 (by decide) ?_
      refine b_icmp_ge C 59 dX12_book_38 (by decide) (fun h10213 => ?_) (fun h10213 => ?_)
      · have h10213 : 16 ≤ v35_3.toInt := h10213
        refine g_aload_n C dX12_book_59 rfl 0 rfl ?_
        refine g_iload_n C dX12_book_60 rfl 1 rfl ?_
        refine g_callVV (rest := []) C mv_X12_182 [.int a1] (s_X12_forgetsDrawx I35 (by omega) W35) (h10209).1 (h10209).2 rfl rfl (by decide) (Nat.le_of_ble_eq_true rfl) (by decide) dX12_book_61 (fun Y10215 h10216 => ?_)
        obtain ⟨Iy10217, Xy10218, W10219, p10220⟩ := h10216
        obtain ⟨b10221, e10222, h10223⟩ := I35.fld (h10209) 14 13 3 rfl
        have p10220 := p10220 b10221 e10222
        have p10220 : (pI Y10215 b10221 (a1.toInt.toNat)).toInt = 1 := p10220
        have h10224 := I35.arr e10222 rfl (a1.toInt.toNat)
        have q10225 := Xy10218.keepF 0 (by decide)
        have q10226 := Xy10218.keepA e10211 (by decide) rfl (a1.toInt.toNat)
        have Xz10227 : EM [0, 10, 11, 12, 13, 14, 15, 17, 20, 21, 22, 23, 24, 25, 26] a0 P Y10215 := EM.tr ha0 X35 (Xy10218.mono (by decide))
        have e10228 := Xy10218.ref h10209 (by decide) e10211
        have e10229 := Xy10218.ref h10209 (by decide) e10222
        have h10230 := Xy10218.at h10209
        have h10231 := Xy10218.ar h10212
        have h10232 := Xy10218.ar h10223
        have W10233 := W10219.back (fun c9 f9 => by rw [e10229] at f9; cases f9; omega)
        refine g_iconst (v := 0) C dX12_book_64 (by decide) ?_
        refine g_istore_n (lv' := [(3, .int 0), (0, .ref a0), (1, .int a1)]) C dX12_book_65 rfl (by decide) rfl ?_
        refine g_lv (lv' := [(0, .ref a0), (1, .int a1), (3, .int 0)]) [1, 2, 0] rfl ?_
        exact J66 _ Y10215 0 (Nat.lt_succ_self _) Iy10217 Xz10227 W10233 (by omega) (by decide) (by omega) (fun b9 e9 => by rw [e10228] at e9; cases e9; omega)
      · have h10213 : v35_3.toInt < 16 := h10213
        refine g_aload_n C dX12_book_41 rfl 0 rfl ?_
        obtain ⟨b10234, e10235, h10236⟩ := I35.fld (h10209) 11 13 32 rfl
        refine g_getR C fi_X12_48 rfl e10235 (h10209).1 (h10209).2 dX12_book_42 ?_
        refine g_bipush (v := 16) C dX12_book_45 (by decide) ?_
        refine g_iload_n C dX12_book_47 rfl 1 rfl ?_
        refine s_imul C dX12_book_48 (by show -2147483648 ≤ 16 * a1.toInt ∧ 16 * a1.toInt ≤ 2147483647; omega) (fun z10237 h10238 => ?_)
        have h10238 : z10237.toInt = 16 * a1.toInt := h10238
        refine g_iload_n C dX12_book_49 rfl 2 rfl ?_
        refine s_iadd C dX12_book_50 (by show -2147483648 ≤ z10237.toInt + v35_3.toInt ∧ z10237.toInt + v35_3.toInt ≤ 2147483647; omega) (fun z10239 h10240 => ?_)
        have h10240 : z10239.toInt = z10237.toInt + v35_3.toInt := h10240
        refine g_iconst (v := 0) C dX12_book_51 (by decide) ?_
        refine g_iast (j := (z10239.toInt.toNat)) C h10236.1 h10236.2.1 (ix_in h10236.2.2 (by omega)) dX12_book_52 ?_
        refine gqW (ks := [11]) (I35.setA e10235 h10236 (by decide) (arOk.none rfl)) (EM.setA I35 e10235 rfl (by decide)) (fun Y10241 Iy10242 Xy10243 w10244 => ?_)
        have w10244 : (pI Y10241 b10234 (z10239.toInt.toNat)).toInt = 0 := w10244
        have q10245 := Xy10243.keepF 0 (by decide)
        have q10246 := Xy10243.keepA e10211 (by decide) rfl (a1.toInt.toNat)
        have W10247 := W35.keep I35 Xy10243 (by decide) (by decide) (by decide)
        have Xz10248 : EM [0, 10, 11, 12, 13, 14, 15, 17, 20, 21, 22, 23, 24, 25, 26] a0 P Y10241 := EM.tr ha0 X35 (Xy10243.mono (by decide))
        have e10249 := Xy10243.ref h10209 (by decide) e10211
        have e10250 := Xy10243.ref h10209 (by decide) e10235
        have h10251 := Xy10243.at h10209
        have h10252 := Xy10243.ar h10212
        have h10253 := Xy10243.ar h10236
        refine s_iinc (lv0 := [(0, .ref a0), (1, .int a1)]) (m := 1) C dX12_book_53 2 rfl (by decide) rfl (by decide) (by omega) (fun z10254 h10255 => ?_)
        have h10255 : z10254.toInt = v35_3.toInt + 1 := h10255
        refine g_goto C 35 dX12_book_56 (by decide) ?_
        refine g_lv (lv' := [(0, .ref a0), (1, .int a1), (3, .int z10254)]) [1, 2, 0] rfl ?_
        exact ih35 Y10241 z10254 (by omega) Iy10242 Xz10248 W10247 (by omega) (by omega) (by omega) (fun b9 e9 => by rw [e10249] at e9; cases e9; omega)
  have J24 : ∀ (P24 : PP), (IM P24 a0) → (EM [0, 10, 11, 12, 13, 14, 15, 17, 20, 21, 22, 23, 24, 25, 26] a0 P P24) → (MW P24 a0) → (0 ≤ (pI P24 a0 0).toInt ∧ (pI P24 a0 0).toInt ≤ 0) → G E ({ frames := 3, cells := 0, slots := 0, locals := 192 } : Room) D cy 5 P24 0 0 24 [] [] := by
    intro P24 I24 X24 W24 hq24_0
    have h10256 := X24.at ha0
    refine g_iconst (v := 0) C dX12_book_24 (by decide) ?_
    exact ret _ _ _ _ _ _ dX12_book_25 rfl (by decide) (by decide) ⟨I24, X24, W24, (by decide), Or.inl rfl⟩
  refine g_aload_n C dX12_book_0 rfl 0 rfl ?_
  refine g_iconst (v := 0) C dX12_book_1 (by decide) ?_
  refine g_putI C fi_X12_1 rfl (ha0).1 (ha0).2 dX12_book_2 ?_
  refine gqW (ks := [0]) (I.setI (rgOk.of rfl (by decide))) (EM.setI I (by decide)) (fun Y10257 Iy10258 Xy10259 w10260 => ?_)
  have w10260 : (pI Y10257 a0 0).toInt = 0 := w10260
  have W10261 := hW.keep I Xy10259 (by decide) (by decide) (by decide)
  have Xz10262 : EM [0, 10, 11, 12, 13, 14, 15, 17, 20, 21, 22, 23, 24, 25, 26] a0 P Y10257 := Xy10259.mono (by decide)
  have h10263 := Xy10259.at ha0
  refine g_iload_n C dX12_book_5 rfl 1 rfl ?_
  refine g_iconst (v := 0) C dX12_book_6 (by decide) ?_
  refine g_iconst (v := 1) C dX12_book_7 (by decide) ?_
  refine g_callSI (b := 0) (ci := 0) (rest := []) C ms_X12_178 [.int a1, .int 0, .int 1] (s_X12_within Iy10258.1) rfl rfl (by decide) (Nat.le_of_ble_eq_true rfl) (by decide) dX12_book_8 (fun r10264 Y10265 h10266 => ?_)
  obtain ⟨rfl, h10266⟩ := h10266
  obtain ⟨h10266, hi10267⟩ := h10266
  have hi10267 : r10264.toInt = 0 ∨ (0 ≤ a1.toInt ∧ a1.toInt ≤ 1) := hi10267
  have h10266 : 0 ≤ r10264.toInt ∧ r10264.toInt ≤ 1 := h10266
  refine b_if_eq C 24 dX12_book_11 (by decide) (fun h10268 => ?_) (fun h10268 => ?_)
  · have h10268 : r10264.toInt = 0 := congrArg Int32.toInt h10268
    clear hi10267
    refine g_lv (lv' := []) [] rfl ?_
    exact J24 Y10257 Iy10258 Xz10262 W10261 (by omega)
  · have h10268 : r10264.toInt ≠ 0 := ti_ne h10268
    replace hi10267 := hi10267.resolve_left (by omega)
    refine g_iload_n C dX12_book_14 rfl 2 rfl ?_
    refine g_iconst (v := 1) C dX12_book_15 (by decide) ?_
    refine g_bipush (v := 16) C dX12_book_16 (by decide) ?_
    refine g_callSI (b := 0) (ci := 0) (rest := []) C ms_X12_178 [.int a2, .int 1, .int 16] (s_X12_within Iy10258.1) rfl rfl (by decide) (Nat.le_of_ble_eq_true rfl) (by decide) dX12_book_18 (fun r10269 Y10270 h10271 => ?_)
    obtain ⟨rfl, h10271⟩ := h10271
    obtain ⟨h10271, hi10272⟩ := h10271
    have hi10272 : r10269.toInt = 0 ∨ (1 ≤ a2.toInt ∧ a2.toInt ≤ 16) := hi10272
    have h10271 : 0 ≤ r10269.toInt ∧ r10269.toInt ≤ 1 := h10271
    refine b_if_ne C 26 dX12_book_21 (by decide) (fun h10273 => ?_) (fun h10273 => ?_)
    · have h10273 : r10269.toInt ≠ 0 := ti_ne h10273
      replace hi10272 := hi10272.resolve_left (by omega)
      refine g_aload_n C dX12_book_26 rfl 0 rfl ?_
      obtain ⟨b10274, e10275, h10276⟩ := Iy10258.fld (h10263) 10 13 2 rfl
      refine g_getR C fi_X12_45 rfl e10275 (h10263).1 (h10263).2 dX12_book_27 ?_
      refine g_iload_n C dX12_book_30 rfl 1 rfl ?_
      refine g_iload_n C dX12_book_31 rfl 2 rfl ?_
      refine g_iast (j := (a1.toInt.toNat)) C h10276.1 h10276.2.1 (ix_in h10276.2.2 (by omega)) dX12_book_32 ?_
      refine gqX (ks := [10]) (W := (fun P => MX P a0 (a1.toInt.toNat))) (Iy10258.setA e10275 h10276 (by decide) (arOk.of rfl (by omega))) (EM.setA Iy10258 e10275 rfl (by decide)) (W10261.set10 Iy10258 e10275 (by omega)) (fun Y10277 Iy10278 Xy10279 w10280 W10281 => ?_)
      have w10280 : (pI Y10277 b10274 (a1.toInt.toNat)).toInt = a2.toInt := w10280
      have q10282 := Xy10279.keepF 0 (by decide)
      have Xz10283 : EM [0, 10, 11, 12, 13, 14, 15, 17, 20, 21, 22, 23, 24, 25, 26] a0 P Y10277 := EM.tr ha0 Xz10262 (Xy10279.mono (by decide))
      have e10284 := Xy10279.ref h10263 (by decide) e10275
      have h10285 := Xy10279.at h10263
      have h10286 := Xy10279.ar h10276
      refine g_iconst (v := 0) C dX12_book_33 (by decide) ?_
      refine g_istore_n (lv' := [(3, .int 0), (0, .ref a0), (1, .int a1), (2, .int a2)]) C dX12_book_34 rfl (by decide) rfl ?_
      refine g_lv (lv' := [(0, .ref a0), (1, .int a1), (3, .int 0)]) [1, 2, 0] rfl ?_
      exact J35 _ Y10277 0 (Nat.lt_succ_self _) Iy10278 Xz10283 W10281 (by omega) (by decide) (by omega) (fun b9 e9 => by rw [e10284] at e9; cases e9; omega)
    · have h10273 : r10269.toInt = 0 := congrArg Int32.toInt h10273
      clear hi10272
      refine g_lv (lv' := []) [] rfl ?_
      exact J24 Y10257 Iy10258 Xz10262 W10261 (by omega)
theorem dX12_byteOf_0 : decode cX12_byteOf 0 = .ok (.iload_n 0, 1) := by decide +kernel
theorem dX12_byteOf_1 : decode cX12_byteOf 1 = .ok (.bipush 8, 2) := by decide +kernel
theorem dX12_byteOf_3 : decode cX12_byteOf 3 = .ok (.iload_n 1, 1) := by decide +kernel
theorem dX12_byteOf_4 : decode cX12_byteOf 4 = .ok (.imul, 1) := by decide +kernel
theorem dX12_byteOf_5 : decode cX12_byteOf 5 = .ok (.ishr, 1) := by decide +kernel
theorem dX12_byteOf_6 : decode cX12_byteOf 6 = .ok (.sipush 255, 3) := by decide +kernel
theorem dX12_byteOf_9 : decode cX12_byteOf 9 = .ok (.iand, 1) := by decide +kernel
theorem dX12_byteOf_10 : decode cX12_byteOf 10 = .ok (.ireturn, 1) := by decide +kernel
set_option maxHeartbeats 4000000 in
set_option maxRecDepth 100000 in
theorem s_X12_byteOf {P : PP} {a0 : Int32} {a1 : Int32} (I : IV P) : CtrI yX12_byteOf cX12_byteOf 2 (some Jvm.ClassFile.FieldType.int) ({ frames := 1, cells := 0, slots := 0, locals := 64 } : Room) 0 0 P [.int a0, .int a1] (fun r P2 => P = P2 ∧ (0 ≤ r.toInt ∧ r.toInt ≤ 255)) := by
  refine enI (lv := [(0, .int a0), (1, .int a1)]) (by decide) (Nat.le_of_ble_eq_true rfl) rfl (fun E D cy C Ci0 ret => ?_)
  refine g_iload_n C dX12_byteOf_0 rfl 0 rfl ?_
  refine g_bipush (v := 8) C dX12_byteOf_1 (by decide) ?_
  refine g_iload_n C dX12_byteOf_3 rfl 1 rfl ?_
  refine a_imul C dX12_byteOf_4 (fun z10293 => ?_)
  refine a_ishr C dX12_byteOf_5 (fun z10295 => ?_)
  refine g_sipush (v := 255) C dX12_byteOf_6 (by decide) ?_
  refine s_iand C dX12_byteOf_9 (by show 0 ≤ 255; omega) (fun z10297 h10298 => ?_)
  have h10298 : 0 ≤ z10297.toInt ∧ z10297.toInt ≤ 255 := h10298
  exact ret _ _ _ _ _ _ dX12_byteOf_10 rfl (by decide) (by decide) ⟨rfl, (by omega)⟩
theorem s_X12_setOf {P : PP} {a0 : Nat} {a1 a2 : Int32} (I : IM P a0) (ha1 : 0 ≤ a1.toInt ∧ a1.toInt ≤ 1) (hf0 : ∀ b, pR P a0 10 = some b → 1 ≤ (pI P b (a1.toInt.toNat)).toInt ∧ (pI P b (a1.toInt.toNat)).toInt ≤ 16) (hW : MW P a0) : CtrI yX12_setOf cX12_setOf 10 (some .int) ({ frames := 5, cells := 0, slots := 0, locals := 320 } : Room) 0 0 P [.ref a0, .int a1, .int a2] (fun r P2 => IM P2 a0 ∧ EM [] a0 P P2 ∧ MW P2 a0 ∧ (True)) := by
  sorry
theorem dX12_chances_0 : decode cX12_chances 0 = .ok (.aload_n 0, 1) := by decide +kernel
theorem dX12_chances_1 : decode cX12_chances 1 = .ok (.iconst 0, 1) := by decide +kernel
theorem dX12_chances_2 : decode cX12_chances 2 = .ok (.putfield 1, 3) := by decide +kernel
theorem dX12_chances_5 : decode cX12_chances 5 = .ok (.aload_n 0, 1) := by decide +kernel
theorem dX12_chances_6 : decode cX12_chances 6 = .ok (.iload_n 1, 1) := by decide +kernel
theorem dX12_chances_7 : decode cX12_chances 7 = .ok (.iload_n 2, 1) := by decide +kernel
theorem dX12_chances_8 : decode cX12_chances 8 = .ok (.iload 4, 2) := by decide +kernel
theorem dX12_chances_10 : decode cX12_chances 10 = .ok (.invokevirtual 377, 3) := by decide +kernel
theorem dX12_chances_13 : decode cX12_chances 13 = .ok (.ifCond .eq 12, 3) := by decide +kernel
theorem dX12_chances_16 : decode cX12_chances 16 = .ok (.iload_n 3, 1) := by decide +kernel
theorem dX12_chances_17 : decode cX12_chances 17 = .ok (.iconst 0, 1) := by decide +kernel
theorem dX12_chances_18 : decode cX12_chances 18 = .ok (.iload_n 2, 1) := by decide +kernel
theorem dX12_chances_19 : decode cX12_chances 19 = .ok (.invokestatic 178, 3) := by decide +kernel
theorem dX12_chances_22 : decode cX12_chances 22 = .ok (.ifCond .ne 5, 3) := by decide +kernel
theorem dX12_chances_27 : decode cX12_chances 27 = .ok (.aload_n 0, 1) := by decide +kernel
theorem dX12_chances_28 : decode cX12_chances 28 = .ok (.iload_n 1, 1) := by decide +kernel
theorem dX12_chances_29 : decode cX12_chances 29 = .ok (.iload_n 2, 1) := by decide +kernel
theorem dX12_chances_30 : decode cX12_chances 30 = .ok (.invokevirtual 380, 3) := by decide +kernel
theorem dX12_keepsSets_0 : decode cX12_keepsSets 0 = .ok (.iconst 0, 1) := by decide +kernel
theorem dX12_keepsSets_1 : decode cX12_keepsSets 1 = .ok (.istore_n 3, 1) := by decide +kernel
theorem dX12_keepsSets_2 : decode cX12_keepsSets 2 = .ok (.iload_n 3, 1) := by decide +kernel
theorem dX12_keepsSets_3 : decode cX12_keepsSets 3 = .ok (.iload_n 2, 1) := by decide +kernel
theorem dX12_keepsSets_4 : decode cX12_keepsSets 4 = .ok (.if_icmp .ge 21, 3) := by decide +kernel
theorem dX12_keepsSets_7 : decode cX12_keepsSets 7 = .ok (.aload_n 0, 1) := by decide +kernel
theorem dX12_keepsSets_8 : decode cX12_keepsSets 8 = .ok (.getfield 121, 3) := by decide +kernel
theorem dX12_keepsSets_11 : decode cX12_keepsSets 11 = .ok (.iload_n 3, 1) := by decide +kernel
theorem dX12_keepsSets_12 : decode cX12_keepsSets 12 = .ok (.aload_n 0, 1) := by decide +kernel
theorem dX12_keepsSets_13 : decode cX12_keepsSets 13 = .ok (.iload_n 1, 1) := by decide +kernel
theorem dX12_keepsSets_14 : decode cX12_keepsSets 14 = .ok (.iload_n 3, 1) := by decide +kernel
theorem dX12_keepsSets_15 : decode cX12_keepsSets 15 = .ok (.invokevirtual 261, 3) := by decide +kernel
theorem dX12_keepsSets_18 : decode cX12_keepsSets 18 = .ok (.iastore, 1) := by decide +kernel
theorem dX12_keepsSets_19 : decode cX12_keepsSets 19 = .ok (.iinc 3 1, 3) := by decide +kernel
theorem dX12_keepsSets_22 : decode cX12_keepsSets 22 = .ok (.goto (-20), 3) := by decide +kernel
theorem dX12_keepsSets_25 : decode cX12_keepsSets 25 = .ok (.return_, 1) := by decide +kernel
set_option maxHeartbeats 4000000 in
set_option maxRecDepth 100000 in
theorem s_X12_keepsSets {P : PP} {a0 : Nat} {a1 : Int32} {a2 : Int32} (I : IM P a0) (ha1 : 0 ≤ a1.toInt ∧ a1.toInt ≤ 1) (ha2 : 0 ≤ a2.toInt ∧ a2.toInt ≤ 11) (hf0 : ∀ b, pR P a0 10 = some b → 1 ≤ (pI P b (a1.toInt.toNat)).toInt ∧ (pI P b (a1.toInt.toNat)).toInt ≤ 16) (hW : MW P a0) : CtrV yX12_keepsSets cX12_keepsSets 4 none ({ frames := 6, cells := 0, slots := 0, locals := 384 } : Room) 0 0 P [.ref a0, .int a1, .int a2] (fun P2 => IM P2 a0 ∧ EM [43] a0 P P2 ∧ MW P2 a0) := by
  refine enV (lv := [(0, .ref a0), (1, .int a1), (2, .int a2)]) (by decide) (Nat.le_of_ble_eq_true rfl) rfl (fun E D cy C Ci0 ret => ?_)
  have ha0 := I.2.1
  have J2 : ∀ (n2 : Nat) (P2 : PP) (v2_3 : Int32), (11 - v2_3.toInt).toNat < n2 → (IM P2 a0) → (EM [43] a0 P P2) → (MW P2 a0) → (0 ≤ v2_3.toInt ∧ v2_3.toInt ≤ 11) → (∀ b, pR P2 a0 10 = some b → 1 ≤ (pI P2 b (a1.toInt.toNat)).toInt ∧ (pI P2 b (a1.toInt.toNat)).toInt ≤ 16) → G E ({ frames := 6, cells := 0, slots := 0, locals := 384 } : Room) D cy 4 P2 0 0 2 [(0, .ref a0), (1, .int a1), (2, .int a2), (3, .int v2_3)] [] := by
    intro n2
    induction n2 with
    | zero => intro P2 v2_3 hm2 I2 X2 W2 hv2_3 hq2_0; omega
    | succ n2 ih2 =>
      intro P2 v2_3 hm2 I2 X2 W2 hv2_3 hq2_0
      have h10648 := X2.at ha0
      obtain ⟨b10649, e10650, h10651⟩ := I2.fld (h10648) 10 13 2 rfl
      have hq2_0 := hq2_0 b10649 e10650
      refine g_iload_n C dX12_keepsSets_2 rfl 3 rfl ?_
      refine g_iload_n C dX12_keepsSets_3 rfl 2 rfl ?_
      refine b_icmp_ge C 25 dX12_keepsSets_4 (by decide) (fun h10652 => ?_) (fun h10652 => ?_)
      · have h10652 : a2.toInt ≤ v2_3.toInt := h10652
        exact ret _ _ _ _ _ dX12_keepsSets_25 (by decide) (by decide) ⟨I2, X2, W2⟩
      · have h10652 : v2_3.toInt < a2.toInt := h10652
        refine g_aload_n C dX12_keepsSets_7 rfl 0 rfl ?_
        obtain ⟨b10653, e10654, h10655⟩ := I2.fld (h10648) 43 13 60 rfl
        refine g_getR C fi_X12_121 rfl e10654 (h10648).1 (h10648).2 dX12_keepsSets_8 ?_
        refine g_iload_n C dX12_keepsSets_11 rfl 3 rfl ?_
        refine g_aload_n C dX12_keepsSets_12 rfl 0 rfl ?_
        refine g_iload_n C dX12_keepsSets_13 rfl 1 rfl ?_
        refine g_iload_n C dX12_keepsSets_14 rfl 3 rfl ?_
        refine g_callVI (rest := [.int v2_3, .ref b10653]) C mv_X12_261 [.int a1, .int v2_3] (s_X12_setOf I2 (by omega) (fun b9 e9 => by rw [e10650] at e9; cases e9; show 1 ≤ (pI P2 b10649 (a1.toInt.toNat)).toInt ∧ (pI P2 b10649 (a1.toInt.toNat)).toInt ≤ 16; omega) W2) (h10648).1 (h10648).2 rfl rfl (by decide) (Nat.le_of_ble_eq_true rfl) (by decide) dX12_keepsSets_15 (fun r10656 Y10657 h10658 => ?_)
        obtain ⟨Iy10659, Xy10660, W10661, h10658⟩ := h10658
        have q10662 := Xy10660.keepA e10650 (by decide) rfl (a1.toInt.toNat)
        have Xz10663 : EM [43] a0 P Y10657 := EM.tr ha0 X2 (Xy10660.mono (by decide))
        have e10664 := Xy10660.ref h10648 (by decide) e10650
        have e10665 := Xy10660.ref h10648 (by decide) e10654
        have h10666 := Xy10660.at h10648
        have h10667 := Xy10660.ar h10651
        have h10668 := Xy10660.ar h10655
        have h10658 : True := h10658
        refine g_iast (j := (v2_3.toInt.toNat)) C h10668.1 h10668.2.1 (ix_in h10668.2.2 (by omega)) dX12_keepsSets_18 ?_
        refine gqW (ks := [43]) (Iy10659.setA e10665 h10668 (by decide) (arOk.none rfl)) (EM.setA Iy10659 e10665 rfl (by decide)) (fun Y10669 Iy10670 Xy10671 w10672 => ?_)
        have w10672 : (pI Y10669 b10653 (v2_3.toInt.toNat)).toInt = r10656.toInt := w10672
        have q10673 := Xy10671.keepA e10664 (by decide) rfl (a1.toInt.toNat)
        have W10674 := W10661.keep Iy10659 Xy10671 (by decide) (by decide) (by decide)
        have Xz10675 : EM [43] a0 P Y10669 := EM.tr ha0 Xz10663 (Xy10671.mono (by decide))
        have e10676 := Xy10671.ref h10666 (by decide) e10664
        have e10677 := Xy10671.ref h10666 (by decide) e10665
        have h10678 := Xy10671.at h10666
        have h10679 := Xy10671.ar h10667
        have h10680 := Xy10671.ar h10668
        refine s_iinc (lv0 := [(0, .ref a0), (1, .int a1), (2, .int a2)]) (m := 1) C dX12_keepsSets_19 3 rfl (by decide) rfl (by decide) (by omega) (fun z10681 h10682 => ?_)
        have h10682 : z10681.toInt = v2_3.toInt + 1 := h10682
        refine g_goto C 2 dX12_keepsSets_22 (by decide) ?_
        refine g_lv (lv' := [(0, .ref a0), (1, .int a1), (2, .int a2), (3, .int z10681)]) [1, 2, 3, 0] rfl ?_
        exact ih2 Y10669 z10681 (by omega) Iy10670 Xz10675 W10674 (by omega) (fun b9 e9 => by rw [e10676] at e9; cases e9; omega)
  obtain ⟨b10683, e10684, h10685⟩ := I.fld (ha0) 10 13 2 rfl
  have hf0 := hf0 b10683 e10684
  refine g_iconst (v := 0) C dX12_keepsSets_0 (by decide) ?_
  refine g_istore_n (lv' := [(3, .int 0), (0, .ref a0), (1, .int a1), (2, .int a2)]) C dX12_keepsSets_1 rfl (by decide) rfl ?_
  refine g_lv (lv' := [(0, .ref a0), (1, .int a1), (2, .int a2), (3, .int 0)]) [1, 2, 3, 0] rfl ?_
  exact J2 _ P 0 (Nat.lt_succ_self _) I EM.rf hW (by decide) (fun b9 e9 => by rw [e10684] at e9; cases e9; omega)
