theorem dX12_adds_0 : decode cX12_adds 0 = .ok (.aload_n 0, 1) := by decide +kernel
theorem dX12_adds_1 : decode cX12_adds 1 = .ok (.getfield 91, 3) := by decide +kernel
theorem dX12_adds_4 : decode cX12_adds 4 = .ok (.aload_n 0, 1) := by decide +kernel
theorem dX12_adds_5 : decode cX12_adds 5 = .ok (.getfield 305, 3) := by decide +kernel
theorem dX12_adds_8 : decode cX12_adds 8 = .ok (.iload_n 1, 1) := by decide +kernel
theorem dX12_adds_9 : decode cX12_adds 9 = .ok (.iastore, 1) := by decide +kernel
theorem dX12_adds_10 : decode cX12_adds 10 = .ok (.aload_n 0, 1) := by decide +kernel
theorem dX12_adds_11 : decode cX12_adds 11 = .ok (.getfield 94, 3) := by decide +kernel
theorem dX12_adds_14 : decode cX12_adds 14 = .ok (.aload_n 0, 1) := by decide +kernel
theorem dX12_adds_15 : decode cX12_adds 15 = .ok (.getfield 305, 3) := by decide +kernel
theorem dX12_adds_18 : decode cX12_adds 18 = .ok (.iload_n 2, 1) := by decide +kernel
theorem dX12_adds_19 : decode cX12_adds 19 = .ok (.iastore, 1) := by decide +kernel
theorem dX12_adds_20 : decode cX12_adds 20 = .ok (.aload_n 0, 1) := by decide +kernel
theorem dX12_adds_21 : decode cX12_adds 21 = .ok (.getfield 97, 3) := by decide +kernel
theorem dX12_adds_24 : decode cX12_adds 24 = .ok (.aload_n 0, 1) := by decide +kernel
theorem dX12_adds_25 : decode cX12_adds 25 = .ok (.getfield 305, 3) := by decide +kernel
theorem dX12_adds_28 : decode cX12_adds 28 = .ok (.iload_n 3, 1) := by decide +kernel
theorem dX12_adds_29 : decode cX12_adds 29 = .ok (.iastore, 1) := by decide +kernel
theorem dX12_adds_30 : decode cX12_adds 30 = .ok (.aload_n 0, 1) := by decide +kernel
theorem dX12_adds_31 : decode cX12_adds 31 = .ok (.dup, 1) := by decide +kernel
theorem dX12_adds_32 : decode cX12_adds 32 = .ok (.getfield 305, 3) := by decide +kernel
theorem dX12_adds_35 : decode cX12_adds 35 = .ok (.iconst 1, 1) := by decide +kernel
theorem dX12_adds_36 : decode cX12_adds 36 = .ok (.iadd, 1) := by decide +kernel
theorem dX12_adds_37 : decode cX12_adds 37 = .ok (.putfield 305, 3) := by decide +kernel
theorem dX12_adds_40 : decode cX12_adds 40 = .ok (.return_, 1) := by decide +kernel
set_option maxHeartbeats 4000000 in
set_option maxRecDepth 100000 in
theorem s_X12_adds {P : PP} {a0 : Nat} {a1 : Int32} {a2 : Int32} {a3 : Int32} (I : IM P a0) (hp0_28 : 0 ≤ (pI P a0 28).toInt ∧ (pI P a0 28).toInt ≤ 63) (hW : MW P a0) : CtrV yX12_adds cX12_adds 4 none ({ frames := 1, cells := 0, slots := 0, locals := 64 } : Room) 0 0 P [.ref a0, .int a1, .int a2, .int a3] (fun P2 => IM P2 a0 ∧ EM [28, 29, 30, 31] a0 P P2 ∧ MW P2 a0 ∧ ((pI P2 a0 28).toInt = (pI P a0 28).toInt + 1)) := by
  refine enV (lv := [(0, .ref a0), (1, .int a1), (2, .int a2), (3, .int a3)]) (by decide) (Nat.le_of_ble_eq_true rfl) rfl (fun E D cy C Ci0 ret => ?_)
  have ha0 := I.2.1
  refine g_aload_n C dX12_adds_0 rfl 0 rfl ?_
  obtain ⟨b43, e44, h45⟩ := I.fld (ha0) 29 13 64 rfl
  refine g_getR C fi_X12_91 rfl e44 (ha0).1 (ha0).2 dX12_adds_1 ?_
  refine g_aload_n C dX12_adds_4 rfl 0 rfl ?_
  refine g_getI C fi_X12_305 (by decide) (ha0).1 (ha0).2 dX12_adds_5 ?_
  refine g_iload_n C dX12_adds_8 rfl 1 rfl ?_
  refine g_iast (j := ((pI P a0 28).toInt.toNat)) C h45.1 h45.2.1 (ix_in h45.2.2 (by omega)) dX12_adds_9 ?_
  refine gqW (ks := [29]) (I.setA e44 h45 (by decide) (arOk.none rfl)) (EM.setA I e44 rfl (by decide)) (fun Y46 Iy47 Xy48 w49  => ?_)
  have w49 : (pI Y46 b43 ((pI P a0 28).toInt.toNat)).toInt = a1.toInt := w49
  have q50 := Xy48.keepF 28 (by decide)
  have W51 := hW.keep I Xy48 (by decide) (by decide) (by decide) (by decide)
  have Xz52 : EM [28, 29, 30, 31] a0 P Y46 := Xy48.mono (by decide)
  have h53 := Xy48.at ha0
  refine g_aload_n C dX12_adds_10 rfl 0 rfl ?_
  obtain ⟨b54, e55, h56⟩ := Iy47.fld (h53) 30 13 64 rfl
  refine g_getR C fi_X12_94 rfl e55 (h53).1 (h53).2 dX12_adds_11 ?_
  refine g_aload_n C dX12_adds_14 rfl 0 rfl ?_
  refine g_getI C fi_X12_305 (by decide) (h53).1 (h53).2 dX12_adds_15 ?_
  refine g_iload_n C dX12_adds_18 rfl 2 rfl ?_
  refine g_iast (j := ((pI Y46 a0 28).toInt.toNat)) C h56.1 h56.2.1 (ix_in h56.2.2 (by omega)) dX12_adds_19 ?_
  refine gqW (ks := [30]) (Iy47.setA e55 h56 (by decide) (arOk.none rfl)) (EM.setA Iy47 e55 rfl (by decide)) (fun Y57 Iy58 Xy59 w60  => ?_)
  have w60 : (pI Y57 b54 ((pI Y46 a0 28).toInt.toNat)).toInt = a2.toInt := w60
  have q61 := Xy59.keepF 28 (by decide)
  have W62 := W51.keep Iy47 Xy59 (by decide) (by decide) (by decide) (by decide)
  have Xz63 : EM [28, 29, 30, 31] a0 P Y57 := EM.tr ha0 Xz52 (Xy59.mono (by decide))
  have h64 := Xy59.at h53
  refine g_aload_n C dX12_adds_20 rfl 0 rfl ?_
  obtain ⟨b65, e66, h67⟩ := Iy58.fld (h64) 31 13 64 rfl
  refine g_getR C fi_X12_97 rfl e66 (h64).1 (h64).2 dX12_adds_21 ?_
  refine g_aload_n C dX12_adds_24 rfl 0 rfl ?_
  refine g_getI C fi_X12_305 (by decide) (h64).1 (h64).2 dX12_adds_25 ?_
  refine g_iload_n C dX12_adds_28 rfl 3 rfl ?_
  refine g_iast (j := ((pI Y57 a0 28).toInt.toNat)) C h67.1 h67.2.1 (ix_in h67.2.2 (by omega)) dX12_adds_29 ?_
  refine gqW (ks := [31]) (Iy58.setA e66 h67 (by decide) (arOk.none rfl)) (EM.setA Iy58 e66 rfl (by decide)) (fun Y68 Iy69 Xy70 w71  => ?_)
  have w71 : (pI Y68 b65 ((pI Y57 a0 28).toInt.toNat)).toInt = a3.toInt := w71
  have q72 := Xy70.keepF 28 (by decide)
  have W73 := W62.keep Iy58 Xy70 (by decide) (by decide) (by decide) (by decide)
  have Xz74 : EM [28, 29, 30, 31] a0 P Y68 := EM.tr ha0 Xz63 (Xy70.mono (by decide))
  have h75 := Xy70.at h64
  refine g_aload_n C dX12_adds_30 rfl 0 rfl ?_
  refine g_dup C dX12_adds_31 rfl ?_
  refine g_getI C fi_X12_305 (by decide) (h75).1 (h75).2 dX12_adds_32 ?_
  refine g_iconst (v := 1) C dX12_adds_35 (by decide) ?_
  refine s_iadd C dX12_adds_36 (by show -2147483648 ≤ (pI Y68 a0 28).toInt + 1 ∧ (pI Y68 a0 28).toInt + 1 ≤ 2147483647; omega) (fun z76 h77 => ?_)
  have h77 : z76.toInt = (pI Y68 a0 28).toInt + 1 := h77
  refine g_putI C fi_X12_305 rfl (h75).1 (h75).2 dX12_adds_37 ?_
  refine gqW (ks := [28]) (Iy69.setI (rgOk.of rfl (by omega))) (EM.setI Iy69 (by decide)) (fun Y78 Iy79 Xy80 w81  => ?_)
  have w81 : (pI Y78 a0 28).toInt = z76.toInt := w81
  have W82 := W73.keep Iy69 Xy80 (by decide) (by decide) (by decide) (by decide)
  have Xz83 : EM [28, 29, 30, 31] a0 P Y78 := EM.tr ha0 Xz74 (Xy80.mono (by decide))
  have h84 := Xy80.at h75
  exact ret _ _ _ _ _ dX12_adds_40 (by decide) (by decide) ⟨Iy79, Xz83, W82, (by show (pI Y78 a0 28).toInt = (pI P a0 28).toInt + 1; omega)⟩
theorem dX12_agreesBy_0 : decode cX12_agreesBy 0 = .ok (.iconst 0, 1) := by decide +kernel
theorem dX12_agreesBy_1 : decode cX12_agreesBy 1 = .ok (.istore 4, 2) := by decide +kernel
theorem dX12_agreesBy_3 : decode cX12_agreesBy 3 = .ok (.iload 4, 2) := by decide +kernel
theorem dX12_agreesBy_5 : decode cX12_agreesBy 5 = .ok (.iconst 2, 1) := by decide +kernel
theorem dX12_agreesBy_6 : decode cX12_agreesBy 6 = .ok (.if_icmp .ge 121, 3) := by decide +kernel
theorem dX12_agreesBy_9 : decode cX12_agreesBy 9 = .ok (.aload_n 0, 1) := by decide +kernel
theorem dX12_agreesBy_10 : decode cX12_agreesBy 10 = .ok (.iload_n 1, 1) := by decide +kernel
theorem dX12_agreesBy_11 : decode cX12_agreesBy 11 = .ok (.iload_n 2, 1) := by decide +kernel
theorem dX12_agreesBy_12 : decode cX12_agreesBy 12 = .ok (.iload 4, 2) := by decide +kernel
theorem dX12_agreesBy_14 : decode cX12_agreesBy 14 = .ok (.aload_n 0, 1) := by decide +kernel
theorem dX12_agreesBy_15 : decode cX12_agreesBy 15 = .ok (.getfield 69, 3) := by decide +kernel
theorem dX12_agreesBy_18 : decode cX12_agreesBy 18 = .ok (.iload_n 1, 1) := by decide +kernel
theorem dX12_agreesBy_19 : decode cX12_agreesBy 19 = .ok (.iaload, 1) := by decide +kernel
theorem dX12_agreesBy_20 : decode cX12_agreesBy 20 = .ok (.invokevirtual 339, 3) := by decide +kernel
theorem dX12_gathers_0 : decode cX12_gathers 0 = .ok (.aload_n 0, 1) := by decide +kernel
theorem dX12_gathers_1 : decode cX12_gathers 1 = .ok (.iload_n 2, 1) := by decide +kernel
theorem dX12_gathers_2 : decode cX12_gathers 2 = .ok (.invokevirtual 312, 3) := by decide +kernel
theorem dX12_begins_0 : decode cX12_begins 0 = .ok (.aload_n 0, 1) := by decide +kernel
theorem dX12_begins_1 : decode cX12_begins 1 = .ok (.iconst 0, 1) := by decide +kernel
theorem dX12_begins_2 : decode cX12_begins 2 = .ok (.putfield 305, 3) := by decide +kernel
theorem dX12_begins_5 : decode cX12_begins 5 = .ok (.iconst 0, 1) := by decide +kernel
theorem dX12_begins_6 : decode cX12_begins 6 = .ok (.istore_n 2, 1) := by decide +kernel
theorem dX12_begins_7 : decode cX12_begins 7 = .ok (.iload_n 2, 1) := by decide +kernel
theorem dX12_begins_8 : decode cX12_begins 8 = .ok (.aload_n 0, 1) := by decide +kernel
theorem dX12_begins_9 : decode cX12_begins 9 = .ok (.getfield 60, 3) := by decide +kernel
theorem dX12_begins_12 : decode cX12_begins 12 = .ok (.iload_n 1, 1) := by decide +kernel
theorem dX12_begins_13 : decode cX12_begins 13 = .ok (.iaload, 1) := by decide +kernel
theorem dX12_begins_14 : decode cX12_begins 14 = .ok (.if_icmp .ge 36, 3) := by decide +kernel
theorem dX12_begins_17 : decode cX12_begins 17 = .ok (.aload_n 0, 1) := by decide +kernel
theorem dX12_begins_18 : decode cX12_begins 18 = .ok (.aload_n 0, 1) := by decide +kernel
theorem dX12_begins_19 : decode cX12_begins 19 = .ok (.getfield 63, 3) := by decide +kernel
theorem dX12_begins_22 : decode cX12_begins 22 = .ok (.iconst 4, 1) := by decide +kernel
theorem dX12_begins_23 : decode cX12_begins 23 = .ok (.iload_n 1, 1) := by decide +kernel
theorem dX12_begins_24 : decode cX12_begins 24 = .ok (.imul, 1) := by decide +kernel
theorem dX12_begins_25 : decode cX12_begins 25 = .ok (.iload_n 2, 1) := by decide +kernel
theorem dX12_begins_26 : decode cX12_begins 26 = .ok (.iadd, 1) := by decide +kernel
theorem dX12_begins_27 : decode cX12_begins 27 = .ok (.iaload, 1) := by decide +kernel
theorem dX12_begins_28 : decode cX12_begins 28 = .ok (.iconst 1, 1) := by decide +kernel
theorem dX12_begins_29 : decode cX12_begins 29 = .ok (.aload_n 0, 1) := by decide +kernel
theorem dX12_begins_30 : decode cX12_begins 30 = .ok (.getfield 45, 3) := by decide +kernel
theorem dX12_begins_33 : decode cX12_begins 33 = .ok (.iload_n 1, 1) := by decide +kernel
theorem dX12_begins_34 : decode cX12_begins 34 = .ok (.iaload, 1) := by decide +kernel
theorem dX12_begins_35 : decode cX12_begins 35 = .ok (.iload_n 2, 1) := by decide +kernel
theorem dX12_begins_36 : decode cX12_begins 36 = .ok (.iadd, 1) := by decide +kernel
theorem dX12_begins_37 : decode cX12_begins 37 = .ok (.ishl, 1) := by decide +kernel
theorem dX12_begins_38 : decode cX12_begins 38 = .ok (.ior, 1) := by decide +kernel
theorem dX12_begins_39 : decode cX12_begins 39 = .ok (.iconst 0, 1) := by decide +kernel
theorem dX12_begins_40 : decode cX12_begins 40 = .ok (.iconst (-1), 1) := by decide +kernel
theorem dX12_begins_41 : decode cX12_begins 41 = .ok (.invokevirtual 308, 3) := by decide +kernel
theorem dX12_begins_44 : decode cX12_begins 44 = .ok (.iinc 2 1, 3) := by decide +kernel
theorem dX12_begins_47 : decode cX12_begins 47 = .ok (.goto (-40), 3) := by decide +kernel
theorem dX12_begins_50 : decode cX12_begins 50 = .ok (.return_, 1) := by decide +kernel
set_option maxHeartbeats 4000000 in
set_option maxRecDepth 100000 in
theorem s_X12_begins {P : PP} {a0 : Nat} {a1 : Int32} (I : IM P a0) (ha1 : 0 ≤ a1.toInt ∧ a1.toInt ≤ 1) (hW : MW P a0) : CtrV yX12_begins cX12_begins 3 none ({ frames := 2, cells := 0, slots := 0, locals := 128 } : Room) 0 0 P [.ref a0, .int a1] (fun P2 => IM P2 a0 ∧ EM [28, 29, 30, 31] a0 P P2 ∧ MW P2 a0 ∧ ((pI P2 a0 28).toInt ≤ 4)) := by
  refine enV (lv := [(0, .ref a0), (1, .int a1)]) (by decide) (Nat.le_of_ble_eq_true rfl) rfl (fun E D cy C Ci0 ret => ?_)
  have ha0 := I.2.1
  have J7 : ∀ (n7 : Nat) (P7 : PP) (v7_2 : Int32), (4 - v7_2.toInt).toNat < n7 → (IM P7 a0) → (EM [28, 29, 30, 31] a0 P P7) → (MW P7 a0) → (0 ≤ v7_2.toInt ∧ v7_2.toInt ≤ 4) → (0 ≤ (pI P7 a0 28).toInt) → ((pI P7 a0 28).toInt ≤ v7_2.toInt) → G E ({ frames := 2, cells := 0, slots := 0, locals := 128 } : Room) D cy 3 P7 0 0 7 [(0, .ref a0), (1, .int a1), (2, .int v7_2)] [] := by
    intro n7
    induction n7 with
    | zero => intro P7 v7_2 hm7 I7 X7 W7 hv7_2 hq7_0 rel7_0; omega
    | succ n7 ih7 =>
      intro P7 v7_2 hm7 I7 X7 W7 hv7_2 hq7_0 rel7_0
      have h1460 := X7.at ha0
      refine g_iload_n C dX12_begins_7 rfl 2 rfl ?_
      refine g_aload_n C dX12_begins_8 rfl 0 rfl ?_
      obtain ⟨b1461, e1462, h1463⟩ := I7.fld (h1460) 15 13 3 rfl
      refine g_getR C fi_X12_60 rfl e1462 (h1460).1 (h1460).2 dX12_begins_9 ?_
      refine g_iload_n C dX12_begins_12 rfl 1 rfl ?_
      refine g_iald (j := (a1.toInt.toNat)) C h1463.1 h1463.2.1 (ix_in h1463.2.2 (by omega)) dX12_begins_13 ?_
      have h1464 := I7.arr e1462 rfl (a1.toInt.toNat)
      refine b_icmp_ge C 50 dX12_begins_14 (by decide) (fun h1465 => ?_) (fun h1465 => ?_)
      · have h1465 : (pI P7 b1461 (a1.toInt.toNat)).toInt ≤ v7_2.toInt := h1465
        exact ret _ _ _ _ _ dX12_begins_50 (by decide) (by decide) ⟨I7, X7, W7, (by show (pI P7 a0 28).toInt ≤ 4; omega)⟩
      · have h1465 : v7_2.toInt < (pI P7 b1461 (a1.toInt.toNat)).toInt := h1465
        refine g_aload_n C dX12_begins_17 rfl 0 rfl ?_
        refine g_aload_n C dX12_begins_18 rfl 0 rfl ?_
        obtain ⟨b1466, e1467, h1468⟩ := I7.fld (h1460) 16 13 12 rfl
        refine g_getR C fi_X12_63 rfl e1467 (h1460).1 (h1460).2 dX12_begins_19 ?_
        refine g_iconst (v := 4) C dX12_begins_22 (by decide) ?_
        refine g_iload_n C dX12_begins_23 rfl 1 rfl ?_
        refine s_imul C dX12_begins_24 (by show -2147483648 ≤ 4 * a1.toInt ∧ 4 * a1.toInt ≤ 2147483647; omega) (fun z1469 h1470 => ?_)
        have h1470 : z1469.toInt = 4 * a1.toInt := h1470
        refine g_iload_n C dX12_begins_25 rfl 2 rfl ?_
        refine s_iadd C dX12_begins_26 (by show -2147483648 ≤ z1469.toInt + v7_2.toInt ∧ z1469.toInt + v7_2.toInt ≤ 2147483647; omega) (fun z1471 h1472 => ?_)
        have h1472 : z1471.toInt = z1469.toInt + v7_2.toInt := h1472
        refine g_iald (j := (z1471.toInt.toNat)) C h1468.1 h1468.2.1 (ix_in h1468.2.2 (by omega)) dX12_begins_27 ?_
        refine g_iconst (v := 1) C dX12_begins_28 (by decide) ?_
        refine g_aload_n C dX12_begins_29 rfl 0 rfl ?_
        obtain ⟨b1473, e1474, h1475⟩ := I7.fld (h1460) 10 13 2 rfl
        refine g_getR C fi_X12_45 rfl e1474 (h1460).1 (h1460).2 dX12_begins_30 ?_
        refine g_iload_n C dX12_begins_33 rfl 1 rfl ?_
        refine g_iald (j := (a1.toInt.toNat)) C h1475.1 h1475.2.1 (ix_in h1475.2.2 (by omega)) dX12_begins_34 ?_
        have h1476 := I7.arr e1474 rfl (a1.toInt.toNat)
        refine g_iload_n C dX12_begins_35 rfl 2 rfl ?_
        refine s_iadd C dX12_begins_36 (by show -2147483648 ≤ (pI P7 b1473 (a1.toInt.toNat)).toInt + v7_2.toInt ∧ (pI P7 b1473 (a1.toInt.toNat)).toInt + v7_2.toInt ≤ 2147483647; omega) (fun z1477 h1478 => ?_)
        have h1478 : z1477.toInt = (pI P7 b1473 (a1.toInt.toNat)).toInt + v7_2.toInt := h1478
        refine a_ishl C dX12_begins_37 (fun z1479 => ?_)
        refine a_ior C dX12_begins_38 (fun z1481 => ?_)
        refine g_iconst (v := 0) C dX12_begins_39 (by decide) ?_
        refine g_iconst (v := (-1)) C dX12_begins_40 (by decide) ?_
        refine g_callVV (rest := []) C mv_X12_308 [.int z1481, .int 0, .int (-1)] (s_X12_adds I7 (by omega) W7) (h1460).1 (h1460).2 rfl rfl (by decide) (Nat.le_of_ble_eq_true rfl) (by decide) dX12_begins_41 (fun Y1484 h1485 => ?_)
        obtain ⟨Iy1486, Xy1487, W1488, p1489⟩ := h1485
        have p1489 : (pI Y1484 a0 28).toInt = (pI P7 a0 28).toInt + 1 := p1489
        have q1490 := Xy1487.keepA e1462 (by decide) rfl (a1.toInt.toNat)
        have q1491 := Xy1487.keepA e1474 (by decide) rfl (a1.toInt.toNat)
        have Xz1492 : EM [28, 29, 30, 31] a0 P Y1484 := EM.tr ha0 X7 (Xy1487.mono (by decide))
        have e1493 := Xy1487.ref h1460 (by decide) e1462
        have e1494 := Xy1487.ref h1460 (by decide) e1474
        have h1495 := Xy1487.at h1460
        have h1496 := Xy1487.ar h1463
        have h1497 := Xy1487.ar h1475
        have h1498 := Iy1486.rg h1495 28 rfl
        refine s_iinc (lv0 := [(0, .ref a0), (1, .int a1)]) (m := 1) C dX12_begins_44 2 rfl (by decide) rfl (by decide) (by omega) (fun z1499 h1500 => ?_)
        have h1500 : z1499.toInt = v7_2.toInt + 1 := h1500
        refine g_goto C 7 dX12_begins_47 (by decide) ?_
        refine g_lv (lv' := [(0, .ref a0), (1, .int a1), (2, .int z1499)]) [1, 2, 0] rfl ?_
        exact ih7 Y1484 z1499 (by omega) Iy1486 Xz1492 W1488 (by omega) (by omega) (by show (pI Y1484 a0 28).toInt ≤ z1499.toInt; omega)
  refine g_aload_n C dX12_begins_0 rfl 0 rfl ?_
  refine g_iconst (v := 0) C dX12_begins_1 (by decide) ?_
  refine g_putI C fi_X12_305 rfl (ha0).1 (ha0).2 dX12_begins_2 ?_
  refine gqW (ks := [28]) (I.setI (rgOk.of rfl (by decide))) (EM.setI I (by decide)) (fun Y1501 Iy1502 Xy1503 w1504  => ?_)
  have w1504 : (pI Y1501 a0 28).toInt = 0 := w1504
  have W1505 := hW.keep I Xy1503 (by decide) (by decide) (by decide) (by decide)
  have Xz1506 : EM [28, 29, 30, 31] a0 P Y1501 := Xy1503.mono (by decide)
  have h1507 := Xy1503.at ha0
  refine g_iconst (v := 0) C dX12_begins_5 (by decide) ?_
  refine g_istore_n (lv' := [(2, .int 0), (0, .ref a0), (1, .int a1)]) C dX12_begins_6 rfl (by decide) rfl ?_
  refine g_lv (lv' := [(0, .ref a0), (1, .int a1), (2, .int 0)]) [1, 2, 0] rfl ?_
  exact J7 _ Y1501 0 (Nat.lt_succ_self _) Iy1502 Xz1506 W1505 (by decide) (by omega) (by show (pI Y1501 a0 28).toInt ≤ 0; omega)
theorem dX12_gathers_5 : decode cX12_gathers 5 = .ok (.iconst 0, 1) := by decide +kernel
theorem dX12_gathers_6 : decode cX12_gathers 6 = .ok (.istore 5, 2) := by decide +kernel
theorem dX12_gathers_8 : decode cX12_gathers 8 = .ok (.iload 5, 2) := by decide +kernel
theorem dX12_gathers_10 : decode cX12_gathers 10 = .ok (.iload 4, 2) := by decide +kernel
theorem dX12_gathers_12 : decode cX12_gathers 12 = .ok (.if_icmp .ge 83, 3) := by decide +kernel
theorem dX12_gathers_15 : decode cX12_gathers 15 = .ok (.bipush 40, 2) := by decide +kernel
theorem dX12_gathers_17 : decode cX12_gathers 17 = .ok (.iload_n 1, 1) := by decide +kernel
theorem dX12_gathers_18 : decode cX12_gathers 18 = .ok (.imul, 1) := by decide +kernel
theorem dX12_gathers_19 : decode cX12_gathers 19 = .ok (.iload 5, 2) := by decide +kernel
theorem dX12_gathers_21 : decode cX12_gathers 21 = .ok (.iadd, 1) := by decide +kernel
theorem dX12_gathers_22 : decode cX12_gathers 22 = .ok (.istore 6, 2) := by decide +kernel
theorem dX12_gathers_24 : decode cX12_gathers 24 = .ok (.aload_n 0, 1) := by decide +kernel
theorem dX12_gathers_25 : decode cX12_gathers 25 = .ok (.getfield 75, 3) := by decide +kernel
theorem dX12_gathers_28 : decode cX12_gathers 28 = .ok (.iload 6, 2) := by decide +kernel
theorem dX12_gathers_30 : decode cX12_gathers 30 = .ok (.iaload, 1) := by decide +kernel
theorem dX12_gathers_31 : decode cX12_gathers 31 = .ok (.iload_n 2, 1) := by decide +kernel
theorem dX12_gathers_32 : decode cX12_gathers 32 = .ok (.if_icmp .ne 57, 3) := by decide +kernel
theorem dX12_gathers_35 : decode cX12_gathers 35 = .ok (.aload_n 0, 1) := by decide +kernel
theorem dX12_gathers_36 : decode cX12_gathers 36 = .ok (.getfield 81, 3) := by decide +kernel
theorem dX12_gathers_39 : decode cX12_gathers 39 = .ok (.iload 6, 2) := by decide +kernel
theorem dX12_gathers_41 : decode cX12_gathers 41 = .ok (.iaload, 1) := by decide +kernel
theorem dX12_gathers_42 : decode cX12_gathers 42 = .ok (.iload_n 3, 1) := by decide +kernel
theorem dX12_gathers_43 : decode cX12_gathers 43 = .ok (.ishr, 1) := by decide +kernel
theorem dX12_gathers_44 : decode cX12_gathers 44 = .ok (.iconst 1, 1) := by decide +kernel
theorem dX12_gathers_45 : decode cX12_gathers 45 = .ok (.iand, 1) := by decide +kernel
theorem dX12_gathers_46 : decode cX12_gathers 46 = .ok (.iconst 1, 1) := by decide +kernel
theorem dX12_gathers_47 : decode cX12_gathers 47 = .ok (.if_icmp .ne 42, 3) := by decide +kernel
theorem dX12_gathers_50 : decode cX12_gathers 50 = .ok (.aload_n 0, 1) := by decide +kernel
theorem dX12_gathers_51 : decode cX12_gathers 51 = .ok (.getfield 100, 3) := by decide +kernel
theorem dX12_gathers_54 : decode cX12_gathers 54 = .ok (.iload 5, 2) := by decide +kernel
theorem dX12_gathers_56 : decode cX12_gathers 56 = .ok (.baload, 1) := by decide +kernel
theorem dX12_gathers_57 : decode cX12_gathers 57 = .ok (.ifCond .ne 32, 3) := by decide +kernel
theorem dX12_gathers_60 : decode cX12_gathers 60 = .ok (.aload_n 0, 1) := by decide +kernel
theorem dX12_gathers_61 : decode cX12_gathers 61 = .ok (.aload_n 0, 1) := by decide +kernel
theorem dX12_gathers_62 : decode cX12_gathers 62 = .ok (.iload_n 2, 1) := by decide +kernel
theorem dX12_gathers_63 : decode cX12_gathers 63 = .ok (.aload_n 0, 1) := by decide +kernel
theorem dX12_gathers_64 : decode cX12_gathers 64 = .ok (.getfield 72, 3) := by decide +kernel
theorem dX12_gathers_67 : decode cX12_gathers 67 = .ok (.iload 6, 2) := by decide +kernel
theorem dX12_gathers_69 : decode cX12_gathers 69 = .ok (.iaload, 1) := by decide +kernel
theorem dX12_gathers_70 : decode cX12_gathers 70 = .ok (.invokevirtual 261, 3) := by decide +kernel
theorem dX12_gathers_95 : decode cX12_gathers 95 = .ok (.return_, 1) := by decide +kernel
theorem dX12_setOf_0 : decode cX12_setOf 0 = .ok (.aload_n 0, 1) := by decide +kernel
theorem dX12_setOf_1 : decode cX12_setOf 1 = .ok (.iload_n 2, 1) := by decide +kernel
theorem dX12_setOf_2 : decode cX12_setOf 2 = .ok (.i2l, 1) := by decide +kernel
theorem dX12_setOf_3 : decode cX12_setOf 3 = .ok (.ldc2_w 248, 3) := by decide +kernel
theorem dX12_setOf_6 : decode cX12_setOf 6 = .ok (.lmul, 1) := by decide +kernel
theorem dX12_setOf_7 : decode cX12_setOf 7 = .ok (.iload_n 1, 1) := by decide +kernel
theorem dX12_setOf_8 : decode cX12_setOf 8 = .ok (.i2l, 1) := by decide +kernel
theorem dX12_setOf_9 : decode cX12_setOf 9 = .ok (.ldc2_w 250, 3) := by decide +kernel
theorem dX12_setOf_12 : decode cX12_setOf 12 = .ok (.lmul, 1) := by decide +kernel
theorem dX12_setOf_13 : decode cX12_setOf 13 = .ok (.ladd, 1) := by decide +kernel
theorem dX12_setOf_14 : decode cX12_setOf 14 = .ok (.lconst 1, 1) := by decide +kernel
theorem dX12_setOf_15 : decode cX12_setOf 15 = .ok (.ladd, 1) := by decide +kernel
theorem dX12_setOf_16 : decode cX12_setOf 16 = .ok (.ldc2_w 234, 3) := by decide +kernel
theorem dX12_setOf_19 : decode cX12_setOf 19 = .ok (.lrem, 1) := by decide +kernel
theorem dX12_setOf_20 : decode cX12_setOf 20 = .ok (.putfield 226, 3) := by decide +kernel
theorem dX12_setOf_23 : decode cX12_setOf 23 = .ok (.aload_n 0, 1) := by decide +kernel
theorem dX12_setOf_24 : decode cX12_setOf 24 = .ok (.iload_n 1, 1) := by decide +kernel
theorem dX12_setOf_25 : decode cX12_setOf 25 = .ok (.invokevirtual 252, 3) := by decide +kernel
theorem dX12_howMany_0 : decode cX12_howMany 0 = .ok (.iconst 0, 1) := by decide +kernel
theorem dX12_howMany_1 : decode cX12_howMany 1 = .ok (.istore_n 2, 1) := by decide +kernel
theorem dX12_howMany_2 : decode cX12_howMany 2 = .ok (.iconst 1, 1) := by decide +kernel
theorem dX12_howMany_3 : decode cX12_howMany 3 = .ok (.istore_n 3, 1) := by decide +kernel
theorem dX12_howMany_4 : decode cX12_howMany 4 = .ok (.iload_n 3, 1) := by decide +kernel
theorem dX12_howMany_5 : decode cX12_howMany 5 = .ok (.aload_n 0, 1) := by decide +kernel
theorem dX12_howMany_6 : decode cX12_howMany 6 = .ok (.iload_n 1, 1) := by decide +kernel
theorem dX12_howMany_7 : decode cX12_howMany 7 = .ok (.invokevirtual 238, 3) := by decide +kernel
theorem dX12_allOf_0 : decode cX12_allOf 0 = .ok (.aload_n 0, 1) := by decide +kernel
theorem dX12_allOf_1 : decode cX12_allOf 1 = .ok (.getfield 45, 3) := by decide +kernel
theorem dX12_allOf_4 : decode cX12_allOf 4 = .ok (.iload_n 1, 1) := by decide +kernel
theorem dX12_allOf_5 : decode cX12_allOf 5 = .ok (.iaload, 1) := by decide +kernel
theorem dX12_allOf_6 : decode cX12_allOf 6 = .ok (.ifCond .ne 7, 3) := by decide +kernel
theorem dX12_allOf_9 : decode cX12_allOf 9 = .ok (.iconst 0, 1) := by decide +kernel
theorem dX12_allOf_10 : decode cX12_allOf 10 = .ok (.goto 16, 3) := by decide +kernel
theorem dX12_allOf_13 : decode cX12_allOf 13 = .ok (.aload_n 0, 1) := by decide +kernel
theorem dX12_allOf_14 : decode cX12_allOf 14 = .ok (.getfield 45, 3) := by decide +kernel
theorem dX12_allOf_17 : decode cX12_allOf 17 = .ok (.iload_n 1, 1) := by decide +kernel
theorem dX12_allOf_18 : decode cX12_allOf 18 = .ok (.iaload, 1) := by decide +kernel
theorem dX12_allOf_19 : decode cX12_allOf 19 = .ok (.aload_n 0, 1) := by decide +kernel
theorem dX12_allOf_20 : decode cX12_allOf 20 = .ok (.getfield 60, 3) := by decide +kernel
theorem dX12_allOf_23 : decode cX12_allOf 23 = .ok (.iload_n 1, 1) := by decide +kernel
theorem dX12_allOf_24 : decode cX12_allOf 24 = .ok (.iaload, 1) := by decide +kernel
theorem dX12_allOf_25 : decode cX12_allOf 25 = .ok (.iadd, 1) := by decide +kernel
theorem dX12_allOf_26 : decode cX12_allOf 26 = .ok (.ireturn, 1) := by decide +kernel
set_option maxHeartbeats 4000000 in
set_option maxRecDepth 100000 in
theorem s_X12_allOf {P : PP} {a0 : Nat} {a1 : Int32} (I : IM P a0) (ha1 : 0 ≤ a1.toInt ∧ a1.toInt ≤ 1) (hW : MW P a0) : CtrI yX12_allOf cX12_allOf 2 (some Jvm.ClassFile.FieldType.int) ({ frames := 1, cells := 0, slots := 0, locals := 64 } : Room) 0 0 P [.ref a0, .int a1] (fun r P2 => P = P2 ∧ (0 ≤ r.toInt ∧ r.toInt ≤ 20) ∧ (∀ b c, pR P2 a0 10 = some b → pR P2 a0 15 = some c → (r.toInt = 0 ∧ (pI P2 b (a1.toInt.toNat)).toInt = 0) ∨ r.toInt = (pI P2 b (a1.toInt.toNat)).toInt + (pI P2 c (a1.toInt.toNat)).toInt)) := by
  refine enI (lv := [(0, .ref a0), (1, .int a1)]) (by decide) (Nat.le_of_ble_eq_true rfl) rfl (fun E D cy C Ci0 ret => ?_)
  have ha0 := I.2.1
  refine g_aload_n C dX12_allOf_0 rfl 0 rfl ?_
  obtain ⟨b1634, e1635, h1636⟩ := I.fld (ha0) 10 13 2 rfl
  refine g_getR C fi_X12_45 rfl e1635 (ha0).1 (ha0).2 dX12_allOf_1 ?_
  refine g_iload_n C dX12_allOf_4 rfl 1 rfl ?_
  refine g_iald (j := (a1.toInt.toNat)) C h1636.1 h1636.2.1 (ix_in h1636.2.2 (by omega)) dX12_allOf_5 ?_
  have h1637 := I.arr e1635 rfl (a1.toInt.toNat)
  refine b_if_ne C 13 dX12_allOf_6 (by decide) (fun h1638 => ?_) (fun h1638 => ?_)
  · have h1638 : (pI P b1634 (a1.toInt.toNat)).toInt ≠ 0 := ti_ne h1638
    refine g_aload_n C dX12_allOf_13 rfl 0 rfl ?_
    refine g_getR C fi_X12_45 rfl e1635 (ha0).1 (ha0).2 dX12_allOf_14 ?_
    refine g_iload_n C dX12_allOf_17 rfl 1 rfl ?_
    refine g_iald (j := (a1.toInt.toNat)) C h1636.1 h1636.2.1 (ix_in h1636.2.2 (by omega)) dX12_allOf_18 ?_
    refine g_aload_n C dX12_allOf_19 rfl 0 rfl ?_
    obtain ⟨b1639, e1640, h1641⟩ := I.fld (ha0) 15 13 3 rfl
    refine g_getR C fi_X12_60 rfl e1640 (ha0).1 (ha0).2 dX12_allOf_20 ?_
    refine g_iload_n C dX12_allOf_23 rfl 1 rfl ?_
    refine g_iald (j := (a1.toInt.toNat)) C h1641.1 h1641.2.1 (ix_in h1641.2.2 (by omega)) dX12_allOf_24 ?_
    have h1642 := I.arr e1640 rfl (a1.toInt.toNat)
    refine s_iadd C dX12_allOf_25 (by show -2147483648 ≤ (pI P b1634 (a1.toInt.toNat)).toInt + (pI P b1639 (a1.toInt.toNat)).toInt ∧ (pI P b1634 (a1.toInt.toNat)).toInt + (pI P b1639 (a1.toInt.toNat)).toInt ≤ 2147483647; omega) (fun z1643 h1644 => ?_)
    have h1644 : z1643.toInt = (pI P b1634 (a1.toInt.toNat)).toInt + (pI P b1639 (a1.toInt.toNat)).toInt := h1644
    exact ret _ _ _ _ _ _ dX12_allOf_26 rfl (by decide) (by decide) ⟨rfl, (by omega), (fun b9 c9 e9 f9 => by rw [e1635] at e9; cases e9; rw [e1640] at f9; cases f9; show (z1643.toInt = 0 ∧ (pI P b1634 (a1.toInt.toNat)).toInt = 0) ∨ z1643.toInt = (pI P b1634 (a1.toInt.toNat)).toInt + (pI P b1639 (a1.toInt.toNat)).toInt; omega)⟩
  · have h1638 : (pI P b1634 (a1.toInt.toNat)).toInt = 0 := congrArg Int32.toInt h1638
    refine g_iconst (v := 0) C dX12_allOf_9 (by decide) ?_
    refine g_goto C 26 dX12_allOf_10 (by decide) ?_
    obtain ⟨b1645, e1646, h1647⟩ := I.fld (ha0) 15 13 3 rfl
    exact ret _ _ _ _ _ _ dX12_allOf_26 rfl (by decide) (by decide) ⟨rfl, (by decide), (fun b9 c9 e9 f9 => by rw [e1635] at e9; cases e9; rw [e1646] at f9; cases f9; show ((0 : Int) = 0 ∧ (pI P b1634 (a1.toInt.toNat)).toInt = 0) ∨ (0 : Int) = (pI P b1634 (a1.toInt.toNat)).toInt + (pI P b1645 (a1.toInt.toNat)).toInt; omega)⟩
theorem dX12_howMany_10 : decode cX12_howMany 10 = .ok (.if_icmp .gt 18, 3) := by decide +kernel
theorem dX12_howMany_13 : decode cX12_howMany 13 = .ok (.iload_n 2, 1) := by decide +kernel
theorem dX12_howMany_14 : decode cX12_howMany 14 = .ok (.aload_n 0, 1) := by decide +kernel
theorem dX12_howMany_15 : decode cX12_howMany 15 = .ok (.iload_n 1, 1) := by decide +kernel
theorem dX12_howMany_16 : decode cX12_howMany 16 = .ok (.iload_n 3, 1) := by decide +kernel
theorem dX12_howMany_17 : decode cX12_howMany 17 = .ok (.invokevirtual 241, 3) := by decide +kernel
theorem dX12_howMany_28 : decode cX12_howMany 28 = .ok (.iload_n 2, 1) := by decide +kernel
theorem dX12_howMany_29 : decode cX12_howMany 29 = .ok (.ifCond .ne 5, 3) := by decide +kernel
theorem dX12_howMany_32 : decode cX12_howMany 32 = .ok (.iconst 1, 1) := by decide +kernel
theorem dX12_howMany_33 : decode cX12_howMany 33 = .ok (.ireturn, 1) := by decide +kernel
theorem dX12_oddsOf_0 : decode cX12_oddsOf 0 = .ok (.aload_n 0, 1) := by decide +kernel
theorem dX12_oddsOf_1 : decode cX12_oddsOf 1 = .ok (.getfield 51, 3) := by decide +kernel
theorem dX12_oddsOf_4 : decode cX12_oddsOf 4 = .ok (.bipush 21, 2) := by decide +kernel
theorem dX12_oddsOf_6 : decode cX12_oddsOf 6 = .ok (.iload_n 1, 1) := by decide +kernel
theorem dX12_oddsOf_7 : decode cX12_oddsOf 7 = .ok (.imul, 1) := by decide +kernel
theorem dX12_oddsOf_8 : decode cX12_oddsOf 8 = .ok (.iload_n 2, 1) := by decide +kernel
theorem dX12_oddsOf_9 : decode cX12_oddsOf 9 = .ok (.iadd, 1) := by decide +kernel
theorem dX12_oddsOf_10 : decode cX12_oddsOf 10 = .ok (.iaload, 1) := by decide +kernel
theorem dX12_oddsOf_11 : decode cX12_oddsOf 11 = .ok (.ifCond .ge 7, 3) := by decide +kernel
theorem dX12_oddsOf_14 : decode cX12_oddsOf 14 = .ok (.iconst 0, 1) := by decide +kernel
theorem dX12_oddsOf_15 : decode cX12_oddsOf 15 = .ok (.goto 14, 3) := by decide +kernel
theorem dX12_oddsOf_18 : decode cX12_oddsOf 18 = .ok (.aload_n 0, 1) := by decide +kernel
theorem dX12_oddsOf_19 : decode cX12_oddsOf 19 = .ok (.getfield 51, 3) := by decide +kernel
theorem dX12_oddsOf_22 : decode cX12_oddsOf 22 = .ok (.bipush 21, 2) := by decide +kernel
theorem dX12_oddsOf_24 : decode cX12_oddsOf 24 = .ok (.iload_n 1, 1) := by decide +kernel
theorem dX12_oddsOf_25 : decode cX12_oddsOf 25 = .ok (.imul, 1) := by decide +kernel
theorem dX12_oddsOf_26 : decode cX12_oddsOf 26 = .ok (.iload_n 2, 1) := by decide +kernel
theorem dX12_oddsOf_27 : decode cX12_oddsOf 27 = .ok (.iadd, 1) := by decide +kernel
theorem dX12_oddsOf_28 : decode cX12_oddsOf 28 = .ok (.iaload, 1) := by decide +kernel
theorem dX12_oddsOf_29 : decode cX12_oddsOf 29 = .ok (.ireturn, 1) := by decide +kernel
set_option maxHeartbeats 4000000 in
set_option maxRecDepth 100000 in
theorem s_X12_oddsOf {P : PP} {a0 : Nat} {a1 : Int32} {a2 : Int32} (I : IM P a0) (ha1 : 0 ≤ a1.toInt ∧ a1.toInt ≤ 1) (ha2 : 0 ≤ a2.toInt ∧ a2.toInt ≤ 20) (hW : MW P a0) : CtrI yX12_oddsOf cX12_oddsOf 3 (some Jvm.ClassFile.FieldType.int) ({ frames := 1, cells := 0, slots := 0, locals := 64 } : Room) 0 0 P [.ref a0, .int a1, .int a2] (fun r P2 => P = P2 ∧ (0 ≤ r.toInt ∧ r.toInt ≤ 999) ∧ (∀ b, pR P2 a0 12 = some b → r.toInt = opos (pI P2 b (21 * a1.toInt + a2.toInt).toNat))) := by
  refine enI (lv := [(0, .ref a0), (1, .int a1), (2, .int a2)]) (by decide) (Nat.le_of_ble_eq_true rfl) rfl (fun E D cy C Ci0 ret => ?_)
  have ha0 := I.2.1
  refine g_aload_n C dX12_oddsOf_0 rfl 0 rfl ?_
  obtain ⟨b1694, e1695, h1696⟩ := I.fld (ha0) 12 13 63 rfl
  refine g_getR C fi_X12_51 rfl e1695 (ha0).1 (ha0).2 dX12_oddsOf_1 ?_
  refine g_bipush (v := 21) C dX12_oddsOf_4 (by decide) ?_
  refine g_iload_n C dX12_oddsOf_6 rfl 1 rfl ?_
  refine s_imul C dX12_oddsOf_7 (by show -2147483648 ≤ 21 * a1.toInt ∧ 21 * a1.toInt ≤ 2147483647; omega) (fun z1697 h1698 => ?_)
  have h1698 : z1697.toInt = 21 * a1.toInt := h1698
  refine g_iload_n C dX12_oddsOf_8 rfl 2 rfl ?_
  refine s_iadd C dX12_oddsOf_9 (by show -2147483648 ≤ z1697.toInt + a2.toInt ∧ z1697.toInt + a2.toInt ≤ 2147483647; omega) (fun z1699 h1700 => ?_)
  have h1700 : z1699.toInt = z1697.toInt + a2.toInt := h1700
  refine g_iald (j := (z1699.toInt.toNat)) C h1696.1 h1696.2.1 (ix_in h1696.2.2 (by omega)) dX12_oddsOf_10 ?_
  have h1701 := I.arr e1695 rfl (z1699.toInt.toNat)
  refine b_if_ge C 18 dX12_oddsOf_11 (by decide) (fun h1702 => ?_) (fun h1702 => ?_)
  · have h1702 : 0 ≤ (pI P b1694 (z1699.toInt.toNat)).toInt := h1702
    refine g_aload_n C dX12_oddsOf_18 rfl 0 rfl ?_
    refine g_getR C fi_X12_51 rfl e1695 (ha0).1 (ha0).2 dX12_oddsOf_19 ?_
    refine g_bipush (v := 21) C dX12_oddsOf_22 (by decide) ?_
    refine g_iload_n C dX12_oddsOf_24 rfl 1 rfl ?_
    refine s_imul C dX12_oddsOf_25 (by show -2147483648 ≤ 21 * a1.toInt ∧ 21 * a1.toInt ≤ 2147483647; omega) (fun z1703 h1704 => ?_)
    have h1704 : z1703.toInt = 21 * a1.toInt := h1704
    refine g_iload_n C dX12_oddsOf_26 rfl 2 rfl ?_
    refine s_iadd C dX12_oddsOf_27 (by show -2147483648 ≤ z1703.toInt + a2.toInt ∧ z1703.toInt + a2.toInt ≤ 2147483647; omega) (fun z1705 h1706 => ?_)
    have h1706 : z1705.toInt = z1703.toInt + a2.toInt := h1706
    refine g_iald (j := (z1705.toInt.toNat)) C h1696.1 h1696.2.1 (ix_in h1696.2.2 (by omega)) dX12_oddsOf_28 ?_
    have h1707 := I.arr e1695 rfl (z1705.toInt.toNat)
    have hk1708 : (pI P b1694 (z1699.toInt.toNat)).toInt = (pI P b1694 (21 * a1.toInt + a2.toInt).toNat).toInt := by rw [show z1699.toInt.toNat = (21 * a1.toInt + a2.toInt).toNat by omega]
    have hk1709 : (pI P b1694 (z1705.toInt.toNat)).toInt = (pI P b1694 (21 * a1.toInt + a2.toInt).toNat).toInt := by rw [show z1705.toInt.toNat = (21 * a1.toInt + a2.toInt).toNat by omega]
    exact ret _ _ _ _ _ _ dX12_oddsOf_29 rfl (by decide) (by decide) ⟨rfl, (by omega), (fun b9 e9 => by rw [e1695] at e9; cases e9; show (pI P b1694 (z1705.toInt.toNat)).toInt = opos (pI P b1694 (21 * a1.toInt + a2.toInt).toNat); unfold opos; split <;> omega)⟩
  · have h1702 : (pI P b1694 (z1699.toInt.toNat)).toInt < 0 := h1702
    refine g_iconst (v := 0) C dX12_oddsOf_14 (by decide) ?_
    refine g_goto C 29 dX12_oddsOf_15 (by decide) ?_
    have hk1710 : (pI P b1694 (z1699.toInt.toNat)).toInt = (pI P b1694 (21 * a1.toInt + a2.toInt).toNat).toInt := by rw [show z1699.toInt.toNat = (21 * a1.toInt + a2.toInt).toNat by omega]
    exact ret _ _ _ _ _ _ dX12_oddsOf_29 rfl (by decide) (by decide) ⟨rfl, (by decide), (fun b9 e9 => by rw [e1695] at e9; cases e9; show (0 : Int) = opos (pI P b1694 (21 * a1.toInt + a2.toInt).toNat); unfold opos; split <;> omega)⟩
theorem dX12_howMany_20 : decode cX12_howMany 20 = .ok (.iadd, 1) := by decide +kernel
theorem dX12_howMany_21 : decode cX12_howMany 21 = .ok (.istore_n 2, 1) := by decide +kernel
theorem dX12_howMany_22 : decode cX12_howMany 22 = .ok (.iinc 3 1, 3) := by decide +kernel
theorem dX12_howMany_25 : decode cX12_howMany 25 = .ok (.goto (-21), 3) := by decide +kernel
theorem dX12_howMany_34 : decode cX12_howMany 34 = .ok (.aload_n 0, 1) := by decide +kernel
theorem dX12_howMany_35 : decode cX12_howMany 35 = .ok (.invokevirtual 244, 3) := by decide +kernel
theorem dX12_drawn_0 : decode cX12_drawn 0 = .ok (.aload_n 0, 1) := by decide +kernel
theorem dX12_drawn_1 : decode cX12_drawn 1 = .ok (.aload_n 0, 1) := by decide +kernel
theorem dX12_drawn_2 : decode cX12_drawn 2 = .ok (.getfield 226, 3) := by decide +kernel
theorem dX12_drawn_5 : decode cX12_drawn 5 = .ok (.ldc2_w 230, 3) := by decide +kernel
theorem dX12_drawn_8 : decode cX12_drawn 8 = .ok (.lmul, 1) := by decide +kernel
theorem dX12_drawn_9 : decode cX12_drawn 9 = .ok (.ldc2_w 232, 3) := by decide +kernel
theorem dX12_drawn_12 : decode cX12_drawn 12 = .ok (.ladd, 1) := by decide +kernel
theorem dX12_drawn_13 : decode cX12_drawn 13 = .ok (.ldc2_w 234, 3) := by decide +kernel
theorem dX12_drawn_16 : decode cX12_drawn 16 = .ok (.lrem, 1) := by decide +kernel
theorem dX12_drawn_17 : decode cX12_drawn 17 = .ok (.putfield 226, 3) := by decide +kernel
theorem dX12_drawn_20 : decode cX12_drawn 20 = .ok (.aload_n 0, 1) := by decide +kernel
theorem dX12_drawn_21 : decode cX12_drawn 21 = .ok (.getfield 226, 3) := by decide +kernel
theorem dX12_drawn_24 : decode cX12_drawn 24 = .ok (.ldc2_w 236, 3) := by decide +kernel
theorem dX12_drawn_27 : decode cX12_drawn 27 = .ok (.ldiv, 1) := by decide +kernel
theorem dX12_drawn_28 : decode cX12_drawn 28 = .ok (.l2i, 1) := by decide +kernel
theorem dX12_drawn_29 : decode cX12_drawn 29 = .ok (.ireturn, 1) := by decide +kernel
set_option maxHeartbeats 4000000 in
set_option maxRecDepth 100000 in
theorem s_X12_drawn {P : PP} {a0 : Nat} (I : IM P a0) (hW : MW P a0) : CtrI yX12_drawn cX12_drawn 1 (some Jvm.ClassFile.FieldType.int) ({ frames := 1, cells := 0, slots := 0, locals := 64 } : Room) 0 0 P [.ref a0] (fun r P2 => IM P2 a0 ∧ EM [] a0 P P2 ∧ MW P2 a0 ∧ (True)) := by
  refine enI (lv := [(0, .ref a0)]) (by decide) (Nat.le_of_ble_eq_true rfl) rfl (fun E D cy C Ci0 ret => ?_)
  have ha0 := I.2.1
  refine g_aload_n C dX12_drawn_0 rfl 0 rfl ?_
  refine g_aload_n C dX12_drawn_1 rfl 0 rfl ?_
  refine g_getJ C fi_X12_226 rfl (ha0).1 (ha0).2 dX12_drawn_2 ?_
  refine g_topl (fun l1783 _ => ?_)
  refine g_ldc2 (v := 1103515245) C kl_X12_230 dX12_drawn_5 ?_
  refine g_topl (fun l1784 el1784 => ?_)
  have hz_l1784 : ¬ l1784 = 0 := by rw [el1784]; decide
  refine a_lmul C dX12_drawn_8 (fun l1785 => ?_)
  refine g_ldc2 (v := 12345) C kl_X12_232 dX12_drawn_9 ?_
  refine g_topl (fun l1786 el1786 => ?_)
  have hz_l1786 : ¬ l1786 = 0 := by rw [el1786]; decide
  refine a_ladd C dX12_drawn_12 (fun l1787 => ?_)
  refine g_ldc2 (v := 2147483648) C kl_X12_234 dX12_drawn_13 ?_
  refine g_topl (fun l1788 el1788 => ?_)
  have hz_l1788 : ¬ l1788 = 0 := by rw [el1788]; decide
  refine a_lrem C dX12_drawn_16 hz_l1788 (fun l1789 => ?_)
  refine g_putJ C fi_X12_226 rfl (ha0).1 (ha0).2 dX12_drawn_17 ?_
  refine gq (ks := []) (I.setJ) (EM.setJ) (fun Y1790 Iy1791 Xy1792 => ?_)
  have W1793 := hW.keep I Xy1792 (by decide) (by decide) (by decide) (by decide)
  have Xz1794 : EM [] a0 P Y1790 := Xy1792.mono (by decide)
  have h1795 := Xy1792.at ha0
  refine g_aload_n C dX12_drawn_20 rfl 0 rfl ?_
  refine g_getJ C fi_X12_226 rfl (h1795).1 (h1795).2 dX12_drawn_21 ?_
  refine g_topl (fun l1796 _ => ?_)
  refine g_ldc2 (v := 65536) C kl_X12_236 dX12_drawn_24 ?_
  refine g_topl (fun l1797 el1797 => ?_)
  have hz_l1797 : ¬ l1797 = 0 := by rw [el1797]; decide
  refine a_ldiv C dX12_drawn_27 hz_l1797 (fun l1798 => ?_)
  refine a_l2i C dX12_drawn_28 (fun z1799 => ?_)
  exact ret _ _ _ _ _ _ dX12_drawn_29 rfl (by decide) (by decide) ⟨Iy1791, Xz1794, W1793, trivial⟩
theorem dX12_howMany_38 : decode cX12_howMany 38 = .ok (.iload_n 2, 1) := by decide +kernel
theorem dX12_howMany_39 : decode cX12_howMany 39 = .ok (.irem, 1) := by decide +kernel
theorem dX12_howMany_40 : decode cX12_howMany 40 = .ok (.istore_n 3, 1) := by decide +kernel
theorem dX12_howMany_41 : decode cX12_howMany 41 = .ok (.iconst 1, 1) := by decide +kernel
theorem dX12_howMany_42 : decode cX12_howMany 42 = .ok (.istore 4, 2) := by decide +kernel
theorem dX12_howMany_44 : decode cX12_howMany 44 = .ok (.aload_n 0, 1) := by decide +kernel
theorem dX12_howMany_45 : decode cX12_howMany 45 = .ok (.iload_n 1, 1) := by decide +kernel
theorem dX12_howMany_46 : decode cX12_howMany 46 = .ok (.iconst 1, 1) := by decide +kernel
theorem dX12_howMany_47 : decode cX12_howMany 47 = .ok (.invokevirtual 241, 3) := by decide +kernel
theorem dX12_howMany_50 : decode cX12_howMany 50 = .ok (.istore 5, 2) := by decide +kernel
theorem dX12_howMany_52 : decode cX12_howMany 52 = .ok (.iload 5, 2) := by decide +kernel
theorem dX12_howMany_54 : decode cX12_howMany 54 = .ok (.iload_n 3, 1) := by decide +kernel
theorem dX12_howMany_55 : decode cX12_howMany 55 = .ok (.if_icmp .gt 21, 3) := by decide +kernel
theorem dX12_howMany_58 : decode cX12_howMany 58 = .ok (.iinc 4 1, 3) := by decide +kernel
theorem dX12_howMany_61 : decode cX12_howMany 61 = .ok (.iload 5, 2) := by decide +kernel
theorem dX12_howMany_63 : decode cX12_howMany 63 = .ok (.aload_n 0, 1) := by decide +kernel
theorem dX12_howMany_64 : decode cX12_howMany 64 = .ok (.iload_n 1, 1) := by decide +kernel
theorem dX12_howMany_65 : decode cX12_howMany 65 = .ok (.iload 4, 2) := by decide +kernel
theorem dX12_howMany_67 : decode cX12_howMany 67 = .ok (.invokevirtual 241, 3) := by decide +kernel
theorem dX12_howMany_70 : decode cX12_howMany 70 = .ok (.iadd, 1) := by decide +kernel
theorem dX12_howMany_71 : decode cX12_howMany 71 = .ok (.istore 5, 2) := by decide +kernel
theorem dX12_howMany_73 : decode cX12_howMany 73 = .ok (.goto (-21), 3) := by decide +kernel
theorem dX12_howMany_76 : decode cX12_howMany 76 = .ok (.iload 4, 2) := by decide +kernel
theorem dX12_howMany_78 : decode cX12_howMany 78 = .ok (.ireturn, 1) := by decide +kernel
set_option maxHeartbeats 4000000 in
set_option maxRecDepth 100000 in
theorem s_X12_howMany {P : PP} {a0 : Nat} {a1 : Int32} (I : IM P a0) (ha1 : 0 ≤ a1.toInt ∧ a1.toInt ≤ 1) (hf0 : ∀ b, pR P a0 10 = some b → 1 ≤ (pI P b (a1.toInt.toNat)).toInt ∧ (pI P b (a1.toInt.toNat)).toInt ≤ 16) (hW : MW P a0) : CtrI yX12_howMany cX12_howMany 6 (some Jvm.ClassFile.FieldType.int) ({ frames := 2, cells := 0, slots := 0, locals := 128 } : Room) 0 0 P [.ref a0, .int a1] (fun r P2 => IM P2 a0 ∧ EM [] a0 P P2 ∧ MW P2 a0 ∧ (1 ≤ r.toInt ∧ r.toInt ≤ 20) ∧ (∀ b c, pR P2 a0 10 = some b → pR P2 a0 15 = some c → r.toInt ≤ (pI P2 b (a1.toInt.toNat)).toInt + (pI P2 c (a1.toInt.toNat)).toInt)) := by
  refine enI (lv := [(0, .ref a0), (1, .int a1)]) (by decide) (Nat.le_of_ble_eq_true rfl) rfl (fun E D cy C Ci0 ret => ?_)
  have ha0 := I.2.1
  have J52 : ∀ (n52 : Nat) (P52 : PP) (v52_3 : Int32) (v52_4 : Int32) (v52_5 : Int32), (20 - v52_4.toInt).toNat < n52 → (IM P52 a0) → (EM [] a0 P P52) → (MW P52 a0) → (-19979 ≤ v52_3.toInt ∧ v52_3.toInt ≤ 19979) → (1 ≤ v52_4.toInt ∧ v52_4.toInt ≤ 20) → (0 ≤ v52_5.toInt ∧ v52_5.toInt ≤ 19980) → (∀ b, pR P52 a0 10 = some b → 1 ≤ (pI P52 b (a1.toInt.toNat)).toInt ∧ (pI P52 b (a1.toInt.toNat)).toInt ≤ 16) → (∀ b912, pR P52 a0 12 = some b912 → v52_5.toInt = oS (pI P b912) (21 * a1.toInt).toNat (v52_4.toInt : Int).toNat) → (∀ b910 b915, pR P52 a0 10 = some b910 → pR P52 a0 15 = some b915 → 1 ≤ v52_4.toInt ∧ v52_4.toInt ≤ ((pI P b910 (a1.toInt.toNat)).toInt + (pI P b915 (a1.toInt.toNat)).toInt)) → (∀ b910 b912 b915, pR P52 a0 10 = some b910 → pR P52 a0 12 = some b912 → pR P52 a0 15 = some b915 → v52_3.toInt < oS (pI P b912) (21 * a1.toInt).toNat (((pI P b910 (a1.toInt.toNat)).toInt + (pI P b915 (a1.toInt.toNat)).toInt)).toNat) → (0 ≤ v52_5.toInt ∧ v52_5.toInt ≤ 999 * v52_4.toInt) → G E ({ frames := 2, cells := 0, slots := 0, locals := 128 } : Room) D cy 6 P52 0 0 52 [(0, .ref a0), (1, .int a1), (3, .int v52_3), (4, .int v52_4), (5, .int v52_5)] [] := by
    intro n52
    induction n52 with
    | zero => intro P52 v52_3 v52_4 v52_5 hm52 I52 X52 W52 hv52_3 hv52_4 hv52_5 hq52_0 rel52_0 rel52_1 rel52_2 rel52_3; omega
    | succ n52 ih52 =>
      intro P52 v52_3 v52_4 v52_5 hm52 I52 X52 W52 hv52_3 hv52_4 hv52_5 hq52_0 rel52_0 rel52_1 rel52_2 rel52_3
      have h2701 := X52.at ha0
      obtain ⟨b2702, e2703, h2704⟩ := I52.fld (h2701) 10 13 2 rfl
      have hq52_0 := hq52_0 b2702 e2703
      obtain ⟨b2705, e2706, h2707⟩ := I52.fld (h2701) 12 13 63 rfl
      have rel52_0 := rel52_0 b2705 e2706
      obtain ⟨b2708, e2709, h2710⟩ := I52.fld (h2701) 15 13 3 rfl
      have rel52_1 := rel52_1 b2702 b2708 e2703 e2709
      have h2711 := I.arr (EM.refB X52 ha0 e2703) rfl (a1.toInt.toNat)
      have h2712 := I.arr (EM.refB X52 ha0 e2709) rfl (a1.toInt.toNat)
      have rel52_2 := rel52_2 b2702 b2705 b2708 e2703 e2706 e2709
      have h2713 := I.arr (EM.refB X52 ha0 e2703) rfl (a1.toInt.toNat)
      have h2714 := I.arr (EM.refB X52 ha0 e2709) rfl (a1.toInt.toNat)
      refine g_iload C dX12_howMany_52 4 rfl ?_
      refine g_iload_n C dX12_howMany_54 rfl 2 rfl ?_
      refine b_icmp_gt C 76 dX12_howMany_55 (by decide) (fun h2715 => ?_) (fun h2715 => ?_)
      · have h2715 : v52_3.toInt < v52_5.toInt := h2715
        refine g_iload C dX12_howMany_76 3 rfl ?_
        exact ret _ _ _ _ _ _ dX12_howMany_78 rfl (by decide) (by decide) ⟨I52, X52, W52, (by omega), (fun b9 c9 e9 f9 => by rw [e2703] at e9; cases e9; rw [e2709] at f9; cases f9; have k1 := X52.keepA (EM.refB X52 ha0 e2703) (by decide) rfl (a1.toInt.toNat); have k2 := X52.keepA (EM.refB X52 ha0 e2709) (by decide) rfl (a1.toInt.toNat); show v52_4.toInt ≤ (pI P52 b2702 (a1.toInt.toNat)).toInt + (pI P52 b2708 (a1.toInt.toNat)).toInt; omega)⟩
      · have h2715 : v52_5.toInt ≤ v52_3.toInt := h2715
        refine s_iinc (lv0 := [(0, .ref a0), (1, .int a1), (3, .int v52_3), (5, .int v52_5)]) (m := 1) C dX12_howMany_58 3 rfl (by decide) rfl (by decide) (by omega) (fun z2716 h2717 => ?_)
        have h2717 : z2716.toInt = v52_4.toInt + 1 := h2717
        have hd : v52_4.toInt ≠ (pI P b2702 (a1.toInt.toNat)).toInt + (pI P b2708 (a1.toInt.toNat)).toInt := fun h9 => by have h8 := rel52_2; rw [show ((pI P b2702 (a1.toInt.toNat)).toInt + (pI P b2708 (a1.toInt.toNat)).toInt).toNat = v52_4.toInt.toNat by omega] at h8; omega
        refine g_iload C dX12_howMany_61 4 rfl ?_
        refine g_aload_n C dX12_howMany_63 rfl 1 rfl ?_
        refine g_iload_n C dX12_howMany_64 rfl 2 rfl ?_
        refine g_iload C dX12_howMany_65 0 rfl ?_
        refine g_callVI (rest := [.int v52_5]) C mv_X12_241 [.int a1, .int z2716] (s_X12_oddsOf I52 (by omega) (by omega) W52) (h2701).1 (h2701).2 rfl rfl (by decide) (Nat.le_of_ble_eq_true rfl) (by decide) dX12_howMany_67 (fun r2718 Y2719 h2720 => ?_)
        obtain ⟨rfl, h2720⟩ := h2720
        obtain ⟨h2720, hi2721⟩ := h2720
        have hi2721 := hi2721 b2705 e2706
        rw [X52.2.2.2 12 (by decide) rfl b2705 (EM.refB X52 ha0 e2706)] at hi2721
        have hi2721 : r2718.toInt = opos (pI P b2705 (21 * a1.toInt + z2716.toInt).toNat) := hi2721
        have h2720 : 0 ≤ r2718.toInt ∧ r2718.toInt ≤ 999 := h2720
        refine s_iadd C dX12_howMany_70 (by show -2147483648 ≤ v52_5.toInt + r2718.toInt ∧ v52_5.toInt + r2718.toInt ≤ 2147483647; omega) (fun z2722 h2723 => ?_)
        have h2723 : z2722.toInt = v52_5.toInt + r2718.toInt := h2723
        refine g_istore (lv' := [(5, .int z2722), (4, .int z2716), (0, .ref a0), (1, .int a1), (3, .int v52_3)]) C dX12_howMany_71 (by decide) rfl ?_
        have st := oS_step2 (f := pI P b2705) (o := (21 * a1.toInt).toNat) (k := (21 * a1.toInt + z2716.toInt).toNat) (d := v52_4.toInt) (d2 := z2716.toInt) (by omega) (by omega) (by omega)
        refine g_goto C 52 dX12_howMany_73 (by decide) ?_
        refine g_lv (lv' := [(0, .ref a0), (1, .int a1), (3, .int v52_3), (4, .int z2716), (5, .int z2722)]) [2, 3, 4, 1, 0] rfl ?_
        exact ih52 P52 v52_3 z2716 z2722 (by omega) I52 X52 W52 (by omega) (by omega) (by omega) (fun b9 e9 => by rw [e2703] at e9; cases e9; omega) (by intro b912 e912; rw [e2706] at e912; cases e912; show z2722.toInt = oS (pI P b2705) (21 * a1.toInt).toNat (z2716.toInt : Int).toNat; omega) (by intro b910 b915 e910 e915; rw [e2703] at e910; cases e910; rw [e2709] at e915; cases e915; show 1 ≤ z2716.toInt ∧ z2716.toInt ≤ ((pI P b2702 (a1.toInt.toNat)).toInt + (pI P b2708 (a1.toInt.toNat)).toInt); omega) (by intro b910 b912 b915 e910 e912 e915; rw [e2703] at e910; cases e910; rw [e2706] at e912; cases e912; rw [e2709] at e915; cases e915; show v52_3.toInt < oS (pI P b2705) (21 * a1.toInt).toNat (((pI P b2702 (a1.toInt.toNat)).toInt + (pI P b2708 (a1.toInt.toNat)).toInt)).toNat; omega) (by show 0 ≤ z2722.toInt ∧ z2722.toInt ≤ 999 * z2716.toInt; omega)
  have J4 : ∀ (n4 : Nat) (v4_2 : Int32) (v4_3 : Int32), (21 - v4_3.toInt).toNat < n4 → (0 ≤ v4_2.toInt ∧ v4_2.toInt ≤ 19980) → (1 ≤ v4_3.toInt ∧ v4_3.toInt ≤ 21) → (∀ b, pR P a0 10 = some b → 1 ≤ (pI P b (a1.toInt.toNat)).toInt ∧ (pI P b (a1.toInt.toNat)).toInt ≤ 16) → (∀ b912, pR P a0 12 = some b912 → v4_2.toInt = oS (pI P b912) (21 * a1.toInt).toNat (v4_3.toInt - 1 : Int).toNat) → (∀ b910 b915, pR P a0 10 = some b910 → pR P a0 15 = some b915 → v4_3.toInt ≤ ((pI P b910 (a1.toInt.toNat)).toInt + (pI P b915 (a1.toInt.toNat)).toInt) + 1) → (0 ≤ v4_2.toInt ∧ v4_2.toInt ≤ 999 * (v4_3.toInt - 1)) → G E ({ frames := 2, cells := 0, slots := 0, locals := 128 } : Room) D cy 6 P 0 0 4 [(0, .ref a0), (1, .int a1), (2, .int v4_2), (3, .int v4_3)] [] := by
    intro n4
    induction n4 with
    | zero => intro v4_2 v4_3 hm4 hv4_2 hv4_3 hq4_0 rel4_0 rel4_1 rel4_2; omega
    | succ n4 ih4 =>
      intro v4_2 v4_3 hm4 hv4_2 hv4_3 hq4_0 rel4_0 rel4_1 rel4_2
      obtain ⟨b2724, e2725, h2726⟩ := I.fld (ha0) 10 13 2 rfl
      have hq4_0 := hq4_0 b2724 e2725
      obtain ⟨b2727, e2728, h2729⟩ := I.fld (ha0) 12 13 63 rfl
      have rel4_0 := rel4_0 b2727 e2728
      obtain ⟨b2730, e2731, h2732⟩ := I.fld (ha0) 15 13 3 rfl
      have rel4_1 := rel4_1 b2724 b2730 e2725 e2731
      have h2733 := I.arr e2725 rfl (a1.toInt.toNat)
      have h2734 := I.arr e2731 rfl (a1.toInt.toNat)
      refine g_iload_n C dX12_howMany_4 rfl 3 rfl ?_
      refine g_aload_n C dX12_howMany_5 rfl 0 rfl ?_
      refine g_iload_n C dX12_howMany_6 rfl 1 rfl ?_
      refine g_callVI (rest := [.int v4_3]) C mv_X12_238 [.int a1] (s_X12_allOf I (by omega) hW) (ha0).1 (ha0).2 rfl rfl (by decide) (Nat.le_of_ble_eq_true rfl) (by decide) dX12_howMany_7 (fun r2735 Y2736 h2737 => ?_)
      obtain ⟨rfl, h2737⟩ := h2737
      obtain ⟨h2737, hi2738⟩ := h2737
      have hi2738 : (r2735.toInt = 0 ∧ (pI P b2724 (a1.toInt.toNat)).toInt = 0) ∨ r2735.toInt = (pI P b2724 (a1.toInt.toNat)).toInt + (pI P b2730 (a1.toInt.toNat)).toInt := hi2738 b2724 b2730 e2725 e2731
      have h2739 := I.arr e2731 rfl (a1.toInt.toNat)
      have h2737 : 0 ≤ r2735.toInt ∧ r2735.toInt ≤ 20 := h2737
      refine b_icmp_gt C 28 dX12_howMany_10 (by decide) (fun h2740 => ?_) (fun h2740 => ?_)
      · have h2740 : r2735.toInt < v4_3.toInt := h2740
        refine g_iload_n C dX12_howMany_28 rfl 2 rfl ?_
        refine b_if_ne C 34 dX12_howMany_29 (by decide) (fun h2741 => ?_) (fun h2741 => ?_)
        · have h2741 : v4_2.toInt ≠ 0 := ti_ne h2741
          have htot : v4_2.toInt = oS (pI P b2727) (21 * a1.toInt).toNat ((pI P b2724 (a1.toInt.toNat)).toInt + (pI P b2730 (a1.toInt.toNat)).toInt).toNat := by rw [show ((pI P b2724 (a1.toInt.toNat)).toInt + (pI P b2730 (a1.toInt.toNat)).toInt).toNat = (v4_3.toInt - 1).toNat by omega]; omega
          refine g_aload_n C dX12_howMany_34 rfl 0 rfl ?_
          refine g_callVI (rest := []) C mv_X12_244 [] (s_X12_drawn I hW) (ha0).1 (ha0).2 rfl rfl (by decide) (Nat.le_of_ble_eq_true rfl) (by decide) dX12_howMany_35 (fun r2742 Y2743 h2744 => ?_)
          obtain ⟨Iy2745, Xy2746, W2747, h2744⟩ := h2744
          have q2748 := Xy2746.keepA e2725 (by decide) rfl (a1.toInt.toNat)
          have q2749 := Xy2746.keepA e2731 (by decide) rfl (a1.toInt.toNat)
          have Xz2750 : EM [] a0 P Y2743 := Xy2746.mono (by decide)
          have e2751 := Xy2746.ref ha0 (by decide) e2725
          have e2752 := Xy2746.ref ha0 (by decide) e2731
          have h2753 := Xy2746.at ha0
          have h2754 := Xy2746.ar h2726
          have h2755 := Xy2746.ar h2732
          have h2744 : True := h2744
          refine g_iload_n C dX12_howMany_38 rfl 2 rfl ?_
          refine s_irem C dX12_howMany_39 (by show 0 < v4_2.toInt; omega) (fun z2756 h2757 => ?_)
          have h2757 : -v4_2.toInt < z2756.toInt ∧ z2756.toInt < v4_2.toInt := h2757
          refine g_istore_n (lv' := [(3, .int z2756), (0, .ref a0), (1, .int a1), (2, .int v4_2)]) C dX12_howMany_40 rfl (by decide) rfl ?_
          refine g_iconst (v := 1) C dX12_howMany_41 (by decide) ?_
          refine g_istore (lv' := [(4, .int 1), (3, .int z2756), (0, .ref a0), (1, .int a1), (2, .int v4_2)]) C dX12_howMany_42 (by decide) rfl ?_
          refine g_aload_n C dX12_howMany_44 rfl 2 rfl ?_
          refine g_iload_n C dX12_howMany_45 rfl 3 rfl ?_
          refine g_iconst (v := 1) C dX12_howMany_46 (by decide) ?_
          refine g_callVI (rest := []) C mv_X12_241 [.int a1, .int 1] (s_X12_oddsOf Iy2745 (by omega) (by decide) W2747) (h2753).1 (h2753).2 rfl rfl (by decide) (Nat.le_of_ble_eq_true rfl) (by decide) dX12_howMany_47 (fun r2758 Y2759 h2760 => ?_)
          obtain ⟨rfl, h2760⟩ := h2760
          obtain ⟨h2760, hi2761⟩ := h2760
          obtain ⟨b2762, e2763, h2764⟩ := Iy2745.fld (h2753) 12 13 63 rfl
          have hi2761 := hi2761 b2762 e2763
          rw [Xz2750.2.2.2 12 (by decide) rfl b2762 (EM.refB Xz2750 ha0 e2763)] at hi2761
          have hi2761 : r2758.toInt = opos (pI P b2762 (21 * a1.toInt + 1).toNat) := hi2761
          have h2760 : 0 ≤ r2758.toInt ∧ r2758.toInt ≤ 999 := h2760
          have hb9 : b2762 = b2727 := Option.some.inj ((EM.refB Xz2750 ha0 e2763).symm.trans (e2728))
          subst hb9
          have s1 := oS_first (f := pI P b2762) (o := (21 * a1.toInt).toNat) (k := (21 * a1.toInt + 1).toNat) (by omega)
          refine g_istore (lv' := [(5, .int r2758), (4, .int 1), (3, .int z2756), (0, .ref a0), (1, .int a1), (2, .int v4_2)]) C dX12_howMany_50 (by decide) rfl ?_
          refine g_lv (lv' := [(0, .ref a0), (1, .int a1), (3, .int z2756), (4, .int 1), (5, .int r2758)]) [3, 4, 2, 1, 0] rfl ?_
          exact J52 _ Y2743 z2756 1 r2758 (Nat.lt_succ_self _) Iy2745 Xz2750 W2747 (by omega) (by decide) (by omega) (fun b9 e9 => by rw [e2751] at e9; cases e9; omega) (by intro b912 e912; rw [e2763] at e912; cases e912; show r2758.toInt = oS (pI P b2762) (21 * a1.toInt).toNat (1 : Int).toNat; omega) (by intro b910 b915 e910 e915; rw [e2751] at e910; cases e910; rw [e2752] at e915; cases e915; show 1 ≤ 1 ∧ 1 ≤ ((pI P b2724 (a1.toInt.toNat)).toInt + (pI P b2730 (a1.toInt.toNat)).toInt); omega) (by intro b910 b912 b915 e910 e912 e915; rw [e2751] at e910; cases e910; rw [e2763] at e912; cases e912; rw [e2752] at e915; cases e915; show z2756.toInt < oS (pI P b2762) (21 * a1.toInt).toNat (((pI P b2724 (a1.toInt.toNat)).toInt + (pI P b2730 (a1.toInt.toNat)).toInt)).toNat; omega) (by show 0 ≤ r2758.toInt ∧ r2758.toInt ≤ 999 * 1; omega)
        · have h2741 : v4_2.toInt = 0 := congrArg Int32.toInt h2741
          refine g_iconst (v := 1) C dX12_howMany_32 (by decide) ?_
          exact ret _ _ _ _ _ _ dX12_howMany_33 rfl (by decide) (by decide) ⟨I, EM.rf, hW, (by decide), (fun b9 c9 e9 f9 => by rw [e2725] at e9; cases e9; rw [e2731] at f9; cases f9; show (1 : Int) ≤ (pI P b2724 (a1.toInt.toNat)).toInt + (pI P b2730 (a1.toInt.toNat)).toInt; omega)⟩
      · have h2740 : v4_3.toInt ≤ r2735.toInt := h2740
        refine g_iload_n C dX12_howMany_13 rfl 2 rfl ?_
        refine g_aload_n C dX12_howMany_14 rfl 0 rfl ?_
        refine g_iload_n C dX12_howMany_15 rfl 1 rfl ?_
        refine g_iload_n C dX12_howMany_16 rfl 3 rfl ?_
        refine g_callVI (rest := [.int v4_2]) C mv_X12_241 [.int a1, .int v4_3] (s_X12_oddsOf I (by omega) (by omega) hW) (ha0).1 (ha0).2 rfl rfl (by decide) (Nat.le_of_ble_eq_true rfl) (by decide) dX12_howMany_17 (fun r2765 Y2766 h2767 => ?_)
        obtain ⟨rfl, h2767⟩ := h2767
        obtain ⟨h2767, hi2768⟩ := h2767
        have hi2768 := hi2768 b2727 e2728
        have hi2768 : r2765.toInt = opos (pI P b2727 (21 * a1.toInt + v4_3.toInt).toNat) := hi2768
        have h2767 : 0 ≤ r2765.toInt ∧ r2765.toInt ≤ 999 := h2767
        refine s_iadd C dX12_howMany_20 (by show -2147483648 ≤ v4_2.toInt + r2765.toInt ∧ v4_2.toInt + r2765.toInt ≤ 2147483647; omega) (fun z2769 h2770 => ?_)
        have h2770 : z2769.toInt = v4_2.toInt + r2765.toInt := h2770
        refine g_istore_n (lv' := [(2, .int z2769), (0, .ref a0), (1, .int a1), (3, .int v4_3)]) C dX12_howMany_21 rfl (by decide) rfl ?_
        refine s_iinc (lv0 := [(2, .int z2769), (0, .ref a0), (1, .int a1)]) (m := 1) C dX12_howMany_22 3 rfl (by decide) rfl (by decide) (by omega) (fun z2771 h2772 => ?_)
        have h2772 : z2771.toInt = v4_3.toInt + 1 := h2772
        have st := oS_step (f := pI P b2727) (o := (21 * a1.toInt).toNat) (k := (21 * a1.toInt + v4_3.toInt).toNat) (d := v4_3.toInt) (d2 := z2771.toInt) (by omega) (by omega) (by omega)
        refine g_goto C 4 dX12_howMany_25 (by decide) ?_
        refine g_lv (lv' := [(0, .ref a0), (1, .int a1), (2, .int z2769), (3, .int z2771)]) [2, 3, 1, 0] rfl ?_
        exact ih4 z2769 z2771 (by omega) (by omega) (by omega) (fun b9 e9 => by rw [e2725] at e9; cases e9; omega) (by intro b912 e912; rw [e2728] at e912; cases e912; show z2769.toInt = oS (pI P b2727) (21 * a1.toInt).toNat (z2771.toInt - 1 : Int).toNat; omega) (by intro b910 b915 e910 e915; rw [e2725] at e910; cases e910; rw [e2731] at e915; cases e915; show z2771.toInt ≤ ((pI P b2724 (a1.toInt.toNat)).toInt + (pI P b2730 (a1.toInt.toNat)).toInt) + 1; omega) (by show 0 ≤ z2769.toInt ∧ z2769.toInt ≤ 999 * (z2771.toInt - 1); omega)
  obtain ⟨b2773, e2774, h2775⟩ := I.fld (ha0) 10 13 2 rfl
  have hf0 := hf0 b2773 e2774
  have h2776 := I.arr e2774 rfl (a1.toInt.toNat)
  obtain ⟨b2777, e2778, h2779⟩ := I.fld (ha0) 15 13 3 rfl
  have h2780 := I.arr e2778 rfl (a1.toInt.toNat)
  obtain ⟨b2781, e2782, h2783⟩ := I.fld (ha0) 12 13 63 rfl
  have s0 := oS_zero (f := pI P b2781) (o := (21 * a1.toInt).toNat)
  refine g_iconst (v := 0) C dX12_howMany_0 (by decide) ?_
  refine g_istore_n (lv' := [(2, .int 0), (0, .ref a0), (1, .int a1)]) C dX12_howMany_1 rfl (by decide) rfl ?_
  refine g_iconst (v := 1) C dX12_howMany_2 (by decide) ?_
  refine g_istore_n (lv' := [(3, .int 1), (2, .int 0), (0, .ref a0), (1, .int a1)]) C dX12_howMany_3 rfl (by decide) rfl ?_
  refine g_lv (lv' := [(0, .ref a0), (1, .int a1), (2, .int 0), (3, .int 1)]) [2, 3, 1, 0] rfl ?_
  exact J4 _ 0 1 (Nat.lt_succ_self _) (by decide) (by decide) (fun b9 e9 => by rw [e2774] at e9; cases e9; omega) (by intro b912 e912; rw [e2782] at e912; cases e912; show 0 = oS (pI P b2781) (21 * a1.toInt).toNat (1 - 1 : Int).toNat; omega) (by intro b910 b915 e910 e915; rw [e2774] at e910; cases e910; rw [e2778] at e915; cases e915; show 1 ≤ ((pI P b2773 (a1.toInt.toNat)).toInt + (pI P b2777 (a1.toInt.toNat)).toInt) + 1; omega) (by show 0 ≤ 0 ∧ 0 ≤ 999 * (1 - 1); omega)
theorem dX12_setOf_28 : decode cX12_setOf 28 = .ok (.istore_n 3, 1) := by decide +kernel
theorem dX12_setOf_29 : decode cX12_setOf 29 = .ok (.iconst 0, 1) := by decide +kernel
theorem dX12_setOf_30 : decode cX12_setOf 30 = .ok (.istore 4, 2) := by decide +kernel
theorem dX12_setOf_32 : decode cX12_setOf 32 = .ok (.iconst 0, 1) := by decide +kernel
theorem dX12_setOf_33 : decode cX12_setOf 33 = .ok (.istore 5, 2) := by decide +kernel
theorem dX12_setOf_35 : decode cX12_setOf 35 = .ok (.iload 5, 2) := by decide +kernel
theorem dX12_setOf_37 : decode cX12_setOf 37 = .ok (.iload_n 3, 1) := by decide +kernel
theorem dX12_setOf_38 : decode cX12_setOf 38 = .ok (.if_icmp .ge 136, 3) := by decide +kernel
theorem dX12_setOf_41 : decode cX12_setOf 41 = .ok (.iconst 0, 1) := by decide +kernel
theorem dX12_setOf_42 : decode cX12_setOf 42 = .ok (.istore 6, 2) := by decide +kernel
theorem dX12_setOf_44 : decode cX12_setOf 44 = .ok (.iconst 0, 1) := by decide +kernel
theorem dX12_setOf_45 : decode cX12_setOf 45 = .ok (.istore 7, 2) := by decide +kernel
theorem dX12_setOf_47 : decode cX12_setOf 47 = .ok (.iload 7, 2) := by decide +kernel
theorem dX12_setOf_49 : decode cX12_setOf 49 = .ok (.aload_n 0, 1) := by decide +kernel
theorem dX12_setOf_50 : decode cX12_setOf 50 = .ok (.iload_n 1, 1) := by decide +kernel
theorem dX12_setOf_51 : decode cX12_setOf 51 = .ok (.invokevirtual 238, 3) := by decide +kernel
theorem dX12_setOf_54 : decode cX12_setOf 54 = .ok (.if_icmp .ge 35, 3) := by decide +kernel
theorem dX12_setOf_89 : decode cX12_setOf 89 = .ok (.aload_n 0, 1) := by decide +kernel
theorem dX12_setOf_90 : decode cX12_setOf 90 = .ok (.invokevirtual 244, 3) := by decide +kernel
theorem dX12_setOf_93 : decode cX12_setOf 93 = .ok (.iload 6, 2) := by decide +kernel
theorem dX12_setOf_95 : decode cX12_setOf 95 = .ok (.irem, 1) := by decide +kernel
theorem dX12_setOf_96 : decode cX12_setOf 96 = .ok (.istore 7, 2) := by decide +kernel
theorem dX12_setOf_98 : decode cX12_setOf 98 = .ok (.iconst 0, 1) := by decide +kernel
theorem dX12_setOf_99 : decode cX12_setOf 99 = .ok (.istore 8, 2) := by decide +kernel
theorem dX12_setOf_101 : decode cX12_setOf 101 = .ok (.iload 4, 2) := by decide +kernel
theorem dX12_setOf_103 : decode cX12_setOf 103 = .ok (.iconst 1, 1) := by decide +kernel
theorem dX12_setOf_104 : decode cX12_setOf 104 = .ok (.iand, 1) := by decide +kernel
theorem dX12_setOf_105 : decode cX12_setOf 105 = .ok (.ifCond .ne 12, 3) := by decide +kernel
theorem dX12_setOf_108 : decode cX12_setOf 108 = .ok (.aload_n 0, 1) := by decide +kernel
theorem dX12_setOf_109 : decode cX12_setOf 109 = .ok (.iload_n 1, 1) := by decide +kernel
theorem dX12_setOf_110 : decode cX12_setOf 110 = .ok (.iconst 0, 1) := by decide +kernel
theorem dX12_setOf_111 : decode cX12_setOf 111 = .ok (.invokevirtual 255, 3) := by decide +kernel
theorem dX12_setOf_117 : decode cX12_setOf 117 = .ok (.iconst 0, 1) := by decide +kernel
theorem dX12_weightOf_0 : decode cX12_weightOf 0 = .ok (.iload_n 2, 1) := by decide +kernel
theorem dX12_weightOf_1 : decode cX12_weightOf 1 = .ok (.aload_n 0, 1) := by decide +kernel
theorem dX12_weightOf_2 : decode cX12_weightOf 2 = .ok (.getfield 54, 3) := by decide +kernel
theorem dX12_weightOf_5 : decode cX12_weightOf 5 = .ok (.iload_n 1, 1) := by decide +kernel
theorem dX12_weightOf_6 : decode cX12_weightOf 6 = .ok (.iaload, 1) := by decide +kernel
theorem dX12_weightOf_7 : decode cX12_weightOf 7 = .ok (.if_icmp .ge 12, 3) := by decide +kernel
theorem dX12_weightOf_10 : decode cX12_weightOf 10 = .ok (.aload_n 0, 1) := by decide +kernel
theorem dX12_weightOf_11 : decode cX12_weightOf 11 = .ok (.getfield 57, 3) := by decide +kernel
theorem dX12_weightOf_14 : decode cX12_weightOf 14 = .ok (.iload_n 1, 1) := by decide +kernel
theorem dX12_weightOf_15 : decode cX12_weightOf 15 = .ok (.iaload, 1) := by decide +kernel
theorem dX12_weightOf_16 : decode cX12_weightOf 16 = .ok (.goto 4, 3) := by decide +kernel
theorem dX12_weightOf_19 : decode cX12_weightOf 19 = .ok (.iconst 1, 1) := by decide +kernel
theorem dX12_weightOf_20 : decode cX12_weightOf 20 = .ok (.ireturn, 1) := by decide +kernel
set_option maxHeartbeats 4000000 in
set_option maxRecDepth 100000 in
theorem s_X12_weightOf {P : PP} {a0 : Nat} {a1 : Int32} {a2 : Int32} (I : IM P a0) (ha1 : 0 ≤ a1.toInt ∧ a1.toInt ≤ 1) (ha2 : 0 ≤ a2.toInt ∧ a2.toInt ≤ 19) (hW : MW P a0) : CtrI yX12_weightOf cX12_weightOf 3 (some Jvm.ClassFile.FieldType.int) ({ frames := 1, cells := 0, slots := 0, locals := 64 } : Room) 0 0 P [.ref a0, .int a1, .int a2] (fun r P2 => P = P2 ∧ (0 ≤ r.toInt ∧ r.toInt ≤ 9) ∧ (∀ b c, pR P2 a0 13 = some b → pR P2 a0 14 = some c → r.toInt = wt (pI P2 b (a1.toInt.toNat)).toInt (pI P2 c (a1.toInt.toNat)).toInt a2.toInt.toNat)) := by
  refine enI (lv := [(0, .ref a0), (1, .int a1), (2, .int a2)]) (by decide) (Nat.le_of_ble_eq_true rfl) rfl (fun E D cy C Ci0 ret => ?_)
  have ha0 := I.2.1
  refine g_iload_n C dX12_weightOf_0 rfl 2 rfl ?_
  refine g_aload_n C dX12_weightOf_1 rfl 0 rfl ?_
  obtain ⟨b2933, e2934, h2935⟩ := I.fld (ha0) 13 13 3 rfl
  refine g_getR C fi_X12_54 rfl e2934 (ha0).1 (ha0).2 dX12_weightOf_2 ?_
  refine g_iload_n C dX12_weightOf_5 rfl 1 rfl ?_
  refine g_iald (j := (a1.toInt.toNat)) C h2935.1 h2935.2.1 (ix_in h2935.2.2 (by omega)) dX12_weightOf_6 ?_
  have u2937 := ti_rng (pI P b2933 (a1.toInt.toNat))
  refine b_icmp_ge C 19 dX12_weightOf_7 (by decide) (fun h2936 => ?_) (fun h2936 => ?_)
  · have h2936 : (pI P b2933 (a1.toInt.toNat)).toInt ≤ a2.toInt := h2936
    refine g_iconst (v := 1) C dX12_weightOf_19 (by decide) ?_
    obtain ⟨b2938, e2939, h2940⟩ := I.fld (ha0) 14 13 3 rfl
    exact ret _ _ _ _ _ _ dX12_weightOf_20 rfl (by decide) (by decide) ⟨rfl, (by decide), (fun b9 c9 e9 f9 => by rw [e2934] at e9; cases e9; rw [e2939] at f9; cases f9; show (1 : Int) = wt (pI P b2933 (a1.toInt.toNat)).toInt (pI P b2938 (a1.toInt.toNat)).toInt a2.toInt.toNat; unfold wt; split <;> omega)⟩
  · have h2936 : a2.toInt < (pI P b2933 (a1.toInt.toNat)).toInt := h2936
    refine g_aload_n C dX12_weightOf_10 rfl 0 rfl ?_
    obtain ⟨b2941, e2942, h2943⟩ := I.fld (ha0) 14 13 3 rfl
    refine g_getR C fi_X12_57 rfl e2942 (ha0).1 (ha0).2 dX12_weightOf_11 ?_
    refine g_iload_n C dX12_weightOf_14 rfl 1 rfl ?_
    refine g_iald (j := (a1.toInt.toNat)) C h2943.1 h2943.2.1 (ix_in h2943.2.2 (by omega)) dX12_weightOf_15 ?_
    have h2944 := I.arr e2942 rfl (a1.toInt.toNat)
    refine g_goto C 20 dX12_weightOf_16 (by decide) ?_
    exact ret _ _ _ _ _ _ dX12_weightOf_20 rfl (by decide) (by decide) ⟨rfl, (by omega), (fun b9 c9 e9 f9 => by rw [e2934] at e9; cases e9; rw [e2942] at f9; cases f9; show (pI P b2941 (a1.toInt.toNat)).toInt = wt (pI P b2933 (a1.toInt.toNat)).toInt (pI P b2941 (a1.toInt.toNat)).toInt a2.toInt.toNat; unfold wt; split <;> omega)⟩
theorem dX12_setOf_57 : decode cX12_setOf 57 = .ok (.iload 6, 2) := by decide +kernel
theorem dX12_setOf_59 : decode cX12_setOf 59 = .ok (.iload 4, 2) := by decide +kernel
theorem dX12_setOf_61 : decode cX12_setOf 61 = .ok (.iload 7, 2) := by decide +kernel
theorem dX12_setOf_63 : decode cX12_setOf 63 = .ok (.ishr, 1) := by decide +kernel
theorem dX12_setOf_64 : decode cX12_setOf 64 = .ok (.iconst 1, 1) := by decide +kernel
theorem dX12_setOf_65 : decode cX12_setOf 65 = .ok (.iand, 1) := by decide +kernel
theorem dX12_setOf_66 : decode cX12_setOf 66 = .ok (.ifCond .ne 13, 3) := by decide +kernel
theorem dX12_setOf_69 : decode cX12_setOf 69 = .ok (.aload_n 0, 1) := by decide +kernel
theorem dX12_setOf_70 : decode cX12_setOf 70 = .ok (.iload_n 1, 1) := by decide +kernel
theorem dX12_setOf_71 : decode cX12_setOf 71 = .ok (.iload 7, 2) := by decide +kernel
theorem dX12_setOf_73 : decode cX12_setOf 73 = .ok (.invokevirtual 255, 3) := by decide +kernel
theorem dX12_setOf_76 : decode cX12_setOf 76 = .ok (.goto 4, 3) := by decide +kernel
theorem dX12_setOf_79 : decode cX12_setOf 79 = .ok (.iconst 0, 1) := by decide +kernel
theorem dX12_setOf_80 : decode cX12_setOf 80 = .ok (.iadd, 1) := by decide +kernel
theorem dX12_setOf_81 : decode cX12_setOf 81 = .ok (.istore 6, 2) := by decide +kernel
theorem dX12_setOf_83 : decode cX12_setOf 83 = .ok (.iinc 7 1, 3) := by decide +kernel
theorem dX12_setOf_86 : decode cX12_setOf 86 = .ok (.goto (-39), 3) := by decide +kernel
theorem dX12_setOf_114 : decode cX12_setOf 114 = .ok (.goto 4, 3) := by decide +kernel
theorem dX12_setOf_118 : decode cX12_setOf 118 = .ok (.istore 9, 2) := by decide +kernel
theorem dX12_setOf_120 : decode cX12_setOf 120 = .ok (.iload 9, 2) := by decide +kernel
theorem dX12_setOf_122 : decode cX12_setOf 122 = .ok (.iload 7, 2) := by decide +kernel
theorem dX12_setOf_124 : decode cX12_setOf 124 = .ok (.if_icmp .gt 35, 3) := by decide +kernel
theorem dX12_setOf_127 : decode cX12_setOf 127 = .ok (.iinc 8 1, 3) := by decide +kernel
theorem dX12_setOf_130 : decode cX12_setOf 130 = .ok (.iload 9, 2) := by decide +kernel
theorem dX12_setOf_132 : decode cX12_setOf 132 = .ok (.iload 4, 2) := by decide +kernel
theorem dX12_setOf_134 : decode cX12_setOf 134 = .ok (.iload 8, 2) := by decide +kernel
theorem dX12_setOf_136 : decode cX12_setOf 136 = .ok (.ishr, 1) := by decide +kernel
theorem dX12_setOf_137 : decode cX12_setOf 137 = .ok (.iconst 1, 1) := by decide +kernel
theorem dX12_setOf_138 : decode cX12_setOf 138 = .ok (.iand, 1) := by decide +kernel
theorem dX12_setOf_139 : decode cX12_setOf 139 = .ok (.ifCond .ne 13, 3) := by decide +kernel
theorem dX12_setOf_142 : decode cX12_setOf 142 = .ok (.aload_n 0, 1) := by decide +kernel
theorem dX12_setOf_143 : decode cX12_setOf 143 = .ok (.iload_n 1, 1) := by decide +kernel
theorem dX12_setOf_144 : decode cX12_setOf 144 = .ok (.iload 8, 2) := by decide +kernel
theorem dX12_setOf_146 : decode cX12_setOf 146 = .ok (.invokevirtual 255, 3) := by decide +kernel
theorem dX12_setOf_149 : decode cX12_setOf 149 = .ok (.goto 4, 3) := by decide +kernel
theorem dX12_setOf_152 : decode cX12_setOf 152 = .ok (.iconst 0, 1) := by decide +kernel
theorem dX12_setOf_153 : decode cX12_setOf 153 = .ok (.iadd, 1) := by decide +kernel
theorem dX12_setOf_154 : decode cX12_setOf 154 = .ok (.istore 9, 2) := by decide +kernel
theorem dX12_setOf_156 : decode cX12_setOf 156 = .ok (.goto (-36), 3) := by decide +kernel
theorem dX12_setOf_159 : decode cX12_setOf 159 = .ok (.iload 4, 2) := by decide +kernel
theorem dX12_setOf_161 : decode cX12_setOf 161 = .ok (.iconst 1, 1) := by decide +kernel
theorem dX12_setOf_162 : decode cX12_setOf 162 = .ok (.iload 8, 2) := by decide +kernel
theorem dX12_setOf_164 : decode cX12_setOf 164 = .ok (.ishl, 1) := by decide +kernel
theorem dX12_setOf_165 : decode cX12_setOf 165 = .ok (.ior, 1) := by decide +kernel
theorem dX12_setOf_166 : decode cX12_setOf 166 = .ok (.istore 4, 2) := by decide +kernel
theorem dX12_setOf_168 : decode cX12_setOf 168 = .ok (.iinc 5 1, 3) := by decide +kernel
theorem dX12_setOf_171 : decode cX12_setOf 171 = .ok (.goto (-136), 3) := by decide +kernel
theorem dX12_setOf_174 : decode cX12_setOf 174 = .ok (.iload 4, 2) := by decide +kernel
theorem dX12_setOf_176 : decode cX12_setOf 176 = .ok (.ireturn, 1) := by decide +kernel
set_option maxHeartbeats 4000000 in
set_option maxRecDepth 100000 in
theorem s_X12_setOf {P : PP} {a0 : Nat} {a1 : Int32} {a2 : Int32} (I : IM P a0) (ha1 : 0 ≤ a1.toInt ∧ a1.toInt ≤ 1) (hf0 : ∀ b, pR P a0 10 = some b → 1 ≤ (pI P b (a1.toInt.toNat)).toInt ∧ (pI P b (a1.toInt.toNat)).toInt ≤ 16) (hW : MW P a0) : CtrI yX12_setOf cX12_setOf 10 (some Jvm.ClassFile.FieldType.int) ({ frames := 3, cells := 0, slots := 0, locals := 192 } : Room) 0 0 P [.ref a0, .int a1, .int a2] (fun r P2 => IM P2 a0 ∧ EM [] a0 P P2 ∧ MW P2 a0 ∧ (True)) := by
  refine enI (lv := [(0, .ref a0), (1, .int a1), (2, .int a2)]) (by decide) (Nat.le_of_ble_eq_true rfl) rfl (fun E D cy C Ci0 ret => ?_)
  have ha0 := I.2.1
  have J35 : ∀ (n35 : Nat) (P35 : PP) (v35_3 : Int32) (v35_4 : Int32) (v35_5 : Int32), (20 - v35_5.toInt).toNat < n35 → (IM P35 a0) → (EM [] a0 P P35) → (MW P35 a0) → (1 ≤ v35_3.toInt ∧ v35_3.toInt ≤ 20) → (0 ≤ v35_5.toInt ∧ v35_5.toInt ≤ 20) → (∀ b, pR P35 a0 10 = some b → 1 ≤ (pI P35 b (a1.toInt.toNat)).toInt ∧ (pI P35 b (a1.toInt.toNat)).toInt ≤ 16) → (cB v35_4 20 ≤ v35_5.toInt) → (0 ≤ v35_5.toInt) → (∀ b910 b915, pR P35 a0 10 = some b910 → pR P35 a0 15 = some b915 → v35_3.toInt ≤ ((pI P b910 (a1.toInt.toNat)).toInt + (pI P b915 (a1.toInt.toNat)).toInt)) → G E ({ frames := 3, cells := 0, slots := 0, locals := 192 } : Room) D cy 10 P35 0 0 35 [(0, .ref a0), (1, .int a1), (3, .int v35_3), (4, .int v35_4), (5, .int v35_5)] [] := by
    intro n35
    induction n35 with
    | zero => intro P35 v35_3 v35_4 v35_5 hm35 I35 X35 W35 hv35_3 hv35_5 hq35_0 rel35_0 rel35_1 rel35_2; omega
    | succ n35 ih35 =>
      intro P35 v35_3 v35_4 v35_5 hm35 I35 X35 W35 hv35_3 hv35_5 hq35_0 rel35_0 rel35_1 rel35_2
      have h6869 := X35.at ha0
      obtain ⟨b6870, e6871, h6872⟩ := I35.fld (h6869) 10 13 2 rfl
      have hq35_0 := hq35_0 b6870 e6871
      obtain ⟨b6873, e6874, h6875⟩ := I35.fld (h6869) 15 13 3 rfl
      have rel35_2 := rel35_2 b6870 b6873 e6871 e6874
      have h6876 := I.arr (EM.refB X35 ha0 e6871) rfl (a1.toInt.toNat)
      have h6877 := I.arr (EM.refB X35 ha0 e6874) rfl (a1.toInt.toNat)
      have J120 : ∀ (n120 : Nat) (P120 : PP) (v120_7 : Int32) (v120_8 : Int32) (v120_9 : Int32), (20 - v120_8.toInt).toNat < n120 → (IM P120 a0) → (EM [] a0 P P120) → (MW P120 a0) → (0 ≤ v35_5.toInt ∧ v35_5.toInt ≤ 19) → (-179 ≤ v120_7.toInt ∧ v120_7.toInt ≤ 179) → (0 ≤ v120_8.toInt ∧ v120_8.toInt ≤ 19) → (0 ≤ v120_9.toInt ∧ v120_9.toInt ≤ 180) → (∀ b, pR P120 a0 10 = some b → 1 ≤ (pI P120 b (a1.toInt.toNat)).toInt ∧ (pI P120 b (a1.toInt.toNat)).toInt ≤ 16) → (∀ b913 b914, pR P120 a0 13 = some b913 → pR P120 a0 14 = some b914 → v120_9.toInt = cS v35_4 (pI P b913 (a1.toInt.toNat)).toInt (pI P b914 (a1.toInt.toNat)).toInt (v120_8.toInt + 1 : Int).toNat) → (∀ b910 b915, pR P120 a0 10 = some b910 → pR P120 a0 15 = some b915 → 0 ≤ v120_8.toInt ∧ v120_8.toInt < ((pI P b910 (a1.toInt.toNat)).toInt + (pI P b915 (a1.toInt.toNat)).toInt)) → (∀ b910 b913 b914 b915, pR P120 a0 10 = some b910 → pR P120 a0 13 = some b913 → pR P120 a0 14 = some b914 → pR P120 a0 15 = some b915 → v120_7.toInt < cS v35_4 (pI P b913 (a1.toInt.toNat)).toInt (pI P b914 (a1.toInt.toNat)).toInt (((pI P b910 (a1.toInt.toNat)).toInt + (pI P b915 (a1.toInt.toNat)).toInt) : Int).toNat) → (0 ≤ v120_9.toInt ∧ v120_9.toInt ≤ 9 * (v120_8.toInt + 1)) → (∀ b910 b915, pR P120 a0 10 = some b910 → pR P120 a0 15 = some b915 → v35_3.toInt ≤ ((pI P b910 (a1.toInt.toNat)).toInt + (pI P b915 (a1.toInt.toNat)).toInt)) → (v35_5.toInt < v35_3.toInt) → G E ({ frames := 3, cells := 0, slots := 0, locals := 192 } : Room) D cy 10 P120 0 0 120 [(0, .ref a0), (1, .int a1), (3, .int v35_3), (4, .int v35_4), (5, .int v35_5), (7, .int v120_7), (8, .int v120_8), (9, .int v120_9)] [] := by
        intro n120
        induction n120 with
        | zero => intro P120 v120_7 v120_8 v120_9 hm120 I120 X120 W120 hv120_5 hv120_7 hv120_8 hv120_9 hq120_0 rel120_0 rel120_1 rel120_2 rel120_3 rel120_4 rel120_5; omega
        | succ n120 ih120 =>
          intro P120 v120_7 v120_8 v120_9 hm120 I120 X120 W120 hv120_5 hv120_7 hv120_8 hv120_9 hq120_0 rel120_0 rel120_1 rel120_2 rel120_3 rel120_4 rel120_5
          have h6878 := X120.at ha0
          obtain ⟨b6879, e6880, h6881⟩ := I120.fld (h6878) 10 13 2 rfl
          have hq120_0 := hq120_0 b6879 e6880
          obtain ⟨b6882, e6883, h6884⟩ := I120.fld (h6878) 13 13 3 rfl
          obtain ⟨b6885, e6886, h6887⟩ := I120.fld (h6878) 14 13 3 rfl
          have rel120_0 := rel120_0 b6882 b6885 e6883 e6886
          have h6888 := I.arr (EM.refB X120 ha0 e6886) rfl (a1.toInt.toNat)
          obtain ⟨b6889, e6890, h6891⟩ := I120.fld (h6878) 15 13 3 rfl
          have rel120_1 := rel120_1 b6879 b6889 e6880 e6890
          have h6892 := I.arr (EM.refB X120 ha0 e6880) rfl (a1.toInt.toNat)
          have h6893 := I.arr (EM.refB X120 ha0 e6890) rfl (a1.toInt.toNat)
          have rel120_2 := rel120_2 b6879 b6882 b6885 b6889 e6880 e6883 e6886 e6890
          have h6894 := I.arr (EM.refB X120 ha0 e6886) rfl (a1.toInt.toNat)
          have h6895 := I.arr (EM.refB X120 ha0 e6880) rfl (a1.toInt.toNat)
          have h6896 := I.arr (EM.refB X120 ha0 e6890) rfl (a1.toInt.toNat)
          have rel120_4 := rel120_4 b6879 b6889 e6880 e6890
          have h6897 := I.arr (EM.refB X120 ha0 e6880) rfl (a1.toInt.toNat)
          have h6898 := I.arr (EM.refB X120 ha0 e6890) rfl (a1.toInt.toNat)
          have J153 : ∀ (v153_8 : Int32) (v153_s0 : Int32), (0 ≤ v35_5.toInt ∧ v35_5.toInt ≤ 19) → (0 ≤ v120_7.toInt ∧ v120_7.toInt ≤ 179) → (1 ≤ v153_8.toInt ∧ v153_8.toInt ≤ 19) → (0 ≤ v153_s0.toInt ∧ v153_s0.toInt ≤ 9) → (0 ≤ v120_9.toInt ∧ v120_9.toInt ≤ 179) → (∀ b, pR P120 a0 10 = some b → 1 ≤ (pI P120 b (a1.toInt.toNat)).toInt ∧ (pI P120 b (a1.toInt.toNat)).toInt ≤ 16) → (∀ b913 b914, pR P120 a0 13 = some b913 → pR P120 a0 14 = some b914 → v120_9.toInt = cS v35_4 (pI P b913 (a1.toInt.toNat)).toInt (pI P b914 (a1.toInt.toNat)).toInt (v153_8.toInt : Int).toNat) → (∀ b913 b914, pR P120 a0 13 = some b913 → pR P120 a0 14 = some b914 → v153_s0.toInt = fS v35_4 (pI P b913 (a1.toInt.toNat)).toInt (pI P b914 (a1.toInt.toNat)).toInt (v153_8.toInt : Int).toNat) → (∀ b910 b915, pR P120 a0 10 = some b910 → pR P120 a0 15 = some b915 → 0 ≤ v153_8.toInt ∧ v153_8.toInt < ((pI P b910 (a1.toInt.toNat)).toInt + (pI P b915 (a1.toInt.toNat)).toInt)) → (∀ b910 b913 b914 b915, pR P120 a0 10 = some b910 → pR P120 a0 13 = some b913 → pR P120 a0 14 = some b914 → pR P120 a0 15 = some b915 → v120_7.toInt < cS v35_4 (pI P b913 (a1.toInt.toNat)).toInt (pI P b914 (a1.toInt.toNat)).toInt (((pI P b910 (a1.toInt.toNat)).toInt + (pI P b915 (a1.toInt.toNat)).toInt) : Int).toNat) → (0 ≤ v120_9.toInt ∧ v120_9.toInt ≤ 9 * v153_8.toInt) → (v153_8.toInt = v120_8.toInt + 1) → (∀ b910 b915, pR P120 a0 10 = some b910 → pR P120 a0 15 = some b915 → v35_3.toInt ≤ ((pI P b910 (a1.toInt.toNat)).toInt + (pI P b915 (a1.toInt.toNat)).toInt)) → (v35_5.toInt < v35_3.toInt) → G E ({ frames := 3, cells := 0, slots := 0, locals := 192 } : Room) D cy 10 P120 0 0 153 [(0, .ref a0), (1, .int a1), (3, .int v35_3), (4, .int v35_4), (5, .int v35_5), (7, .int v120_7), (8, .int v153_8)] [.int v153_s0, .int v120_9] := by
            intro v153_8 v153_s0 hv153_5 hv153_7 hv153_8 hv153_s0 hv153_s1 hq153_0 rel153_0 rel153_1 rel153_2 rel153_3 rel153_4 rel153_5 rel153_6 rel153_7
            have h6899 := X120.at ha0
            obtain ⟨b6900, e6901, h6902⟩ := I120.fld (h6899) 10 13 2 rfl
            have hq153_0 := hq153_0 b6900 e6901
            obtain ⟨b6903, e6904, h6905⟩ := I120.fld (h6899) 13 13 3 rfl
            obtain ⟨b6906, e6907, h6908⟩ := I120.fld (h6899) 14 13 3 rfl
            have rel153_0 := rel153_0 b6903 b6906 e6904 e6907
            have h6909 := I.arr (EM.refB X120 ha0 e6907) rfl (a1.toInt.toNat)
            have rel153_1 := rel153_1 b6903 b6906 e6904 e6907
            have h6910 := I.arr (EM.refB X120 ha0 e6907) rfl (a1.toInt.toNat)
            obtain ⟨b6911, e6912, h6913⟩ := I120.fld (h6899) 15 13 3 rfl
            have rel153_2 := rel153_2 b6900 b6911 e6901 e6912
            have h6914 := I.arr (EM.refB X120 ha0 e6901) rfl (a1.toInt.toNat)
            have h6915 := I.arr (EM.refB X120 ha0 e6912) rfl (a1.toInt.toNat)
            have rel153_3 := rel153_3 b6900 b6903 b6906 b6911 e6901 e6904 e6907 e6912
            have h6916 := I.arr (EM.refB X120 ha0 e6907) rfl (a1.toInt.toNat)
            have h6917 := I.arr (EM.refB X120 ha0 e6901) rfl (a1.toInt.toNat)
            have h6918 := I.arr (EM.refB X120 ha0 e6912) rfl (a1.toInt.toNat)
            have rel153_6 := rel153_6 b6900 b6911 e6901 e6912
            have h6919 := I.arr (EM.refB X120 ha0 e6901) rfl (a1.toInt.toNat)
            have h6920 := I.arr (EM.refB X120 ha0 e6912) rfl (a1.toInt.toNat)
            have hc := hW.1 b6900 b6906 (EM.refB X120 ha0 (e6901)) (EM.refB X120 ha0 (e6907)) (a1.toInt.toNat) (by omega) (by have h9 := hf0 _ (EM.refB X120 ha0 (e6901)); omega)
            have h6921 := I.arr (EM.refB X120 ha0 (e6901)) rfl (a1.toInt.toNat)
            have h6922 := I.arr (EM.refB X120 ha0 (e6907)) rfl (a1.toInt.toNat)
            have h6923 := I.arr (EM.refB X120 ha0 (e6912)) rfl (a1.toInt.toNat)
            have q6924 := X120.keepA (EM.refB X120 ha0 (e6901)) (by decide) rfl (a1.toInt.toNat)
            have q6925 := X120.keepA (EM.refB X120 ha0 (e6907)) (by decide) rfl (a1.toInt.toNat)
            have q6926 := X120.keepA (EM.refB X120 ha0 (e6912)) (by decide) rfl (a1.toInt.toNat)
            refine s_iadd C dX12_setOf_153 (by show -2147483648 ≤ v120_9.toInt + v153_s0.toInt ∧ v120_9.toInt + v153_s0.toInt ≤ 2147483647; omega) (fun z6927 h6928 => ?_)
            have h6928 : z6927.toInt = v120_9.toInt + v153_s0.toInt := h6928
            refine g_istore (lv' := [(9, .int z6927), (0, .ref a0), (1, .int a1), (3, .int v35_3), (4, .int v35_4), (5, .int v35_5), (7, .int v120_7), (8, .int v153_8)]) C dX12_setOf_154 (by decide) rfl ?_
            have st := cS_step (s := v35_4) (a := (pI P b6903 (a1.toInt.toNat)).toInt) (c := (pI P b6906 (a1.toInt.toNat)).toInt) (d := v153_8.toInt) (d2 := v153_8.toInt + 1) (by omega) (by omega)
            refine g_goto C 120 dX12_setOf_156 (by decide) ?_
            refine g_lv (lv' := [(0, .ref a0), (1, .int a1), (3, .int v35_3), (4, .int v35_4), (5, .int v35_5), (7, .int v120_7), (8, .int v153_8), (9, .int z6927)]) [1, 2, 3, 4, 5, 6, 7, 0] rfl ?_
            exact ih120 P120 v120_7 v153_8 z6927 (by omega) I120 X120 W120 (by omega) (by omega) (by omega) (by omega) (fun b9 e9 => by rw [e6901] at e9; cases e9; omega) (by intro b913 b914 e913 e914; rw [e6904] at e913; cases e913; rw [e6907] at e914; cases e914; show z6927.toInt = cS v35_4 (pI P b6903 (a1.toInt.toNat)).toInt (pI P b6906 (a1.toInt.toNat)).toInt (v153_8.toInt + 1 : Int).toNat; omega) (by intro b910 b915 e910 e915; rw [e6901] at e910; cases e910; rw [e6912] at e915; cases e915; show 0 ≤ v153_8.toInt ∧ v153_8.toInt < ((pI P b6900 (a1.toInt.toNat)).toInt + (pI P b6911 (a1.toInt.toNat)).toInt); omega) (by intro b910 b913 b914 b915 e910 e913 e914 e915; rw [e6901] at e910; cases e910; rw [e6904] at e913; cases e913; rw [e6907] at e914; cases e914; rw [e6912] at e915; cases e915; show v120_7.toInt < cS v35_4 (pI P b6903 (a1.toInt.toNat)).toInt (pI P b6906 (a1.toInt.toNat)).toInt (((pI P b6900 (a1.toInt.toNat)).toInt + (pI P b6911 (a1.toInt.toNat)).toInt) : Int).toNat; omega) (by show 0 ≤ z6927.toInt ∧ z6927.toInt ≤ 9 * (v153_8.toInt + 1); omega) (by intro b910 b915 e910 e915; rw [e6901] at e910; cases e910; rw [e6912] at e915; cases e915; show v35_3.toInt ≤ ((pI P b6900 (a1.toInt.toNat)).toInt + (pI P b6911 (a1.toInt.toNat)).toInt); omega) (by show v35_5.toInt < v35_3.toInt; omega)
          have hc := hW.1 b6879 b6885 (EM.refB X120 ha0 (e6880)) (EM.refB X120 ha0 (e6886)) (a1.toInt.toNat) (by omega) (by have h9 := hf0 _ (EM.refB X120 ha0 (e6880)); omega)
          have h6929 := I.arr (EM.refB X120 ha0 (e6880)) rfl (a1.toInt.toNat)
          have h6930 := I.arr (EM.refB X120 ha0 (e6886)) rfl (a1.toInt.toNat)
          have h6931 := I.arr (EM.refB X120 ha0 (e6890)) rfl (a1.toInt.toNat)
          have q6932 := X120.keepA (EM.refB X120 ha0 (e6880)) (by decide) rfl (a1.toInt.toNat)
          have q6933 := X120.keepA (EM.refB X120 ha0 (e6886)) (by decide) rfl (a1.toInt.toNat)
          have q6934 := X120.keepA (EM.refB X120 ha0 (e6890)) (by decide) rfl (a1.toInt.toNat)
          refine g_iload C dX12_setOf_120 7 rfl ?_
          refine g_iload C dX12_setOf_122 5 rfl ?_
          refine b_icmp_gt C 159 dX12_setOf_124 (by decide) (fun h6935 => ?_) (fun h6935 => ?_)
          · have h6935 : v120_7.toInt < v120_9.toInt := h6935
            refine g_iload C dX12_setOf_159 3 rfl ?_
            refine g_iconst (v := 1) C dX12_setOf_161 (by decide) ?_
            refine g_iload C dX12_setOf_162 6 rfl ?_
            refine g_ishl C dX12_setOf_164 ?_
            refine g_topi (fun z6936 h6937 => ?_)
            refine g_ior C dX12_setOf_165 ?_
            refine g_topi (fun z6938 h6939 => ?_)
            have hcb := set_bit h6937 h6939 (by omega)
            refine g_istore (lv' := [(4, .int z6938), (0, .ref a0), (1, .int a1), (3, .int v35_3), (5, .int v35_5), (7, .int v120_7), (8, .int v120_8), (9, .int v120_9)]) C dX12_setOf_166 (by decide) rfl ?_
            refine s_iinc (lv0 := [(4, .int z6938), (0, .ref a0), (1, .int a1), (3, .int v35_3), (7, .int v120_7), (8, .int v120_8), (9, .int v120_9)]) (m := 1) C dX12_setOf_168 4 rfl (by decide) rfl (by decide) (by omega) (fun z6940 h6941 => ?_)
            have h6941 : z6940.toInt = v35_5.toInt + 1 := h6941
            refine g_goto C 35 dX12_setOf_171 (by decide) ?_
            refine g_lv (lv' := [(0, .ref a0), (1, .int a1), (3, .int v35_3), (4, .int z6938), (5, .int z6940)]) [2, 3, 4, 1, 0] rfl ?_
            exact ih35 P120 v35_3 z6938 z6940 (by omega) I120 X120 W120 (by omega) (by omega) (fun b9 e9 => by rw [e6880] at e9; cases e9; omega) (by show cB z6938 20 ≤ z6940.toInt; omega) (by show 0 ≤ z6940.toInt; omega) (by intro b910 b915 e910 e915; rw [e6880] at e910; cases e910; rw [e6890] at e915; cases e915; show v35_3.toInt ≤ ((pI P b6879 (a1.toInt.toNat)).toInt + (pI P b6889 (a1.toInt.toNat)).toInt); omega)
          · have h6935 : v120_9.toInt ≤ v120_7.toInt := h6935
            have hd : v120_8.toInt + 1 ≠ (pI P b6879 (a1.toInt.toNat)).toInt + (pI P b6889 (a1.toInt.toNat)).toInt := fun h9 => by have h8 := rel120_2; rw [show ((pI P b6879 (a1.toInt.toNat)).toInt + (pI P b6889 (a1.toInt.toNat)).toInt).toNat = (v120_8.toInt + 1).toNat by omega] at h8; omega
            refine s_iinc (lv0 := [(0, .ref a0), (1, .int a1), (3, .int v35_3), (4, .int v35_4), (5, .int v35_5), (7, .int v120_7), (9, .int v120_9)]) (m := 1) C dX12_setOf_127 6 rfl (by decide) rfl (by decide) (by omega) (fun z6942 h6943 => ?_)
            have h6943 : z6942.toInt = v120_8.toInt + 1 := h6943
            have hcz : cS v35_4 ((pI P b6882 (a1.toInt.toNat)).toInt) ((pI P b6885 (a1.toInt.toNat)).toInt) (v120_8.toInt + 1).toNat = cS v35_4 ((pI P b6882 (a1.toInt.toNat)).toInt) ((pI P b6885 (a1.toInt.toNat)).toInt) (z6942.toInt).toNat := by rw [show v120_8.toInt + 1 = z6942.toInt by omega]
            refine g_iload C dX12_setOf_130 7 rfl ?_
            refine g_iload C dX12_setOf_132 4 rfl ?_
            refine g_iload C dX12_setOf_134 0 rfl ?_
            refine g_ishr C dX12_setOf_136 ?_
            refine g_topi (fun z6944 h6945 => ?_)
            refine g_iconst (v := 1) C dX12_setOf_137 (by decide) ?_
            refine g_iand C dX12_setOf_138 ?_
            refine g_topi (fun z6946 h6947 => ?_)
            have hbv := bit_val h6945 h6947 (by omega)
            have hfs := fS_of (p := (z6942.toInt).toNat) ((pI P b6882 (a1.toInt.toNat)).toInt) ((pI P b6885 (a1.toInt.toNat)).toInt) hbv
            have hwr := wt_rg (a := (pI P b6882 (a1.toInt.toNat)).toInt) (z6942.toInt).toNat (show 1 ≤ (pI P b6885 (a1.toInt.toNat)).toInt ∧ (pI P b6885 (a1.toInt.toNat)).toInt ≤ 9 by omega)
            refine b_if_ne C 152 dX12_setOf_139 (by decide) (fun h6948 => ?_) (fun h6948 => ?_)
            · have h6948 : z6946.toInt ≠ 0 := ti_ne h6948
              refine g_iconst (v := 0) C dX12_setOf_152 (by decide) ?_
              refine g_lv (lv' := [(0, .ref a0), (1, .int a1), (3, .int v35_3), (4, .int v35_4), (5, .int v35_5), (7, .int v120_7), (8, .int z6942)]) [1, 2, 3, 4, 5, 6, 0] rfl ?_
              exact J153 z6942 0 (by omega) (by omega) (by omega) (by decide) (by omega) (fun b9 e9 => by rw [e6880] at e9; cases e9; omega) (by intro b913 b914 e913 e914; rw [e6883] at e913; cases e913; rw [e6886] at e914; cases e914; show v120_9.toInt = cS v35_4 (pI P b6882 (a1.toInt.toNat)).toInt (pI P b6885 (a1.toInt.toNat)).toInt (z6942.toInt : Int).toNat; omega) (by intro b913 b914 e913 e914; rw [e6883] at e913; cases e913; rw [e6886] at e914; cases e914; show 0 = fS v35_4 (pI P b6882 (a1.toInt.toNat)).toInt (pI P b6885 (a1.toInt.toNat)).toInt (z6942.toInt : Int).toNat; omega) (by intro b910 b915 e910 e915; rw [e6880] at e910; cases e910; rw [e6890] at e915; cases e915; show 0 ≤ z6942.toInt ∧ z6942.toInt < ((pI P b6879 (a1.toInt.toNat)).toInt + (pI P b6889 (a1.toInt.toNat)).toInt); omega) (by intro b910 b913 b914 b915 e910 e913 e914 e915; rw [e6880] at e910; cases e910; rw [e6883] at e913; cases e913; rw [e6886] at e914; cases e914; rw [e6890] at e915; cases e915; show v120_7.toInt < cS v35_4 (pI P b6882 (a1.toInt.toNat)).toInt (pI P b6885 (a1.toInt.toNat)).toInt (((pI P b6879 (a1.toInt.toNat)).toInt + (pI P b6889 (a1.toInt.toNat)).toInt) : Int).toNat; omega) (by show 0 ≤ v120_9.toInt ∧ v120_9.toInt ≤ 9 * z6942.toInt; omega) (by show z6942.toInt = v120_8.toInt + 1; omega) (by intro b910 b915 e910 e915; rw [e6880] at e910; cases e910; rw [e6890] at e915; cases e915; show v35_3.toInt ≤ ((pI P b6879 (a1.toInt.toNat)).toInt + (pI P b6889 (a1.toInt.toNat)).toInt); omega) (by show v35_5.toInt < v35_3.toInt; omega)
            · have h6948 : z6946.toInt = 0 := congrArg Int32.toInt h6948
              refine g_aload_n C dX12_setOf_142 rfl 1 rfl ?_
              refine g_iload_n C dX12_setOf_143 rfl 2 rfl ?_
              refine g_iload C dX12_setOf_144 0 rfl ?_
              refine g_callVI (rest := [.int v120_9]) C mv_X12_255 [.int a1, .int z6942] (s_X12_weightOf I120 (by omega) (by omega) W120) (h6878).1 (h6878).2 rfl rfl (by decide) (Nat.le_of_ble_eq_true rfl) (by decide) dX12_setOf_146 (fun r6949 Y6950 h6951 => ?_)
              obtain ⟨rfl, h6951⟩ := h6951
              obtain ⟨h6951, hi6952⟩ := h6951
              have hi6952 := hi6952 b6882 b6885 e6883 e6886
              rw [X120.2.2.2 13 (by decide) rfl b6882 (EM.refB X120 ha0 e6883), X120.2.2.2 14 (by decide) rfl b6885 (EM.refB X120 ha0 e6886)] at hi6952
              have hi6952 : r6949.toInt = wt (pI P b6882 (a1.toInt.toNat)).toInt (pI P b6885 (a1.toInt.toNat)).toInt (z6942.toInt).toNat := hi6952
              have h6951 : 0 ≤ r6949.toInt ∧ r6949.toInt ≤ 9 := h6951
              refine g_goto C 153 dX12_setOf_149 (by decide) ?_
              refine g_lv (lv' := [(0, .ref a0), (1, .int a1), (3, .int v35_3), (4, .int v35_4), (5, .int v35_5), (7, .int v120_7), (8, .int z6942)]) [1, 2, 3, 4, 5, 6, 0] rfl ?_
              exact J153 z6942 r6949 (by omega) (by omega) (by omega) (by omega) (by omega) (fun b9 e9 => by rw [e6880] at e9; cases e9; omega) (by intro b913 b914 e913 e914; rw [e6883] at e913; cases e913; rw [e6886] at e914; cases e914; show v120_9.toInt = cS v35_4 (pI P b6882 (a1.toInt.toNat)).toInt (pI P b6885 (a1.toInt.toNat)).toInt (z6942.toInt : Int).toNat; omega) (by intro b913 b914 e913 e914; rw [e6883] at e913; cases e913; rw [e6886] at e914; cases e914; show r6949.toInt = fS v35_4 (pI P b6882 (a1.toInt.toNat)).toInt (pI P b6885 (a1.toInt.toNat)).toInt (z6942.toInt : Int).toNat; omega) (by intro b910 b915 e910 e915; rw [e6880] at e910; cases e910; rw [e6890] at e915; cases e915; show 0 ≤ z6942.toInt ∧ z6942.toInt < ((pI P b6879 (a1.toInt.toNat)).toInt + (pI P b6889 (a1.toInt.toNat)).toInt); omega) (by intro b910 b913 b914 b915 e910 e913 e914 e915; rw [e6880] at e910; cases e910; rw [e6883] at e913; cases e913; rw [e6886] at e914; cases e914; rw [e6890] at e915; cases e915; show v120_7.toInt < cS v35_4 (pI P b6882 (a1.toInt.toNat)).toInt (pI P b6885 (a1.toInt.toNat)).toInt (((pI P b6879 (a1.toInt.toNat)).toInt + (pI P b6889 (a1.toInt.toNat)).toInt) : Int).toNat; omega) (by show 0 ≤ v120_9.toInt ∧ v120_9.toInt ≤ 9 * z6942.toInt; omega) (by show z6942.toInt = v120_8.toInt + 1; omega) (by intro b910 b915 e910 e915; rw [e6880] at e910; cases e910; rw [e6890] at e915; cases e915; show v35_3.toInt ≤ ((pI P b6879 (a1.toInt.toNat)).toInt + (pI P b6889 (a1.toInt.toNat)).toInt); omega) (by show v35_5.toInt < v35_3.toInt; omega)
      have J118 : ∀ (P118 : PP) (v118_7 : Int32) (v118_s0 : Int32), (IM P118 a0) → (EM [] a0 P P118) → (MW P118 a0) → (0 ≤ v35_5.toInt ∧ v35_5.toInt ≤ 19) → (-179 ≤ v118_7.toInt ∧ v118_7.toInt ≤ 179) → (0 ≤ v118_s0.toInt ∧ v118_s0.toInt ≤ 9) → (∀ b, pR P118 a0 10 = some b → 1 ≤ (pI P118 b (a1.toInt.toNat)).toInt ∧ (pI P118 b (a1.toInt.toNat)).toInt ≤ 16) → (∀ b913 b914, pR P118 a0 13 = some b913 → pR P118 a0 14 = some b914 → v118_s0.toInt = fS v35_4 (pI P b913 (a1.toInt.toNat)).toInt (pI P b914 (a1.toInt.toNat)).toInt (0 : Int).toNat) → (∀ b910 b913 b914 b915, pR P118 a0 10 = some b910 → pR P118 a0 13 = some b913 → pR P118 a0 14 = some b914 → pR P118 a0 15 = some b915 → v118_7.toInt < cS v35_4 (pI P b913 (a1.toInt.toNat)).toInt (pI P b914 (a1.toInt.toNat)).toInt (((pI P b910 (a1.toInt.toNat)).toInt + (pI P b915 (a1.toInt.toNat)).toInt) : Int).toNat) → (∀ b910 b915, pR P118 a0 10 = some b910 → pR P118 a0 15 = some b915 → v35_3.toInt ≤ ((pI P b910 (a1.toInt.toNat)).toInt + (pI P b915 (a1.toInt.toNat)).toInt)) → (v35_5.toInt < v35_3.toInt) → G E ({ frames := 3, cells := 0, slots := 0, locals := 192 } : Room) D cy 10 P118 0 0 118 [(0, .ref a0), (1, .int a1), (3, .int v35_3), (4, .int v35_4), (5, .int v35_5), (7, .int v118_7), (8, .int 0)] [.int v118_s0] := by
        intro P118 v118_7 v118_s0 I118 X118 W118 hv118_5 hv118_7 hv118_s0 hq118_0 rel118_0 rel118_1 rel118_2 rel118_3
        have h6953 := X118.at ha0
        obtain ⟨b6954, e6955, h6956⟩ := I118.fld (h6953) 10 13 2 rfl
        have hq118_0 := hq118_0 b6954 e6955
        obtain ⟨b6957, e6958, h6959⟩ := I118.fld (h6953) 13 13 3 rfl
        obtain ⟨b6960, e6961, h6962⟩ := I118.fld (h6953) 14 13 3 rfl
        have rel118_0 := rel118_0 b6957 b6960 e6958 e6961
        have h6963 := I.arr (EM.refB X118 ha0 e6961) rfl (a1.toInt.toNat)
        obtain ⟨b6964, e6965, h6966⟩ := I118.fld (h6953) 15 13 3 rfl
        have rel118_1 := rel118_1 b6954 b6957 b6960 b6964 e6955 e6958 e6961 e6965
        have h6967 := I.arr (EM.refB X118 ha0 e6961) rfl (a1.toInt.toNat)
        have h6968 := I.arr (EM.refB X118 ha0 e6955) rfl (a1.toInt.toNat)
        have h6969 := I.arr (EM.refB X118 ha0 e6965) rfl (a1.toInt.toNat)
        have rel118_2 := rel118_2 b6954 b6964 e6955 e6965
        have h6970 := I.arr (EM.refB X118 ha0 e6955) rfl (a1.toInt.toNat)
        have h6971 := I.arr (EM.refB X118 ha0 e6965) rfl (a1.toInt.toNat)
        have hc := hW.1 b6954 b6960 (EM.refB X118 ha0 (e6955)) (EM.refB X118 ha0 (e6961)) (a1.toInt.toNat) (by omega) (by have h9 := hf0 _ (EM.refB X118 ha0 (e6955)); omega)
        have h6972 := I.arr (EM.refB X118 ha0 (e6955)) rfl (a1.toInt.toNat)
        have h6973 := I.arr (EM.refB X118 ha0 (e6961)) rfl (a1.toInt.toNat)
        have h6974 := I.arr (EM.refB X118 ha0 (e6965)) rfl (a1.toInt.toNat)
        have q6975 := X118.keepA (EM.refB X118 ha0 (e6955)) (by decide) rfl (a1.toInt.toNat)
        have q6976 := X118.keepA (EM.refB X118 ha0 (e6961)) (by decide) rfl (a1.toInt.toNat)
        have q6977 := X118.keepA (EM.refB X118 ha0 (e6965)) (by decide) rfl (a1.toInt.toNat)
        have s1 := cS_one (s := v35_4) (a := (pI P b6957 (a1.toInt.toNat)).toInt) (c := (pI P b6960 (a1.toInt.toNat)).toInt)
        refine g_istore (lv' := [(9, .int v118_s0), (0, .ref a0), (1, .int a1), (3, .int v35_3), (4, .int v35_4), (5, .int v35_5), (7, .int v118_7), (8, .int 0)]) C dX12_setOf_118 (by decide) rfl ?_
        refine g_lv (lv' := [(0, .ref a0), (1, .int a1), (3, .int v35_3), (4, .int v35_4), (5, .int v35_5), (7, .int v118_7), (8, .int 0), (9, .int v118_s0)]) [1, 2, 3, 4, 5, 6, 7, 0] rfl ?_
        exact J120 _ P118 v118_7 0 v118_s0 (Nat.lt_succ_self _) I118 X118 W118 (by omega) (by omega) (by decide) (by omega) (fun b9 e9 => by rw [e6955] at e9; cases e9; omega) (by intro b913 b914 e913 e914; rw [e6958] at e913; cases e913; rw [e6961] at e914; cases e914; show v118_s0.toInt = cS v35_4 (pI P b6957 (a1.toInt.toNat)).toInt (pI P b6960 (a1.toInt.toNat)).toInt (0 + 1 : Int).toNat; omega) (by intro b910 b915 e910 e915; rw [e6955] at e910; cases e910; rw [e6965] at e915; cases e915; show 0 ≤ 0 ∧ 0 < ((pI P b6954 (a1.toInt.toNat)).toInt + (pI P b6964 (a1.toInt.toNat)).toInt); omega) (by intro b910 b913 b914 b915 e910 e913 e914 e915; rw [e6955] at e910; cases e910; rw [e6958] at e913; cases e913; rw [e6961] at e914; cases e914; rw [e6965] at e915; cases e915; show v118_7.toInt < cS v35_4 (pI P b6957 (a1.toInt.toNat)).toInt (pI P b6960 (a1.toInt.toNat)).toInt (((pI P b6954 (a1.toInt.toNat)).toInt + (pI P b6964 (a1.toInt.toNat)).toInt) : Int).toNat; omega) (by show 0 ≤ v118_s0.toInt ∧ v118_s0.toInt ≤ 9 * (0 + 1); omega) (by intro b910 b915 e910 e915; rw [e6955] at e910; cases e910; rw [e6965] at e915; cases e915; show v35_3.toInt ≤ ((pI P b6954 (a1.toInt.toNat)).toInt + (pI P b6964 (a1.toInt.toNat)).toInt); omega) (by show v35_5.toInt < v35_3.toInt; omega)
      have J47 : ∀ (n47 : Nat) (v47_6 : Int32) (v47_7 : Int32), (20 - v47_7.toInt).toNat < n47 → (0 ≤ v35_5.toInt ∧ v35_5.toInt ≤ 19) → (0 ≤ v47_6.toInt ∧ v47_6.toInt ≤ 180) → (0 ≤ v47_7.toInt ∧ v47_7.toInt ≤ 20) → (∀ b, pR P35 a0 10 = some b → 1 ≤ (pI P35 b (a1.toInt.toNat)).toInt ∧ (pI P35 b (a1.toInt.toNat)).toInt ≤ 16) → (∀ b913 b914, pR P35 a0 13 = some b913 → pR P35 a0 14 = some b914 → v47_6.toInt = cS v35_4 (pI P b913 (a1.toInt.toNat)).toInt (pI P b914 (a1.toInt.toNat)).toInt (v47_7.toInt : Int).toNat) → (∀ b910 b915, pR P35 a0 10 = some b910 → pR P35 a0 15 = some b915 → v47_7.toInt ≤ ((pI P b910 (a1.toInt.toNat)).toInt + (pI P b915 (a1.toInt.toNat)).toInt)) → (0 ≤ v47_6.toInt ∧ v47_6.toInt ≤ 9 * v47_7.toInt) → (∀ b910 b915, pR P35 a0 10 = some b910 → pR P35 a0 15 = some b915 → v35_3.toInt ≤ ((pI P b910 (a1.toInt.toNat)).toInt + (pI P b915 (a1.toInt.toNat)).toInt)) → (v35_5.toInt < v35_3.toInt) → G E ({ frames := 3, cells := 0, slots := 0, locals := 192 } : Room) D cy 10 P35 0 0 47 [(0, .ref a0), (1, .int a1), (3, .int v35_3), (4, .int v35_4), (5, .int v35_5), (6, .int v47_6), (7, .int v47_7)] [] := by
        intro n47
        induction n47 with
        | zero => intro v47_6 v47_7 hm47 hv47_5 hv47_6 hv47_7 hq47_0 rel47_0 rel47_1 rel47_2 rel47_3 rel47_4; omega
        | succ n47 ih47 =>
          intro v47_6 v47_7 hm47 hv47_5 hv47_6 hv47_7 hq47_0 rel47_0 rel47_1 rel47_2 rel47_3 rel47_4
          have h6978 := X35.at ha0
          obtain ⟨b6979, e6980, h6981⟩ := I35.fld (h6978) 10 13 2 rfl
          have hq47_0 := hq47_0 b6979 e6980
          obtain ⟨b6982, e6983, h6984⟩ := I35.fld (h6978) 13 13 3 rfl
          obtain ⟨b6985, e6986, h6987⟩ := I35.fld (h6978) 14 13 3 rfl
          have rel47_0 := rel47_0 b6982 b6985 e6983 e6986
          have h6988 := I.arr (EM.refB X35 ha0 e6986) rfl (a1.toInt.toNat)
          obtain ⟨b6989, e6990, h6991⟩ := I35.fld (h6978) 15 13 3 rfl
          have rel47_1 := rel47_1 b6979 b6989 e6980 e6990
          have h6992 := I.arr (EM.refB X35 ha0 e6980) rfl (a1.toInt.toNat)
          have h6993 := I.arr (EM.refB X35 ha0 e6990) rfl (a1.toInt.toNat)
          have rel47_3 := rel47_3 b6979 b6989 e6980 e6990
          have h6994 := I.arr (EM.refB X35 ha0 e6980) rfl (a1.toInt.toNat)
          have h6995 := I.arr (EM.refB X35 ha0 e6990) rfl (a1.toInt.toNat)
          have J80 : ∀ (v80_s0 : Int32), (0 ≤ v35_5.toInt ∧ v35_5.toInt ≤ 19) → (0 ≤ v47_7.toInt ∧ v47_7.toInt ≤ 19) → (0 ≤ v80_s0.toInt ∧ v80_s0.toInt ≤ 9) → (∀ b, pR P35 a0 10 = some b → 1 ≤ (pI P35 b (a1.toInt.toNat)).toInt ∧ (pI P35 b (a1.toInt.toNat)).toInt ≤ 16) → (∀ b913 b914, pR P35 a0 13 = some b913 → pR P35 a0 14 = some b914 → v47_6.toInt = cS v35_4 (pI P b913 (a1.toInt.toNat)).toInt (pI P b914 (a1.toInt.toNat)).toInt (v47_7.toInt : Int).toNat) → (∀ b913 b914, pR P35 a0 13 = some b913 → pR P35 a0 14 = some b914 → v80_s0.toInt = fS v35_4 (pI P b913 (a1.toInt.toNat)).toInt (pI P b914 (a1.toInt.toNat)).toInt (v47_7.toInt : Int).toNat) → (∀ b910 b915, pR P35 a0 10 = some b910 → pR P35 a0 15 = some b915 → 0 ≤ v47_7.toInt ∧ v47_7.toInt < ((pI P b910 (a1.toInt.toNat)).toInt + (pI P b915 (a1.toInt.toNat)).toInt)) → (0 ≤ v47_6.toInt ∧ v47_6.toInt ≤ 9 * v47_7.toInt) → (∀ b910 b915, pR P35 a0 10 = some b910 → pR P35 a0 15 = some b915 → v35_3.toInt ≤ ((pI P b910 (a1.toInt.toNat)).toInt + (pI P b915 (a1.toInt.toNat)).toInt)) → (v35_5.toInt < v35_3.toInt) → G E ({ frames := 3, cells := 0, slots := 0, locals := 192 } : Room) D cy 10 P35 0 0 80 [(0, .ref a0), (1, .int a1), (3, .int v35_3), (4, .int v35_4), (5, .int v35_5), (7, .int v47_7)] [.int v80_s0, .int v47_6] := by
            intro v80_s0 hv80_5 hv80_7 hv80_s0 hq80_0 rel80_0 rel80_1 rel80_2 rel80_3 rel80_4 rel80_5
            have h6996 := X35.at ha0
            obtain ⟨b6997, e6998, h6999⟩ := I35.fld (h6996) 10 13 2 rfl
            have hq80_0 := hq80_0 b6997 e6998
            obtain ⟨b7000, e7001, h7002⟩ := I35.fld (h6996) 13 13 3 rfl
            obtain ⟨b7003, e7004, h7005⟩ := I35.fld (h6996) 14 13 3 rfl
            have rel80_0 := rel80_0 b7000 b7003 e7001 e7004
            have h7006 := I.arr (EM.refB X35 ha0 e7004) rfl (a1.toInt.toNat)
            have rel80_1 := rel80_1 b7000 b7003 e7001 e7004
            have h7007 := I.arr (EM.refB X35 ha0 e7004) rfl (a1.toInt.toNat)
            obtain ⟨b7008, e7009, h7010⟩ := I35.fld (h6996) 15 13 3 rfl
            have rel80_2 := rel80_2 b6997 b7008 e6998 e7009
            have h7011 := I.arr (EM.refB X35 ha0 e6998) rfl (a1.toInt.toNat)
            have h7012 := I.arr (EM.refB X35 ha0 e7009) rfl (a1.toInt.toNat)
            have rel80_4 := rel80_4 b6997 b7008 e6998 e7009
            have h7013 := I.arr (EM.refB X35 ha0 e6998) rfl (a1.toInt.toNat)
            have h7014 := I.arr (EM.refB X35 ha0 e7009) rfl (a1.toInt.toNat)
            have hc := hW.1 b6997 b7003 (EM.refB X35 ha0 (e6998)) (EM.refB X35 ha0 (e7004)) (a1.toInt.toNat) (by omega) (by have h9 := hf0 _ (EM.refB X35 ha0 (e6998)); omega)
            have h7015 := I.arr (EM.refB X35 ha0 (e6998)) rfl (a1.toInt.toNat)
            have h7016 := I.arr (EM.refB X35 ha0 (e7004)) rfl (a1.toInt.toNat)
            have h7017 := I.arr (EM.refB X35 ha0 (e7009)) rfl (a1.toInt.toNat)
            have q7018 := X35.keepA (EM.refB X35 ha0 (e6998)) (by decide) rfl (a1.toInt.toNat)
            have q7019 := X35.keepA (EM.refB X35 ha0 (e7004)) (by decide) rfl (a1.toInt.toNat)
            have q7020 := X35.keepA (EM.refB X35 ha0 (e7009)) (by decide) rfl (a1.toInt.toNat)
            refine s_iadd C dX12_setOf_80 (by show -2147483648 ≤ v47_6.toInt + v80_s0.toInt ∧ v47_6.toInt + v80_s0.toInt ≤ 2147483647; omega) (fun z7021 h7022 => ?_)
            have h7022 : z7021.toInt = v47_6.toInt + v80_s0.toInt := h7022
            refine g_istore (lv' := [(6, .int z7021), (0, .ref a0), (1, .int a1), (3, .int v35_3), (4, .int v35_4), (5, .int v35_5), (7, .int v47_7)]) C dX12_setOf_81 (by decide) rfl ?_
            refine s_iinc (lv0 := [(6, .int z7021), (0, .ref a0), (1, .int a1), (3, .int v35_3), (4, .int v35_4), (5, .int v35_5)]) (m := 1) C dX12_setOf_83 6 rfl (by decide) rfl (by decide) (by omega) (fun z7023 h7024 => ?_)
            have h7024 : z7023.toInt = v47_7.toInt + 1 := h7024
            have st := cS_step (s := v35_4) (a := (pI P b7000 (a1.toInt.toNat)).toInt) (c := (pI P b7003 (a1.toInt.toNat)).toInt) (d := v47_7.toInt) (d2 := z7023.toInt) (by omega) (by omega)
            refine g_goto C 47 dX12_setOf_86 (by decide) ?_
            refine g_lv (lv' := [(0, .ref a0), (1, .int a1), (3, .int v35_3), (4, .int v35_4), (5, .int v35_5), (6, .int z7021), (7, .int z7023)]) [2, 3, 4, 5, 6, 1, 0] rfl ?_
            exact ih47 z7021 z7023 (by omega) (by omega) (by omega) (by omega) (fun b9 e9 => by rw [e6998] at e9; cases e9; omega) (by intro b913 b914 e913 e914; rw [e7001] at e913; cases e913; rw [e7004] at e914; cases e914; show z7021.toInt = cS v35_4 (pI P b7000 (a1.toInt.toNat)).toInt (pI P b7003 (a1.toInt.toNat)).toInt (z7023.toInt : Int).toNat; omega) (by intro b910 b915 e910 e915; rw [e6998] at e910; cases e910; rw [e7009] at e915; cases e915; show z7023.toInt ≤ ((pI P b6997 (a1.toInt.toNat)).toInt + (pI P b7008 (a1.toInt.toNat)).toInt); omega) (by show 0 ≤ z7021.toInt ∧ z7021.toInt ≤ 9 * z7023.toInt; omega) (by intro b910 b915 e910 e915; rw [e6998] at e910; cases e910; rw [e7009] at e915; cases e915; show v35_3.toInt ≤ ((pI P b6997 (a1.toInt.toNat)).toInt + (pI P b7008 (a1.toInt.toNat)).toInt); omega) (by show v35_5.toInt < v35_3.toInt; omega)
          have hc := hW.1 b6979 b6985 (EM.refB X35 ha0 (e6980)) (EM.refB X35 ha0 (e6986)) (a1.toInt.toNat) (by omega) (by have h9 := hf0 _ (EM.refB X35 ha0 (e6980)); omega)
          have h7025 := I.arr (EM.refB X35 ha0 (e6980)) rfl (a1.toInt.toNat)
          have h7026 := I.arr (EM.refB X35 ha0 (e6986)) rfl (a1.toInt.toNat)
          have h7027 := I.arr (EM.refB X35 ha0 (e6990)) rfl (a1.toInt.toNat)
          have q7028 := X35.keepA (EM.refB X35 ha0 (e6980)) (by decide) rfl (a1.toInt.toNat)
          have q7029 := X35.keepA (EM.refB X35 ha0 (e6986)) (by decide) rfl (a1.toInt.toNat)
          have q7030 := X35.keepA (EM.refB X35 ha0 (e6990)) (by decide) rfl (a1.toInt.toNat)
          refine g_iload C dX12_setOf_47 6 rfl ?_
          refine g_aload_n C dX12_setOf_49 rfl 0 rfl ?_
          refine g_iload_n C dX12_setOf_50 rfl 1 rfl ?_
          refine g_callVI (rest := [.int v47_7]) C mv_X12_238 [.int a1] (s_X12_allOf I35 (by omega) W35) (h6978).1 (h6978).2 rfl rfl (by decide) (Nat.le_of_ble_eq_true rfl) (by decide) dX12_setOf_51 (fun r7031 Y7032 h7033 => ?_)
          obtain ⟨rfl, h7033⟩ := h7033
          obtain ⟨h7033, hi7034⟩ := h7033
          have hi7034 : (r7031.toInt = 0 ∧ (pI P35 b6979 (a1.toInt.toNat)).toInt = 0) ∨ r7031.toInt = (pI P35 b6979 (a1.toInt.toNat)).toInt + (pI P35 b6989 (a1.toInt.toNat)).toInt := hi7034 b6979 b6989 e6980 e6990
          have h7033 : 0 ≤ r7031.toInt ∧ r7031.toInt ≤ 20 := h7033
          refine b_icmp_ge C 89 dX12_setOf_54 (by decide) (fun h7035 => ?_) (fun h7035 => ?_)
          · have h7035 : r7031.toInt ≤ v47_7.toInt := h7035
            have htot : v47_6.toInt = cS v35_4 ((pI P b6982 (a1.toInt.toNat)).toInt) ((pI P b6985 (a1.toInt.toNat)).toInt) ((pI P b6979 (a1.toInt.toNat)).toInt + (pI P b6989 (a1.toInt.toNat)).toInt).toNat := by rw [show ((pI P b6979 (a1.toInt.toNat)).toInt + (pI P b6989 (a1.toInt.toNat)).toInt).toNat = v47_7.toInt.toNat by omega]; omega
            have hps := cS_pos (s := v35_4) (a := (pI P b6982 (a1.toInt.toNat)).toInt) (c := (pI P b6985 (a1.toInt.toNat)).toInt) (N := (pI P b6979 (a1.toInt.toNat)).toInt + (pI P b6989 (a1.toInt.toNat)).toInt) (by omega) (by omega) (by omega)
            refine g_aload_n C dX12_setOf_89 rfl 0 rfl ?_
            refine g_callVI (rest := []) C mv_X12_244 [] (s_X12_drawn I35 W35) (h6978).1 (h6978).2 rfl rfl (by decide) (Nat.le_of_ble_eq_true rfl) (by decide) dX12_setOf_90 (fun r7036 Y7037 h7038 => ?_)
            obtain ⟨Iy7039, Xy7040, W7041, h7038⟩ := h7038
            have q7042 := Xy7040.keepA e6980 (by decide) rfl (a1.toInt.toNat)
            have q7043 := Xy7040.keepA e6983 (by decide) rfl (a1.toInt.toNat)
            have q7044 := Xy7040.keepA e6986 (by decide) rfl (a1.toInt.toNat)
            have q7045 := Xy7040.keepA e6990 (by decide) rfl (a1.toInt.toNat)
            have Xz7046 : EM [] a0 P Y7037 := EM.tr ha0 X35 (Xy7040.mono (by decide))
            have e7047 := Xy7040.ref h6978 (by decide) e6980
            have e7048 := Xy7040.ref h6978 (by decide) e6983
            have e7049 := Xy7040.ref h6978 (by decide) e6986
            have e7050 := Xy7040.ref h6978 (by decide) e6990
            have h7051 := Xy7040.at h6978
            have h7052 := Xy7040.ar h6981
            have h7053 := Xy7040.ar h6984
            have h7054 := Xy7040.ar h6987
            have h7055 := Xy7040.ar h6991
            have h7038 : True := h7038
            refine g_iload C dX12_setOf_93 5 rfl ?_
            refine s_irem C dX12_setOf_95 (by show 0 < v47_6.toInt; omega) (fun z7056 h7057 => ?_)
            have h7057 : -v47_6.toInt < z7056.toInt ∧ z7056.toInt < v47_6.toInt := h7057
            refine g_istore (lv' := [(7, .int z7056), (0, .ref a0), (1, .int a1), (3, .int v35_3), (4, .int v35_4), (5, .int v35_5), (6, .int v47_6)]) C dX12_setOf_96 (by decide) rfl ?_
            refine g_iconst (v := 0) C dX12_setOf_98 (by decide) ?_
            refine g_istore (lv' := [(8, .int 0), (7, .int z7056), (0, .ref a0), (1, .int a1), (3, .int v35_3), (4, .int v35_4), (5, .int v35_5), (6, .int v47_6)]) C dX12_setOf_99 (by decide) rfl ?_
            refine g_iload C dX12_setOf_101 5 rfl ?_
            refine g_iconst (v := 1) C dX12_setOf_103 (by decide) ?_
            refine g_iand C dX12_setOf_104 ?_
            refine g_topi (fun z7058 h7059 => ?_)
            have hbv : z7058.toInt = bI v35_4 (0 : Int).toNat := by rw [h7059]; exact and1_val _
            have hfs := fS_of (p := (0 : Int).toNat) ((pI P b6982 (a1.toInt.toNat)).toInt) ((pI P b6985 (a1.toInt.toNat)).toInt) hbv
            have hwr := wt_rg (a := (pI P b6982 (a1.toInt.toNat)).toInt) (0 : Int).toNat (show 1 ≤ (pI P b6985 (a1.toInt.toNat)).toInt ∧ (pI P b6985 (a1.toInt.toNat)).toInt ≤ 9 by omega)
            refine b_if_ne C 117 dX12_setOf_105 (by decide) (fun h7060 => ?_) (fun h7060 => ?_)
            · have h7060 : z7058.toInt ≠ 0 := ti_ne h7060
              refine g_iconst (v := 0) C dX12_setOf_117 (by decide) ?_
              refine g_lv (lv' := [(0, .ref a0), (1, .int a1), (3, .int v35_3), (4, .int v35_4), (5, .int v35_5), (7, .int z7056), (8, .int 0)]) [2, 3, 4, 5, 6, 1, 0] rfl ?_
              exact J118 Y7037 z7056 0 Iy7039 Xz7046 W7041 (by omega) (by omega) (by decide) (fun b9 e9 => by rw [e7047] at e9; cases e9; omega) (by intro b913 b914 e913 e914; rw [e7048] at e913; cases e913; rw [e7049] at e914; cases e914; show 0 = fS v35_4 (pI P b6982 (a1.toInt.toNat)).toInt (pI P b6985 (a1.toInt.toNat)).toInt (0 : Int).toNat; omega) (by intro b910 b913 b914 b915 e910 e913 e914 e915; rw [e7047] at e910; cases e910; rw [e7048] at e913; cases e913; rw [e7049] at e914; cases e914; rw [e7050] at e915; cases e915; show z7056.toInt < cS v35_4 (pI P b6982 (a1.toInt.toNat)).toInt (pI P b6985 (a1.toInt.toNat)).toInt (((pI P b6979 (a1.toInt.toNat)).toInt + (pI P b6989 (a1.toInt.toNat)).toInt) : Int).toNat; omega) (by intro b910 b915 e910 e915; rw [e7047] at e910; cases e910; rw [e7050] at e915; cases e915; show v35_3.toInt ≤ ((pI P b6979 (a1.toInt.toNat)).toInt + (pI P b6989 (a1.toInt.toNat)).toInt); omega) (by show v35_5.toInt < v35_3.toInt; omega)
            · have h7060 : z7058.toInt = 0 := congrArg Int32.toInt h7060
              refine g_aload_n C dX12_setOf_108 rfl 2 rfl ?_
              refine g_iload_n C dX12_setOf_109 rfl 3 rfl ?_
              refine g_iconst (v := 0) C dX12_setOf_110 (by decide) ?_
              refine g_callVI (rest := []) C mv_X12_255 [.int a1, .int 0] (s_X12_weightOf Iy7039 (by omega) (by decide) W7041) (h7051).1 (h7051).2 rfl rfl (by decide) (Nat.le_of_ble_eq_true rfl) (by decide) dX12_setOf_111 (fun r7061 Y7062 h7063 => ?_)
              obtain ⟨rfl, h7063⟩ := h7063
              obtain ⟨h7063, hi7064⟩ := h7063
              have hi7064 := hi7064 b6982 b6985 e7048 e7049
              rw [Xz7046.2.2.2 13 (by decide) rfl b6982 (EM.refB Xz7046 ha0 e7048), Xz7046.2.2.2 14 (by decide) rfl b6985 (EM.refB Xz7046 ha0 e7049)] at hi7064
              have hi7064 : r7061.toInt = wt (pI P b6982 (a1.toInt.toNat)).toInt (pI P b6985 (a1.toInt.toNat)).toInt (0 : Int).toNat := hi7064
              have h7063 : 0 ≤ r7061.toInt ∧ r7061.toInt ≤ 9 := h7063
              refine g_goto C 118 dX12_setOf_114 (by decide) ?_
              refine g_lv (lv' := [(0, .ref a0), (1, .int a1), (3, .int v35_3), (4, .int v35_4), (5, .int v35_5), (7, .int z7056), (8, .int 0)]) [2, 3, 4, 5, 6, 1, 0] rfl ?_
              exact J118 Y7037 z7056 r7061 Iy7039 Xz7046 W7041 (by omega) (by omega) (by omega) (fun b9 e9 => by rw [e7047] at e9; cases e9; omega) (by intro b913 b914 e913 e914; rw [e7048] at e913; cases e913; rw [e7049] at e914; cases e914; show r7061.toInt = fS v35_4 (pI P b6982 (a1.toInt.toNat)).toInt (pI P b6985 (a1.toInt.toNat)).toInt (0 : Int).toNat; omega) (by intro b910 b913 b914 b915 e910 e913 e914 e915; rw [e7047] at e910; cases e910; rw [e7048] at e913; cases e913; rw [e7049] at e914; cases e914; rw [e7050] at e915; cases e915; show z7056.toInt < cS v35_4 (pI P b6982 (a1.toInt.toNat)).toInt (pI P b6985 (a1.toInt.toNat)).toInt (((pI P b6979 (a1.toInt.toNat)).toInt + (pI P b6989 (a1.toInt.toNat)).toInt) : Int).toNat; omega) (by intro b910 b915 e910 e915; rw [e7047] at e910; cases e910; rw [e7050] at e915; cases e915; show v35_3.toInt ≤ ((pI P b6979 (a1.toInt.toNat)).toInt + (pI P b6989 (a1.toInt.toNat)).toInt); omega) (by show v35_5.toInt < v35_3.toInt; omega)
          · have h7035 : v47_7.toInt < r7031.toInt := h7035
            refine g_iload C dX12_setOf_57 5 rfl ?_
            refine g_iload C dX12_setOf_59 3 rfl ?_
            refine g_iload C dX12_setOf_61 6 rfl ?_
            refine g_ishr C dX12_setOf_63 ?_
            refine g_topi (fun z7065 h7066 => ?_)
            refine g_iconst (v := 1) C dX12_setOf_64 (by decide) ?_
            refine g_iand C dX12_setOf_65 ?_
            refine g_topi (fun z7067 h7068 => ?_)
            have hbv := bit_val h7066 h7068 (by omega)
            have hfs := fS_of (p := (v47_7.toInt).toNat) ((pI P b6982 (a1.toInt.toNat)).toInt) ((pI P b6985 (a1.toInt.toNat)).toInt) hbv
            have hwr := wt_rg (a := (pI P b6982 (a1.toInt.toNat)).toInt) (v47_7.toInt).toNat (show 1 ≤ (pI P b6985 (a1.toInt.toNat)).toInt ∧ (pI P b6985 (a1.toInt.toNat)).toInt ≤ 9 by omega)
            refine b_if_ne C 79 dX12_setOf_66 (by decide) (fun h7069 => ?_) (fun h7069 => ?_)
            · have h7069 : z7067.toInt ≠ 0 := ti_ne h7069
              refine g_iconst (v := 0) C dX12_setOf_79 (by decide) ?_
              refine g_lv (lv' := [(0, .ref a0), (1, .int a1), (3, .int v35_3), (4, .int v35_4), (5, .int v35_5), (7, .int v47_7)]) [0, 1, 2, 3, 4, 6] rfl ?_
              exact J80 0 (by omega) (by omega) (by decide) (fun b9 e9 => by rw [e6980] at e9; cases e9; omega) (by intro b913 b914 e913 e914; rw [e6983] at e913; cases e913; rw [e6986] at e914; cases e914; show v47_6.toInt = cS v35_4 (pI P b6982 (a1.toInt.toNat)).toInt (pI P b6985 (a1.toInt.toNat)).toInt (v47_7.toInt : Int).toNat; omega) (by intro b913 b914 e913 e914; rw [e6983] at e913; cases e913; rw [e6986] at e914; cases e914; show 0 = fS v35_4 (pI P b6982 (a1.toInt.toNat)).toInt (pI P b6985 (a1.toInt.toNat)).toInt (v47_7.toInt : Int).toNat; omega) (by intro b910 b915 e910 e915; rw [e6980] at e910; cases e910; rw [e6990] at e915; cases e915; show 0 ≤ v47_7.toInt ∧ v47_7.toInt < ((pI P b6979 (a1.toInt.toNat)).toInt + (pI P b6989 (a1.toInt.toNat)).toInt); omega) (by show 0 ≤ v47_6.toInt ∧ v47_6.toInt ≤ 9 * v47_7.toInt; omega) (by intro b910 b915 e910 e915; rw [e6980] at e910; cases e910; rw [e6990] at e915; cases e915; show v35_3.toInt ≤ ((pI P b6979 (a1.toInt.toNat)).toInt + (pI P b6989 (a1.toInt.toNat)).toInt); omega) (by show v35_5.toInt < v35_3.toInt; omega)
            · have h7069 : z7067.toInt = 0 := congrArg Int32.toInt h7069
              refine g_aload_n C dX12_setOf_69 rfl 0 rfl ?_
              refine g_iload_n C dX12_setOf_70 rfl 1 rfl ?_
              refine g_iload C dX12_setOf_71 6 rfl ?_
              refine g_callVI (rest := [.int v47_6]) C mv_X12_255 [.int a1, .int v47_7] (s_X12_weightOf I35 (by omega) (by omega) W35) (h6978).1 (h6978).2 rfl rfl (by decide) (Nat.le_of_ble_eq_true rfl) (by decide) dX12_setOf_73 (fun r7070 Y7071 h7072 => ?_)
              obtain ⟨rfl, h7072⟩ := h7072
              obtain ⟨h7072, hi7073⟩ := h7072
              have hi7073 := hi7073 b6982 b6985 e6983 e6986
              rw [X35.2.2.2 13 (by decide) rfl b6982 (EM.refB X35 ha0 e6983), X35.2.2.2 14 (by decide) rfl b6985 (EM.refB X35 ha0 e6986)] at hi7073
              have hi7073 : r7070.toInt = wt (pI P b6982 (a1.toInt.toNat)).toInt (pI P b6985 (a1.toInt.toNat)).toInt (v47_7.toInt).toNat := hi7073
              have h7072 : 0 ≤ r7070.toInt ∧ r7070.toInt ≤ 9 := h7072
              refine g_goto C 80 dX12_setOf_76 (by decide) ?_
              refine g_lv (lv' := [(0, .ref a0), (1, .int a1), (3, .int v35_3), (4, .int v35_4), (5, .int v35_5), (7, .int v47_7)]) [0, 1, 2, 3, 4, 6] rfl ?_
              exact J80 r7070 (by omega) (by omega) (by omega) (fun b9 e9 => by rw [e6980] at e9; cases e9; omega) (by intro b913 b914 e913 e914; rw [e6983] at e913; cases e913; rw [e6986] at e914; cases e914; show v47_6.toInt = cS v35_4 (pI P b6982 (a1.toInt.toNat)).toInt (pI P b6985 (a1.toInt.toNat)).toInt (v47_7.toInt : Int).toNat; omega) (by intro b913 b914 e913 e914; rw [e6983] at e913; cases e913; rw [e6986] at e914; cases e914; show r7070.toInt = fS v35_4 (pI P b6982 (a1.toInt.toNat)).toInt (pI P b6985 (a1.toInt.toNat)).toInt (v47_7.toInt : Int).toNat; omega) (by intro b910 b915 e910 e915; rw [e6980] at e910; cases e910; rw [e6990] at e915; cases e915; show 0 ≤ v47_7.toInt ∧ v47_7.toInt < ((pI P b6979 (a1.toInt.toNat)).toInt + (pI P b6989 (a1.toInt.toNat)).toInt); omega) (by show 0 ≤ v47_6.toInt ∧ v47_6.toInt ≤ 9 * v47_7.toInt; omega) (by intro b910 b915 e910 e915; rw [e6980] at e910; cases e910; rw [e6990] at e915; cases e915; show v35_3.toInt ≤ ((pI P b6979 (a1.toInt.toNat)).toInt + (pI P b6989 (a1.toInt.toNat)).toInt); omega) (by show v35_5.toInt < v35_3.toInt; omega)
      obtain ⟨b7074, e7075, h7076⟩ := I35.fld (h6869) 13 13 3 rfl
      obtain ⟨b7077, e7078, h7079⟩ := I35.fld (h6869) 14 13 3 rfl
      have hc := hW.1 b6870 b7077 (EM.refB X35 ha0 (e6871)) (EM.refB X35 ha0 (e7078)) (a1.toInt.toNat) (by omega) (by have h9 := hf0 _ (EM.refB X35 ha0 (e6871)); omega)
      have h7080 := I.arr (EM.refB X35 ha0 (e6871)) rfl (a1.toInt.toNat)
      have h7081 := I.arr (EM.refB X35 ha0 (e7078)) rfl (a1.toInt.toNat)
      have h7082 := I.arr (EM.refB X35 ha0 (e6874)) rfl (a1.toInt.toNat)
      have q7083 := X35.keepA (EM.refB X35 ha0 (e6871)) (by decide) rfl (a1.toInt.toNat)
      have q7084 := X35.keepA (EM.refB X35 ha0 (e7078)) (by decide) rfl (a1.toInt.toNat)
      have q7085 := X35.keepA (EM.refB X35 ha0 (e6874)) (by decide) rfl (a1.toInt.toNat)
      refine g_iload C dX12_setOf_35 4 rfl ?_
      refine g_iload_n C dX12_setOf_37 rfl 2 rfl ?_
      refine b_icmp_ge C 174 dX12_setOf_38 (by decide) (fun h7086 => ?_) (fun h7086 => ?_)
      · have h7086 : v35_3.toInt ≤ v35_5.toInt := h7086
        refine g_iload C dX12_setOf_174 3 rfl ?_
        exact ret _ _ _ _ _ _ dX12_setOf_176 rfl (by decide) (by decide) ⟨I35, X35, W35, trivial⟩
      · have h7086 : v35_5.toInt < v35_3.toInt := h7086
        refine g_iconst (v := 0) C dX12_setOf_41 (by decide) ?_
        refine g_istore (lv' := [(6, .int 0), (0, .ref a0), (1, .int a1), (3, .int v35_3), (4, .int v35_4), (5, .int v35_5)]) C dX12_setOf_42 (by decide) rfl ?_
        have s0 : cS v35_4 ((pI P b7074 (a1.toInt.toNat)).toInt) ((pI P b7077 (a1.toInt.toNat)).toInt) (0 : Int).toNat = 0 := rfl
        refine g_iconst (v := 0) C dX12_setOf_44 (by decide) ?_
        refine g_istore (lv' := [(7, .int 0), (6, .int 0), (0, .ref a0), (1, .int a1), (3, .int v35_3), (4, .int v35_4), (5, .int v35_5)]) C dX12_setOf_45 (by decide) rfl ?_
        refine g_lv (lv' := [(0, .ref a0), (1, .int a1), (3, .int v35_3), (4, .int v35_4), (5, .int v35_5), (6, .int 0), (7, .int 0)]) [2, 3, 4, 5, 6, 1, 0] rfl ?_
        exact J47 _ 0 0 (Nat.lt_succ_self _) (by omega) (by decide) (by decide) (fun b9 e9 => by rw [e6871] at e9; cases e9; omega) (by intro b913 b914 e913 e914; rw [e7075] at e913; cases e913; rw [e7078] at e914; cases e914; show 0 = cS v35_4 (pI P b7074 (a1.toInt.toNat)).toInt (pI P b7077 (a1.toInt.toNat)).toInt (0 : Int).toNat; omega) (by intro b910 b915 e910 e915; rw [e6871] at e910; cases e910; rw [e6874] at e915; cases e915; show 0 ≤ ((pI P b6870 (a1.toInt.toNat)).toInt + (pI P b6873 (a1.toInt.toNat)).toInt); omega) (by show 0 ≤ 0 ∧ 0 ≤ 9 * 0; omega) (by intro b910 b915 e910 e915; rw [e6871] at e910; cases e910; rw [e6874] at e915; cases e915; show v35_3.toInt ≤ ((pI P b6870 (a1.toInt.toNat)).toInt + (pI P b6873 (a1.toInt.toNat)).toInt); omega) (by show v35_5.toInt < v35_3.toInt; omega)
  obtain ⟨b7087, e7088, h7089⟩ := I.fld (ha0) 10 13 2 rfl
  have hf0 := hf0 b7087 e7088
  obtain ⟨b7090, e7091, h7092⟩ := I.fld (ha0) 13 13 3 rfl
  obtain ⟨b7093, e7094, h7095⟩ := I.fld (ha0) 14 13 3 rfl
  obtain ⟨b7096, e7097, h7098⟩ := I.fld (ha0) 15 13 3 rfl
  have hc := hW.1 b7087 b7093 e7088 e7094 (a1.toInt.toNat) (by omega) (by omega)
  have hz9 := cB_zero
  have h7099 := I.arr (e7088) rfl (a1.toInt.toNat)
  have h7100 := I.arr (e7094) rfl (a1.toInt.toNat)
  have h7101 := I.arr (e7097) rfl (a1.toInt.toNat)
  refine g_aload_n C dX12_setOf_0 rfl 0 rfl ?_
  refine g_iload_n C dX12_setOf_1 rfl 2 rfl ?_
  refine a_i2l C dX12_setOf_2 (fun l7102 => ?_)
  refine g_ldc2 (v := 7919) C kl_X12_248 dX12_setOf_3 ?_
  refine g_topl (fun l7103 el7103 => ?_)
  have hz_l7103 : ¬ l7103 = 0 := by rw [el7103]; decide
  refine a_lmul C dX12_setOf_6 (fun l7104 => ?_)
  refine g_iload_n C dX12_setOf_7 rfl 1 rfl ?_
  refine a_i2l C dX12_setOf_8 (fun l7105 => ?_)
  refine g_ldc2 (v := 104729) C kl_X12_250 dX12_setOf_9 ?_
  refine g_topl (fun l7106 el7106 => ?_)
  have hz_l7106 : ¬ l7106 = 0 := by rw [el7106]; decide
  refine a_lmul C dX12_setOf_12 (fun l7107 => ?_)
  refine a_ladd C dX12_setOf_13 (fun l7108 => ?_)
  refine g_lconst (v := 1) C dX12_setOf_14 (by decide) ?_
  refine a_ladd C dX12_setOf_15 (fun l7109 => ?_)
  refine g_ldc2 (v := 2147483648) C kl_X12_234 dX12_setOf_16 ?_
  refine g_topl (fun l7110 el7110 => ?_)
  have hz_l7110 : ¬ l7110 = 0 := by rw [el7110]; decide
  refine a_lrem C dX12_setOf_19 hz_l7110 (fun l7111 => ?_)
  refine g_putJ C fi_X12_226 rfl (ha0).1 (ha0).2 dX12_setOf_20 ?_
  refine gq (ks := []) (I.setJ) (EM.setJ) (fun Y7112 Iy7113 Xy7114 => ?_)
  have q7115 := Xy7114.keepA e7088 (by decide) rfl (a1.toInt.toNat)
  have q7116 := Xy7114.keepA e7091 (by decide) rfl (a1.toInt.toNat)
  have q7117 := Xy7114.keepA e7094 (by decide) rfl (a1.toInt.toNat)
  have q7118 := Xy7114.keepA e7097 (by decide) rfl (a1.toInt.toNat)
  have W7119 := hW.keep I Xy7114 (by decide) (by decide) (by decide) (by decide)
  have Xz7120 : EM [] a0 P Y7112 := Xy7114.mono (by decide)
  have e7121 := Xy7114.ref ha0 (by decide) e7088
  have e7122 := Xy7114.ref ha0 (by decide) e7091
  have e7123 := Xy7114.ref ha0 (by decide) e7094
  have e7124 := Xy7114.ref ha0 (by decide) e7097
  have h7125 := Xy7114.at ha0
  have h7126 := Xy7114.ar h7089
  have h7127 := Xy7114.ar h7092
  have h7128 := Xy7114.ar h7095
  have h7129 := Xy7114.ar h7098
  refine g_aload_n C dX12_setOf_23 rfl 0 rfl ?_
  refine g_iload_n C dX12_setOf_24 rfl 1 rfl ?_
  refine g_callVI (rest := []) C mv_X12_252 [.int a1] (s_X12_howMany Iy7113 (by omega) (fun b9 e9 => by rw [e7121] at e9; cases e9; show 1 ≤ (pI Y7112 b7087 (a1.toInt.toNat)).toInt ∧ (pI Y7112 b7087 (a1.toInt.toNat)).toInt ≤ 16; omega) W7119) (h7125).1 (h7125).2 rfl rfl (by decide) (Nat.le_of_ble_eq_true rfl) (by decide) dX12_setOf_25 (fun r7130 Y7131 h7132 => ?_)
  obtain ⟨Iy7133, Xy7134, W7135, h7132⟩ := h7132
  have q7136 := Xy7134.keepA e7121 (by decide) rfl (a1.toInt.toNat)
  have q7137 := Xy7134.keepA e7122 (by decide) rfl (a1.toInt.toNat)
  have q7138 := Xy7134.keepA e7123 (by decide) rfl (a1.toInt.toNat)
  have q7139 := Xy7134.keepA e7124 (by decide) rfl (a1.toInt.toNat)
  have Xz7140 : EM [] a0 P Y7131 := EM.tr ha0 Xz7120 (Xy7134.mono (by decide))
  have e7141 := Xy7134.ref h7125 (by decide) e7121
  have e7142 := Xy7134.ref h7125 (by decide) e7122
  have e7143 := Xy7134.ref h7125 (by decide) e7123
  have e7144 := Xy7134.ref h7125 (by decide) e7124
  have h7145 := Xy7134.at h7125
  have h7146 := Xy7134.ar h7126
  have h7147 := Xy7134.ar h7127
  have h7148 := Xy7134.ar h7128
  have h7149 := Xy7134.ar h7129
  obtain ⟨h7132, hi7150⟩ := h7132
  have hi7150 : r7130.toInt ≤ (pI Y7131 b7087 (a1.toInt.toNat)).toInt + (pI Y7131 b7096 (a1.toInt.toNat)).toInt := hi7150 b7087 b7096 e7141 e7144
  have h7132 : 1 ≤ r7130.toInt ∧ r7130.toInt ≤ 20 := h7132
  refine g_istore_n (lv' := [(3, .int r7130), (0, .ref a0), (1, .int a1), (2, .int a2)]) C dX12_setOf_28 rfl (by decide) rfl ?_
  refine g_iconst (v := 0) C dX12_setOf_29 (by decide) ?_
  refine g_istore (lv' := [(4, .int 0), (3, .int r7130), (0, .ref a0), (1, .int a1), (2, .int a2)]) C dX12_setOf_30 (by decide) rfl ?_
  refine g_iconst (v := 0) C dX12_setOf_32 (by decide) ?_
  refine g_istore (lv' := [(5, .int 0), (4, .int 0), (3, .int r7130), (0, .ref a0), (1, .int a1), (2, .int a2)]) C dX12_setOf_33 (by decide) rfl ?_
  refine g_lv (lv' := [(0, .ref a0), (1, .int a1), (3, .int r7130), (4, .int 0), (5, .int 0)]) [3, 4, 2, 1, 0] rfl ?_
  exact J35 _ Y7131 r7130 0 0 (Nat.lt_succ_self _) Iy7133 Xz7140 W7135 (by omega) (by decide) (fun b9 e9 => by rw [e7141] at e9; cases e9; omega) (by show cB 0 20 ≤ 0; omega) (by show 0 ≤ 0; omega) (by intro b910 b915 e910 e915; rw [e7141] at e910; cases e910; rw [e7144] at e915; cases e915; show r7130.toInt ≤ ((pI P b7087 (a1.toInt.toNat)).toInt + (pI P b7096 (a1.toInt.toNat)).toInt); omega)
theorem dX12_gathers_73 : decode cX12_gathers 73 = .ok (.aload_n 0, 1) := by decide +kernel
theorem dX12_gathers_74 : decode cX12_gathers 74 = .ok (.getfield 78, 3) := by decide +kernel
theorem dX12_gathers_77 : decode cX12_gathers 77 = .ok (.iload 6, 2) := by decide +kernel
theorem dX12_gathers_79 : decode cX12_gathers 79 = .ok (.iaload, 1) := by decide +kernel
theorem dX12_gathers_80 : decode cX12_gathers 80 = .ok (.iload_n 3, 1) := by decide +kernel
theorem dX12_gathers_81 : decode cX12_gathers 81 = .ok (.invokestatic 315, 3) := by decide +kernel
theorem dX12_byteOf_0 : decode cX12_byteOf 0 = .ok (.iload_n 0, 1) := by decide +kernel
theorem dX12_byteOf_1 : decode cX12_byteOf 1 = .ok (.bipush 8, 2) := by decide +kernel
theorem dX12_byteOf_3 : decode cX12_byteOf 3 = .ok (.iload_n 1, 1) := by decide +kernel
theorem dX12_byteOf_4 : decode cX12_byteOf 4 = .ok (.imul, 1) := by decide +kernel
theorem dX12_byteOf_5 : decode cX12_byteOf 5 = .ok (.ishr, 1) := by decide +kernel
theorem dX12_byteOf_6 : decode cX12_byteOf 6 = .ok (.sipush 255, 3) := by decide +kernel
theorem dX12_byteOf_9 : decode cX12_byteOf 9 = .ok (.iand, 1) := by decide +kernel
theorem dX12_byteOf_10 : decode cX12_byteOf 10 = .ok (.ireturn, 1) := by decide +kernel
set_option maxHeartbeats 4000000 in
set_option maxRecDepth 100000 in
theorem s_X12_byteOf {P : PP} {a0 : Int32} {a1 : Int32} (I : IV P) : CtrI yX12_byteOf cX12_byteOf 2 (some Jvm.ClassFile.FieldType.int) ({ frames := 1, cells := 0, slots := 0, locals := 64 } : Room) 0 0 P [.int a0, .int a1] (fun r P2 => P = P2 ∧ (0 ≤ r.toInt ∧ r.toInt ≤ 255)) := by
  refine enI (lv := [(0, .int a0), (1, .int a1)]) (by decide) (Nat.le_of_ble_eq_true rfl) rfl (fun E D cy C Ci0 ret => ?_)
  refine g_iload_n C dX12_byteOf_0 rfl 0 rfl ?_
  refine g_bipush (v := 8) C dX12_byteOf_1 (by decide) ?_
  refine g_iload_n C dX12_byteOf_3 rfl 1 rfl ?_
  refine a_imul C dX12_byteOf_4 (fun z7228 => ?_)
  refine a_ishr C dX12_byteOf_5 (fun z7230 => ?_)
  refine g_sipush (v := 255) C dX12_byteOf_6 (by decide) ?_
  refine s_iand C dX12_byteOf_9 (by show 0 ≤ 255; omega) (fun z7232 h7233 => ?_)
  have h7233 : 0 ≤ z7232.toInt ∧ z7232.toInt ≤ 255 := h7233
  exact ret _ _ _ _ _ _ dX12_byteOf_10 rfl (by decide) (by decide) ⟨rfl, (by omega)⟩
theorem dX12_gathers_84 : decode cX12_gathers 84 = .ok (.iload 5, 2) := by decide +kernel
theorem dX12_gathers_86 : decode cX12_gathers 86 = .ok (.invokevirtual 308, 3) := by decide +kernel
theorem dX12_gathers_89 : decode cX12_gathers 89 = .ok (.iinc 5 1, 3) := by decide +kernel
theorem dX12_gathers_92 : decode cX12_gathers 92 = .ok (.goto (-84), 3) := by decide +kernel
set_option maxHeartbeats 4000000 in
set_option maxRecDepth 100000 in
theorem s_X12_gathers {P : PP} {a0 : Nat} {a1 : Int32} {a2 : Int32} {a3 : Int32} {a4 : Int32} (I : IM P a0) (ha1 : 0 ≤ a1.toInt ∧ a1.toInt ≤ 3) (ha2 : 0 ≤ a2.toInt ∧ a2.toInt ≤ 1) (ha4 : 0 ≤ a4.toInt ∧ a4.toInt ≤ 40) (hf0 : ∀ b, pR P a0 10 = some b → 1 ≤ (pI P b (a2.toInt.toNat)).toInt ∧ (pI P b (a2.toInt.toNat)).toInt ≤ 16) (hW : MW P a0) : CtrV yX12_gathers cX12_gathers 7 none ({ frames := 4, cells := 0, slots := 0, locals := 256 } : Room) 0 0 P [.ref a0, .int a1, .int a2, .int a3, .int a4] (fun P2 => IM P2 a0 ∧ EM [28, 29, 30, 31] a0 P P2 ∧ MW P2 a0 ∧ ((pI P2 a0 28).toInt ≤ 4 + a4.toInt) ∧ (∀ b, pR P2 a0 22 = some b → (pI P2 a0 28).toInt ≤ 4 + kC (pI P2 b) (40 * a1.toInt).toNat a2.toInt a4.toInt.toNat)) := by
  refine enV (lv := [(0, .ref a0), (1, .int a1), (2, .int a2), (3, .int a3), (4, .int a4)]) (by decide) (Nat.le_of_ble_eq_true rfl) rfl (fun E D cy C Ci0 ret => ?_)
  have ha0 := I.2.1
  have J8 : ∀ (n8 : Nat) (P8 : PP) (v8_5 : Int32), (40 - v8_5.toInt).toNat < n8 → (IM P8 a0) → (EM [28, 29, 30, 31] a0 P P8) → (MW P8 a0) → (0 ≤ v8_5.toInt ∧ v8_5.toInt ≤ 40) → (∀ b, pR P8 a0 10 = some b → 1 ≤ (pI P8 b (a2.toInt.toNat)).toInt ∧ (pI P8 b (a2.toInt.toNat)).toInt ≤ 16) → ((pI P8 a0 28).toInt ≤ 4 + v8_5.toInt) → (v8_5.toInt ≤ a4.toInt) → (∀ b922, pR P8 a0 22 = some b922 → (pI P8 a0 28).toInt ≤ 4 + kC (pI P b922) (40 * a1.toInt).toNat a2.toInt (v8_5.toInt : Int).toNat) → G E ({ frames := 4, cells := 0, slots := 0, locals := 256 } : Room) D cy 7 P8 0 0 8 [(0, .ref a0), (1, .int a1), (2, .int a2), (3, .int a3), (4, .int a4), (5, .int v8_5)] [] := by
    intro n8
    induction n8 with
    | zero => intro P8 v8_5 hm8 I8 X8 W8 hv8_5 hq8_0 rel8_0 rel8_1 rel8_2; omega
    | succ n8 ih8 =>
      intro P8 v8_5 hm8 I8 X8 W8 hv8_5 hq8_0 rel8_0 rel8_1 rel8_2
      have h8823 := X8.at ha0
      obtain ⟨b8824, e8825, h8826⟩ := I8.fld (h8823) 10 13 2 rfl
      have hq8_0 := hq8_0 b8824 e8825
      have h8827 := I8.rg h8823 28 rfl
      obtain ⟨b8828, e8829, h8830⟩ := I8.fld (h8823) 22 13 800 rfl
      have rel8_2 := rel8_2 b8828 e8829
      have J89 : ∀ (P89 : PP), (IM P89 a0) → (EM [28, 29, 30, 31] a0 P P89) → (MW P89 a0) → (1 ≤ a4.toInt ∧ a4.toInt ≤ 40) → (0 ≤ v8_5.toInt ∧ v8_5.toInt ≤ 39) → (∀ b, pR P89 a0 10 = some b → 1 ≤ (pI P89 b (a2.toInt.toNat)).toInt ∧ (pI P89 b (a2.toInt.toNat)).toInt ≤ 16) → ((pI P89 a0 28).toInt ≤ 5 + v8_5.toInt) → (v8_5.toInt < a4.toInt) → (∀ b922, pR P89 a0 22 = some b922 → (pI P89 a0 28).toInt ≤ 4 + kC (pI P b922) (40 * a1.toInt).toNat a2.toInt (v8_5.toInt + 1 : Int).toNat) → G E ({ frames := 4, cells := 0, slots := 0, locals := 256 } : Room) D cy 7 P89 0 0 89 [(0, .ref a0), (1, .int a1), (2, .int a2), (3, .int a3), (4, .int a4), (5, .int v8_5)] [] := by
        intro P89 I89 X89 W89 hv89_4 hv89_5 hq89_0 rel89_0 rel89_1 rel89_2
        have h8831 := X89.at ha0
        obtain ⟨b8832, e8833, h8834⟩ := I89.fld (h8831) 10 13 2 rfl
        have hq89_0 := hq89_0 b8832 e8833
        have h8835 := I89.rg h8831 28 rfl
        obtain ⟨b8836, e8837, h8838⟩ := I89.fld (h8831) 22 13 800 rfl
        have rel89_2 := rel89_2 b8836 e8837
        refine s_iinc (lv0 := [(0, .ref a0), (1, .int a1), (2, .int a2), (3, .int a3), (4, .int a4)]) (m := 1) C dX12_gathers_89 5 rfl (by decide) rfl (by decide) (by omega) (fun z8839 h8840 => ?_)
        have h8840 : z8839.toInt = v8_5.toInt + 1 := h8840
        have hz : kC (pI P b8836) (40 * a1.toInt).toNat a2.toInt (v8_5.toInt + 1).toNat = kC (pI P b8836) (40 * a1.toInt).toNat a2.toInt (z8839.toInt).toNat := by rw [show v8_5.toInt + 1 = z8839.toInt by omega]
        refine g_goto C 8 dX12_gathers_92 (by decide) ?_
        refine g_lv (lv' := [(0, .ref a0), (1, .int a1), (2, .int a2), (3, .int a3), (4, .int a4), (5, .int z8839)]) [1, 2, 3, 4, 5, 0] rfl ?_
        exact ih8 P89 z8839 (by omega) I89 X89 W89 (by omega) (fun b9 e9 => by rw [e8833] at e9; cases e9; omega) (by show (pI P89 a0 28).toInt ≤ 4 + z8839.toInt; omega) (by show z8839.toInt ≤ a4.toInt; omega) (by intro b922 e922; rw [e8837] at e922; cases e922; show (pI P89 a0 28).toInt ≤ 4 + kC (pI P b8836) (40 * a1.toInt).toNat a2.toInt (z8839.toInt : Int).toNat; omega)
      refine g_iload C dX12_gathers_8 5 rfl ?_
      refine g_iload C dX12_gathers_10 4 rfl ?_
      refine b_icmp_ge C 95 dX12_gathers_12 (by decide) (fun h8841 => ?_) (fun h8841 => ?_)
      · have h8841 : a4.toInt ≤ v8_5.toInt := h8841
        exact ret _ _ _ _ _ dX12_gathers_95 (by decide) (by decide) ⟨I8, X8, W8, (by show (pI P8 a0 28).toInt ≤ 4 + a4.toInt; omega), (fun b9 e9 => by rw [e8829] at e9; cases e9; have h8 : kC (pI P b8828) (40 * a1.toInt).toNat a2.toInt v8_5.toInt.toNat = kC (pI P b8828) (40 * a1.toInt).toNat a2.toInt a4.toInt.toNat := by { rw [show v8_5.toInt.toNat = a4.toInt.toNat by omega] }; rw [X8.2.2.2 22 (by decide) rfl b8828 (EM.refB X8 ha0 e8829)]; omega)⟩
      · have h8841 : v8_5.toInt < a4.toInt := h8841
        refine g_bipush (v := 40) C dX12_gathers_15 (by decide) ?_
        refine g_iload_n C dX12_gathers_17 rfl 1 rfl ?_
        refine s_imul C dX12_gathers_18 (by show -2147483648 ≤ 40 * a1.toInt ∧ 40 * a1.toInt ≤ 2147483647; omega) (fun z8842 h8843 => ?_)
        have h8843 : z8842.toInt = 40 * a1.toInt := h8843
        refine g_iload C dX12_gathers_19 5 rfl ?_
        refine s_iadd C dX12_gathers_21 (by show -2147483648 ≤ z8842.toInt + v8_5.toInt ∧ z8842.toInt + v8_5.toInt ≤ 2147483647; omega) (fun z8844 h8845 => ?_)
        have h8845 : z8844.toInt = z8842.toInt + v8_5.toInt := h8845
        refine g_istore (lv' := [(6, .int z8844), (0, .ref a0), (1, .int a1), (2, .int a2), (3, .int a3), (4, .int a4), (5, .int v8_5)]) C dX12_gathers_22 (by decide) rfl ?_
        refine g_aload_n C dX12_gathers_24 rfl 1 rfl ?_
        refine g_getR C fi_X12_75 rfl e8829 (h8823).1 (h8823).2 dX12_gathers_25 ?_
        refine g_iload C dX12_gathers_28 0 rfl ?_
        refine g_iald (j := (z8844.toInt.toNat)) C h8830.1 h8830.2.1 (ix_in h8830.2.2 (by omega)) dX12_gathers_30 ?_
        have h8846 := I8.arr e8829 rfl (z8844.toInt.toNat)
        refine g_iload_n C dX12_gathers_31 rfl 3 rfl ?_
        have q8847 := X8.keepA (EM.refB X8 ha0 e8829) (by decide) rfl (z8844.toInt.toNat)
        have st := kC_step (f := pI P b8828) (o := (40 * a1.toInt).toNat) (b := a2.toInt) (k := (z8844.toInt.toNat)) (d := v8_5.toInt) (d2 := v8_5.toInt + 1) (by omega) (by omega) (by omega)
        have ko := kO_or (pI P b8828 (z8844.toInt.toNat)) a2.toInt
        refine b_icmp_ne C 89 dX12_gathers_32 (by decide) (fun h8848 => ?_) (fun h8848 => ?_)
        · have h8848 : (pI P8 b8828 (z8844.toInt.toNat)).toInt ≠ a2.toInt := ti_ne h8848
          refine g_lv (lv' := [(0, .ref a0), (1, .int a1), (2, .int a2), (3, .int a3), (4, .int a4), (5, .int v8_5)]) [1, 2, 3, 4, 5, 6] rfl ?_
          exact J89 P8 I8 X8 W8 (by omega) (by omega) (fun b9 e9 => by rw [e8825] at e9; cases e9; omega) (by show (pI P8 a0 28).toInt ≤ 5 + v8_5.toInt; omega) (by show v8_5.toInt < a4.toInt; omega) (by intro b922 e922; rw [e8829] at e922; cases e922; show (pI P8 a0 28).toInt ≤ 4 + kC (pI P b8828) (40 * a1.toInt).toNat a2.toInt (v8_5.toInt + 1 : Int).toNat; omega)
        · have h8848 : (pI P8 b8828 (z8844.toInt.toNat)).toInt = a2.toInt := congrArg Int32.toInt h8848
          refine g_aload_n C dX12_gathers_35 rfl 1 rfl ?_
          obtain ⟨b8849, e8850, h8851⟩ := I8.fld (h8823) 24 13 800 rfl
          refine g_getR C fi_X12_81 rfl e8850 (h8823).1 (h8823).2 dX12_gathers_36 ?_
          refine g_iload C dX12_gathers_39 0 rfl ?_
          refine g_iald (j := (z8844.toInt.toNat)) C h8851.1 h8851.2.1 (ix_in h8851.2.2 (by omega)) dX12_gathers_41 ?_
          refine g_iload_n C dX12_gathers_42 rfl 4 rfl ?_
          refine a_ishr C dX12_gathers_43 (fun z8852 => ?_)
          refine g_iconst (v := 1) C dX12_gathers_44 (by decide) ?_
          refine s_iand C dX12_gathers_45 (by show 0 ≤ 1; omega) (fun z8854 h8855 => ?_)
          have h8855 : 0 ≤ z8854.toInt ∧ z8854.toInt ≤ 1 := h8855
          refine g_iconst (v := 1) C dX12_gathers_46 (by decide) ?_
          refine b_icmp_ne C 89 dX12_gathers_47 (by decide) (fun h8856 => ?_) (fun h8856 => ?_)
          · have h8856 : z8854.toInt ≠ 1 := ti_ne h8856
            refine g_lv (lv' := [(0, .ref a0), (1, .int a1), (2, .int a2), (3, .int a3), (4, .int a4), (5, .int v8_5)]) [1, 2, 3, 4, 5, 6] rfl ?_
            exact J89 P8 I8 X8 W8 (by omega) (by omega) (fun b9 e9 => by rw [e8825] at e9; cases e9; omega) (by show (pI P8 a0 28).toInt ≤ 5 + v8_5.toInt; omega) (by show v8_5.toInt < a4.toInt; omega) (by intro b922 e922; rw [e8829] at e922; cases e922; show (pI P8 a0 28).toInt ≤ 4 + kC (pI P b8828) (40 * a1.toInt).toNat a2.toInt (v8_5.toInt + 1 : Int).toNat; omega)
          · have h8856 : z8854.toInt = 1 := congrArg Int32.toInt h8856
            refine g_aload_n C dX12_gathers_50 rfl 1 rfl ?_
            obtain ⟨b8857, e8858, h8859⟩ := I8.fld (h8823) 32 15 40 rfl
            refine g_getR C fi_X12_100 rfl e8858 (h8823).1 (h8823).2 dX12_gathers_51 ?_
            refine g_iload C dX12_gathers_54 6 rfl ?_
            refine g_zald (j := (v8_5.toInt.toNat)) C h8859.1 h8859.2.1 (ix_in h8859.2.2 (by omega)) dX12_gathers_56 ?_
            have u8861 := ti_rng (pI P8 b8857 (v8_5.toInt.toNat))
            refine b_if_ne C 89 dX12_gathers_57 (by decide) (fun h8860 => ?_) (fun h8860 => ?_)
            · have h8860 : (pI P8 b8857 (v8_5.toInt.toNat)).toInt ≠ 0 := ti_ne h8860
              refine g_lv (lv' := [(0, .ref a0), (1, .int a1), (2, .int a2), (3, .int a3), (4, .int a4), (5, .int v8_5)]) [1, 2, 3, 4, 5, 6] rfl ?_
              exact J89 P8 I8 X8 W8 (by omega) (by omega) (fun b9 e9 => by rw [e8825] at e9; cases e9; omega) (by show (pI P8 a0 28).toInt ≤ 5 + v8_5.toInt; omega) (by show v8_5.toInt < a4.toInt; omega) (by intro b922 e922; rw [e8829] at e922; cases e922; show (pI P8 a0 28).toInt ≤ 4 + kC (pI P b8828) (40 * a1.toInt).toNat a2.toInt (v8_5.toInt + 1 : Int).toNat; omega)
            · have h8860 : (pI P8 b8857 (v8_5.toInt.toNat)).toInt = 0 := congrArg Int32.toInt h8860
              refine g_aload_n C dX12_gathers_60 rfl 1 rfl ?_
              refine g_aload_n C dX12_gathers_61 rfl 1 rfl ?_
              refine g_iload_n C dX12_gathers_62 rfl 3 rfl ?_
              refine g_aload_n C dX12_gathers_63 rfl 1 rfl ?_
              obtain ⟨b8862, e8863, h8864⟩ := I8.fld (h8823) 21 13 800 rfl
              refine g_getR C fi_X12_72 rfl e8863 (h8823).1 (h8823).2 dX12_gathers_64 ?_
              refine g_iload C dX12_gathers_67 0 rfl ?_
              refine g_iald (j := (z8844.toInt.toNat)) C h8864.1 h8864.2.1 (ix_in h8864.2.2 (by omega)) dX12_gathers_69 ?_
              refine g_callVI (rest := [.ref a0]) C mv_X12_261 [.int a2, .int (pI P8 b8862 (z8844.toInt.toNat))] (s_X12_setOf I8 (by omega) (fun b9 e9 => by rw [e8825] at e9; cases e9; show 1 ≤ (pI P8 b8824 (a2.toInt.toNat)).toInt ∧ (pI P8 b8824 (a2.toInt.toNat)).toInt ≤ 16; omega) W8) (h8823).1 (h8823).2 rfl rfl (by decide) (Nat.le_of_ble_eq_true rfl) (by decide) dX12_gathers_70 (fun r8865 Y8866 h8867 => ?_)
              obtain ⟨Iy8868, Xy8869, W8870, h8867⟩ := h8867
              have q8871 := Xy8869.keepA e8825 (by decide) rfl (a2.toInt.toNat)
              have q8872 := Xy8869.keepF 28 (by decide)
              have q8873 := Xy8869.keepA e8829 (by decide) rfl (z8844.toInt.toNat)
              have q8874 := Xy8869.keepA e8858 (by decide) rfl (v8_5.toInt.toNat)
              have Xz8875 : EM [28, 29, 30, 31] a0 P Y8866 := EM.tr ha0 X8 (Xy8869.mono (by decide))
              have e8876 := Xy8869.ref h8823 (by decide) e8825
              have e8877 := Xy8869.ref h8823 (by decide) e8829
              have e8878 := Xy8869.ref h8823 (by decide) e8858
              have h8879 := Xy8869.at h8823
              have h8880 := Xy8869.ar h8826
              have h8881 := Xy8869.ar h8830
              have h8882 := Xy8869.ar h8859
              have h8867 : True := h8867
              refine g_aload_n C dX12_gathers_73 rfl 1 rfl ?_
              obtain ⟨b8883, e8884, h8885⟩ := Iy8868.fld (h8879) 23 13 800 rfl
              refine g_getR C fi_X12_78 rfl e8884 (h8879).1 (h8879).2 dX12_gathers_74 ?_
              refine g_iload C dX12_gathers_77 0 rfl ?_
              refine g_iald (j := (z8844.toInt.toNat)) C h8885.1 h8885.2.1 (ix_in h8885.2.2 (by omega)) dX12_gathers_79 ?_
              refine g_iload_n C dX12_gathers_80 rfl 4 rfl ?_
              refine g_callSI (b := 0) (ci := 0) (rest := [.int r8865, .ref a0]) C ms_X12_315 [.int (pI Y8866 b8883 (z8844.toInt.toNat)), .int a3] (s_X12_byteOf Iy8868.1) rfl rfl (by decide) (Nat.le_of_ble_eq_true rfl) (by decide) dX12_gathers_81 (fun r8886 Y8887 h8888 => ?_)
              obtain ⟨rfl, h8888⟩ := h8888
              have h8888 : 0 ≤ r8886.toInt ∧ r8886.toInt ≤ 255 := h8888
              refine g_iload C dX12_gathers_84 6 rfl ?_
              refine g_callVV (rest := []) C mv_X12_308 [.int r8865, .int r8886, .int v8_5] (s_X12_adds Iy8868 (by omega) W8870) (h8879).1 (h8879).2 rfl rfl (by decide) (Nat.le_of_ble_eq_true rfl) (by decide) dX12_gathers_86 (fun Y8890 h8891 => ?_)
              obtain ⟨Iy8892, Xy8893, W8894, p8895⟩ := h8891
              have p8895 : (pI Y8890 a0 28).toInt = (pI Y8866 a0 28).toInt + 1 := p8895
              have q8896 := Xy8893.keepA e8876 (by decide) rfl (a2.toInt.toNat)
              have q8897 := Xy8893.keepA e8877 (by decide) rfl (z8844.toInt.toNat)
              have q8898 := Xy8893.keepA e8878 (by decide) rfl (v8_5.toInt.toNat)
              have Xz8899 : EM [28, 29, 30, 31] a0 P Y8890 := EM.tr ha0 Xz8875 (Xy8893.mono (by decide))
              have e8900 := Xy8893.ref h8879 (by decide) e8876
              have e8901 := Xy8893.ref h8879 (by decide) e8877
              have e8902 := Xy8893.ref h8879 (by decide) e8878
              have h8903 := Xy8893.at h8879
              have h8904 := Xy8893.ar h8880
              have h8905 := Xy8893.ar h8881
              have h8906 := Xy8893.ar h8882
              have h8907 := Iy8892.rg h8903 28 rfl
              refine g_lv (lv' := [(0, .ref a0), (1, .int a1), (2, .int a2), (3, .int a3), (4, .int a4), (5, .int v8_5)]) [1, 2, 3, 4, 5, 6] rfl ?_
              exact J89 Y8890 Iy8892 Xz8899 W8894 (by omega) (by omega) (fun b9 e9 => by rw [e8900] at e9; cases e9; omega) (by show (pI Y8890 a0 28).toInt ≤ 5 + v8_5.toInt; omega) (by show v8_5.toInt < a4.toInt; omega) (by intro b922 e922; rw [e8901] at e922; cases e922; show (pI Y8890 a0 28).toInt ≤ 4 + kC (pI P b8828) (40 * a1.toInt).toNat a2.toInt (v8_5.toInt + 1 : Int).toNat; omega)
  obtain ⟨b8908, e8909, h8910⟩ := I.fld (ha0) 10 13 2 rfl
  have hf0 := hf0 b8908 e8909
  refine g_aload_n C dX12_gathers_0 rfl 0 rfl ?_
  refine g_iload_n C dX12_gathers_1 rfl 2 rfl ?_
  refine g_callVV (rest := []) C mv_X12_312 [.int a2] (s_X12_begins I (by omega) hW) (ha0).1 (ha0).2 rfl rfl (by decide) (Nat.le_of_ble_eq_true rfl) (by decide) dX12_gathers_2 (fun Y8912 h8913 => ?_)
  obtain ⟨Iy8914, Xy8915, W8916, p8917⟩ := h8913
  have p8917 : (pI Y8912 a0 28).toInt ≤ 4 := p8917
  have q8918 := Xy8915.keepA e8909 (by decide) rfl (a2.toInt.toNat)
  have Xz8919 : EM [28, 29, 30, 31] a0 P Y8912 := Xy8915.mono (by decide)
  have e8920 := Xy8915.ref ha0 (by decide) e8909
  have h8921 := Xy8915.at ha0
  have h8922 := Xy8915.ar h8910
  have h8923 := Iy8914.rg h8921 28 rfl
  refine g_iconst (v := 0) C dX12_gathers_5 (by decide) ?_
  obtain ⟨b8924, e8925, h8926⟩ := Iy8914.fld (h8921) 22 13 800 rfl
  have k0 : kC (pI P b8924) (40 * a1.toInt).toNat a2.toInt (0 : Int).toNat = 0 := rfl
  refine g_istore (lv' := [(5, .int 0), (0, .ref a0), (1, .int a1), (2, .int a2), (3, .int a3), (4, .int a4)]) C dX12_gathers_6 (by decide) rfl ?_
  refine g_lv (lv' := [(0, .ref a0), (1, .int a1), (2, .int a2), (3, .int a3), (4, .int a4), (5, .int 0)]) [1, 2, 3, 4, 5, 0] rfl ?_
  exact J8 _ Y8912 0 (Nat.lt_succ_self _) Iy8914 Xz8919 W8916 (by decide) (fun b9 e9 => by rw [e8920] at e9; cases e9; omega) (by show (pI Y8912 a0 28).toInt ≤ 4 + 0; omega) (by show 0 ≤ a4.toInt; omega) (by intro b922 e922; rw [e8925] at e922; cases e922; show (pI Y8912 a0 28).toInt ≤ 4 + kC (pI P b8924) (40 * a1.toInt).toNat a2.toInt (0 : Int).toNat; omega)
theorem dX12_agreesBy_23 : decode cX12_agreesBy 23 = .ok (.iconst 0, 1) := by decide +kernel
theorem dX12_agreesBy_24 : decode cX12_agreesBy 24 = .ok (.istore 5, 2) := by decide +kernel
theorem dX12_agreesBy_26 : decode cX12_agreesBy 26 = .ok (.iconst 0, 1) := by decide +kernel
theorem dX12_agreesBy_27 : decode cX12_agreesBy 27 = .ok (.istore 6, 2) := by decide +kernel
theorem dX12_agreesBy_29 : decode cX12_agreesBy 29 = .ok (.iload 6, 2) := by decide +kernel
theorem dX12_agreesBy_31 : decode cX12_agreesBy 31 = .ok (.aload_n 0, 1) := by decide +kernel
theorem dX12_agreesBy_32 : decode cX12_agreesBy 32 = .ok (.getfield 69, 3) := by decide +kernel
theorem dX12_agreesBy_35 : decode cX12_agreesBy 35 = .ok (.iload_n 1, 1) := by decide +kernel
theorem dX12_agreesBy_36 : decode cX12_agreesBy 36 = .ok (.iaload, 1) := by decide +kernel
theorem dX12_agreesBy_37 : decode cX12_agreesBy 37 = .ok (.if_icmp .ge 71, 3) := by decide +kernel
theorem dX12_agreesBy_108 : decode cX12_agreesBy 108 = .ok (.aload_n 0, 1) := by decide +kernel
theorem dX12_agreesBy_109 : decode cX12_agreesBy 109 = .ok (.invokevirtual 346, 3) := by decide +kernel
theorem dX12_findSolved_0 : decode cX12_findSolved 0 = .ok (.aload_n 0, 1) := by decide +kernel
theorem dX12_findSolved_1 : decode cX12_findSolved 1 = .ok (.iconst 0, 1) := by decide +kernel
theorem dX12_findSolved_2 : decode cX12_findSolved 2 = .ok (.putfield 324, 3) := by decide +kernel
theorem dX12_findSolved_5 : decode cX12_findSolved 5 = .ok (.aload_n 0, 1) := by decide +kernel
theorem dX12_findSolved_6 : decode cX12_findSolved 6 = .ok (.iconst 1, 1) := by decide +kernel
theorem dX12_findSolved_7 : decode cX12_findSolved 7 = .ok (.putfield 326, 3) := by decide +kernel
theorem dX12_findSolved_10 : decode cX12_findSolved 10 = .ok (.iconst 0, 1) := by decide +kernel
theorem dX12_findSolved_11 : decode cX12_findSolved 11 = .ok (.istore_n 1, 1) := by decide +kernel
theorem dX12_findSolved_12 : decode cX12_findSolved 12 = .ok (.iload_n 1, 1) := by decide +kernel
theorem dX12_findSolved_13 : decode cX12_findSolved 13 = .ok (.bipush 20, 2) := by decide +kernel
theorem dX12_findSolved_15 : decode cX12_findSolved 15 = .ok (.if_icmp .ge 16, 3) := by decide +kernel
theorem dX12_findSolved_18 : decode cX12_findSolved 18 = .ok (.aload_n 0, 1) := by decide +kernel
theorem dX12_findSolved_19 : decode cX12_findSolved 19 = .ok (.getfield 106, 3) := by decide +kernel
theorem dX12_findSolved_22 : decode cX12_findSolved 22 = .ok (.iload_n 1, 1) := by decide +kernel
theorem dX12_findSolved_23 : decode cX12_findSolved 23 = .ok (.iconst 0, 1) := by decide +kernel
theorem dX12_findSolved_24 : decode cX12_findSolved 24 = .ok (.iastore, 1) := by decide +kernel
theorem dX12_findSolved_25 : decode cX12_findSolved 25 = .ok (.iinc 1 1, 3) := by decide +kernel
theorem dX12_findSolved_28 : decode cX12_findSolved 28 = .ok (.goto (-16), 3) := by decide +kernel
theorem dX12_findSolved_31 : decode cX12_findSolved 31 = .ok (.iconst 0, 1) := by decide +kernel
theorem dX12_findSolved_32 : decode cX12_findSolved 32 = .ok (.istore_n 1, 1) := by decide +kernel
theorem dX12_findSolved_33 : decode cX12_findSolved 33 = .ok (.iload_n 1, 1) := by decide +kernel
theorem dX12_findSolved_34 : decode cX12_findSolved 34 = .ok (.aload_n 0, 1) := by decide +kernel
theorem dX12_findSolved_35 : decode cX12_findSolved 35 = .ok (.getfield 305, 3) := by decide +kernel
theorem dX12_findSolved_38 : decode cX12_findSolved 38 = .ok (.if_icmp .ge 224, 3) := by decide +kernel
theorem dX12_findSolved_41 : decode cX12_findSolved 41 = .ok (.aload_n 0, 1) := by decide +kernel
theorem dX12_findSolved_42 : decode cX12_findSolved 42 = .ok (.getfield 91, 3) := by decide +kernel
theorem dX12_findSolved_45 : decode cX12_findSolved 45 = .ok (.iload_n 1, 1) := by decide +kernel
theorem dX12_findSolved_46 : decode cX12_findSolved 46 = .ok (.iaload, 1) := by decide +kernel
theorem dX12_findSolved_47 : decode cX12_findSolved 47 = .ok (.istore_n 2, 1) := by decide +kernel
theorem dX12_findSolved_48 : decode cX12_findSolved 48 = .ok (.aload_n 0, 1) := by decide +kernel
theorem dX12_findSolved_49 : decode cX12_findSolved 49 = .ok (.getfield 94, 3) := by decide +kernel
theorem dX12_findSolved_52 : decode cX12_findSolved 52 = .ok (.iload_n 1, 1) := by decide +kernel
theorem dX12_findSolved_53 : decode cX12_findSolved 53 = .ok (.iaload, 1) := by decide +kernel
theorem dX12_findSolved_54 : decode cX12_findSolved 54 = .ok (.istore_n 3, 1) := by decide +kernel
theorem dX12_findSolved_55 : decode cX12_findSolved 55 = .ok (.iconst 0, 1) := by decide +kernel
theorem dX12_findSolved_56 : decode cX12_findSolved 56 = .ok (.istore 4, 2) := by decide +kernel
theorem dX12_findSolved_58 : decode cX12_findSolved 58 = .ok (.iload 4, 2) := by decide +kernel
theorem dX12_findSolved_60 : decode cX12_findSolved 60 = .ok (.bipush 20, 2) := by decide +kernel
theorem dX12_findSolved_62 : decode cX12_findSolved 62 = .ok (.if_icmp .ge 49, 3) := by decide +kernel
theorem dX12_findSolved_65 : decode cX12_findSolved 65 = .ok (.iload_n 2, 1) := by decide +kernel
theorem dX12_findSolved_66 : decode cX12_findSolved 66 = .ok (.iload 4, 2) := by decide +kernel
theorem dX12_findSolved_68 : decode cX12_findSolved 68 = .ok (.ishr, 1) := by decide +kernel
theorem dX12_findSolved_69 : decode cX12_findSolved 69 = .ok (.iconst 1, 1) := by decide +kernel
theorem dX12_findSolved_70 : decode cX12_findSolved 70 = .ok (.iand, 1) := by decide +kernel
theorem dX12_findSolved_71 : decode cX12_findSolved 71 = .ok (.iconst 1, 1) := by decide +kernel
theorem dX12_findSolved_72 : decode cX12_findSolved 72 = .ok (.if_icmp .ne 33, 3) := by decide +kernel
theorem dX12_findSolved_75 : decode cX12_findSolved 75 = .ok (.aload_n 0, 1) := by decide +kernel
theorem dX12_findSolved_76 : decode cX12_findSolved 76 = .ok (.getfield 106, 3) := by decide +kernel
theorem dX12_findSolved_79 : decode cX12_findSolved 79 = .ok (.iload 4, 2) := by decide +kernel
theorem dX12_findSolved_81 : decode cX12_findSolved 81 = .ok (.iaload, 1) := by decide +kernel
theorem dX12_findSolved_82 : decode cX12_findSolved 82 = .ok (.ifCond .eq 23, 3) := by decide +kernel
theorem dX12_findSolved_85 : decode cX12_findSolved 85 = .ok (.iload_n 2, 1) := by decide +kernel
theorem dX12_findSolved_86 : decode cX12_findSolved 86 = .ok (.aload_n 0, 1) := by decide +kernel
theorem dX12_findSolved_87 : decode cX12_findSolved 87 = .ok (.getfield 106, 3) := by decide +kernel
theorem dX12_findSolved_90 : decode cX12_findSolved 90 = .ok (.iload 4, 2) := by decide +kernel
theorem dX12_findSolved_92 : decode cX12_findSolved 92 = .ok (.iaload, 1) := by decide +kernel
theorem dX12_findSolved_93 : decode cX12_findSolved 93 = .ok (.ixor, 1) := by decide +kernel
theorem dX12_findSolved_94 : decode cX12_findSolved 94 = .ok (.istore_n 2, 1) := by decide +kernel
theorem dX12_findSolved_95 : decode cX12_findSolved 95 = .ok (.iload_n 3, 1) := by decide +kernel
theorem dX12_findSolved_96 : decode cX12_findSolved 96 = .ok (.aload_n 0, 1) := by decide +kernel
theorem dX12_findSolved_97 : decode cX12_findSolved 97 = .ok (.getfield 109, 3) := by decide +kernel
theorem dX12_findSolved_100 : decode cX12_findSolved 100 = .ok (.iload 4, 2) := by decide +kernel
theorem dX12_findSolved_102 : decode cX12_findSolved 102 = .ok (.iaload, 1) := by decide +kernel
theorem dX12_findSolved_103 : decode cX12_findSolved 103 = .ok (.ixor, 1) := by decide +kernel
theorem dX12_findSolved_104 : decode cX12_findSolved 104 = .ok (.istore_n 3, 1) := by decide +kernel
theorem dX12_findSolved_105 : decode cX12_findSolved 105 = .ok (.iinc 4 1, 3) := by decide +kernel
theorem dX12_findSolved_108 : decode cX12_findSolved 108 = .ok (.goto (-50), 3) := by decide +kernel
theorem dX12_findSolved_111 : decode cX12_findSolved 111 = .ok (.iconst (-1), 1) := by decide +kernel
theorem dX12_findSolved_112 : decode cX12_findSolved 112 = .ok (.istore 4, 2) := by decide +kernel
theorem dX12_findSolved_114 : decode cX12_findSolved 114 = .ok (.bipush 19, 2) := by decide +kernel
theorem dX12_findSolved_116 : decode cX12_findSolved 116 = .ok (.istore 5, 2) := by decide +kernel
theorem dX12_findSolved_118 : decode cX12_findSolved 118 = .ok (.iload 5, 2) := by decide +kernel
theorem dX12_findSolved_120 : decode cX12_findSolved 120 = .ok (.ifCond .lt 28, 3) := by decide +kernel
theorem dX12_findSolved_123 : decode cX12_findSolved 123 = .ok (.iload_n 2, 1) := by decide +kernel
theorem dX12_findSolved_124 : decode cX12_findSolved 124 = .ok (.iload 5, 2) := by decide +kernel
theorem dX12_findSolved_126 : decode cX12_findSolved 126 = .ok (.ishr, 1) := by decide +kernel
theorem dX12_findSolved_127 : decode cX12_findSolved 127 = .ok (.iconst 1, 1) := by decide +kernel
theorem dX12_findSolved_128 : decode cX12_findSolved 128 = .ok (.iand, 1) := by decide +kernel
theorem dX12_findSolved_129 : decode cX12_findSolved 129 = .ok (.iconst 1, 1) := by decide +kernel
theorem dX12_findSolved_130 : decode cX12_findSolved 130 = .ok (.if_icmp .ne 8, 3) := by decide +kernel
theorem dX12_findSolved_133 : decode cX12_findSolved 133 = .ok (.iload 5, 2) := by decide +kernel
theorem dX12_findSolved_135 : decode cX12_findSolved 135 = .ok (.goto 5, 3) := by decide +kernel
theorem dX12_findSolved_138 : decode cX12_findSolved 138 = .ok (.iload 4, 2) := by decide +kernel
theorem dX12_findSolved_140 : decode cX12_findSolved 140 = .ok (.istore 4, 2) := by decide +kernel
theorem dX12_findSolved_142 : decode cX12_findSolved 142 = .ok (.iinc 5 (-1), 3) := by decide +kernel
theorem dX12_findSolved_145 : decode cX12_findSolved 145 = .ok (.goto (-27), 3) := by decide +kernel
theorem dX12_findSolved_148 : decode cX12_findSolved 148 = .ok (.iload 4, 2) := by decide +kernel
theorem dX12_findSolved_150 : decode cX12_findSolved 150 = .ok (.ifCond .ge 26, 3) := by decide +kernel
theorem dX12_findSolved_153 : decode cX12_findSolved 153 = .ok (.aload_n 0, 1) := by decide +kernel
theorem dX12_findSolved_154 : decode cX12_findSolved 154 = .ok (.aload_n 0, 1) := by decide +kernel
theorem dX12_findSolved_155 : decode cX12_findSolved 155 = .ok (.getfield 326, 3) := by decide +kernel
theorem dX12_findSolved_158 : decode cX12_findSolved 158 = .ok (.ifCond .eq 11, 3) := by decide +kernel
theorem dX12_findSolved_161 : decode cX12_findSolved 161 = .ok (.iload_n 3, 1) := by decide +kernel
theorem dX12_findSolved_162 : decode cX12_findSolved 162 = .ok (.ifCond .ne 7, 3) := by decide +kernel
theorem dX12_findSolved_165 : decode cX12_findSolved 165 = .ok (.iconst 1, 1) := by decide +kernel
theorem dX12_findSolved_166 : decode cX12_findSolved 166 = .ok (.goto 4, 3) := by decide +kernel
theorem dX12_findSolved_169 : decode cX12_findSolved 169 = .ok (.iconst 0, 1) := by decide +kernel
theorem dX12_findSolved_170 : decode cX12_findSolved 170 = .ok (.putfield 326, 3) := by decide +kernel
theorem dX12_findSolved_173 : decode cX12_findSolved 173 = .ok (.goto 83, 3) := by decide +kernel
theorem dX12_findSolved_176 : decode cX12_findSolved 176 = .ok (.iconst 0, 1) := by decide +kernel
theorem dX12_findSolved_177 : decode cX12_findSolved 177 = .ok (.istore 5, 2) := by decide +kernel
theorem dX12_findSolved_179 : decode cX12_findSolved 179 = .ok (.iload 5, 2) := by decide +kernel
theorem dX12_findSolved_181 : decode cX12_findSolved 181 = .ok (.bipush 20, 2) := by decide +kernel
theorem dX12_findSolved_183 : decode cX12_findSolved 183 = .ok (.if_icmp .ge 47, 3) := by decide +kernel
theorem dX12_findSolved_186 : decode cX12_findSolved 186 = .ok (.aload_n 0, 1) := by decide +kernel
theorem dX12_findSolved_187 : decode cX12_findSolved 187 = .ok (.getfield 106, 3) := by decide +kernel
theorem dX12_findSolved_190 : decode cX12_findSolved 190 = .ok (.iload 5, 2) := by decide +kernel
theorem dX12_findSolved_192 : decode cX12_findSolved 192 = .ok (.iaload, 1) := by decide +kernel
theorem dX12_findSolved_193 : decode cX12_findSolved 193 = .ok (.iload 4, 2) := by decide +kernel
theorem dX12_findSolved_195 : decode cX12_findSolved 195 = .ok (.ishr, 1) := by decide +kernel
theorem dX12_findSolved_196 : decode cX12_findSolved 196 = .ok (.iconst 1, 1) := by decide +kernel
theorem dX12_findSolved_197 : decode cX12_findSolved 197 = .ok (.iand, 1) := by decide +kernel
theorem dX12_findSolved_198 : decode cX12_findSolved 198 = .ok (.iconst 1, 1) := by decide +kernel
theorem dX12_findSolved_199 : decode cX12_findSolved 199 = .ok (.if_icmp .ne 25, 3) := by decide +kernel
theorem dX12_findSolved_202 : decode cX12_findSolved 202 = .ok (.aload_n 0, 1) := by decide +kernel
theorem dX12_findSolved_203 : decode cX12_findSolved 203 = .ok (.getfield 106, 3) := by decide +kernel
theorem dX12_findSolved_206 : decode cX12_findSolved 206 = .ok (.iload 5, 2) := by decide +kernel
theorem dX12_findSolved_208 : decode cX12_findSolved 208 = .ok (.dup2, 1) := by decide +kernel
theorem dX12_findSolved_209 : decode cX12_findSolved 209 = .ok (.iaload, 1) := by decide +kernel
theorem dX12_findSolved_210 : decode cX12_findSolved 210 = .ok (.iload_n 2, 1) := by decide +kernel
theorem dX12_findSolved_211 : decode cX12_findSolved 211 = .ok (.ixor, 1) := by decide +kernel
theorem dX12_findSolved_212 : decode cX12_findSolved 212 = .ok (.iastore, 1) := by decide +kernel
theorem dX12_findSolved_213 : decode cX12_findSolved 213 = .ok (.aload_n 0, 1) := by decide +kernel
theorem dX12_findSolved_214 : decode cX12_findSolved 214 = .ok (.getfield 109, 3) := by decide +kernel
theorem dX12_findSolved_217 : decode cX12_findSolved 217 = .ok (.iload 5, 2) := by decide +kernel
theorem dX12_findSolved_219 : decode cX12_findSolved 219 = .ok (.dup2, 1) := by decide +kernel
theorem dX12_findSolved_220 : decode cX12_findSolved 220 = .ok (.iaload, 1) := by decide +kernel
theorem dX12_findSolved_221 : decode cX12_findSolved 221 = .ok (.iload_n 3, 1) := by decide +kernel
theorem dX12_findSolved_222 : decode cX12_findSolved 222 = .ok (.ixor, 1) := by decide +kernel
theorem dX12_findSolved_223 : decode cX12_findSolved 223 = .ok (.iastore, 1) := by decide +kernel
theorem dX12_findSolved_224 : decode cX12_findSolved 224 = .ok (.iinc 5 1, 3) := by decide +kernel
theorem dX12_findSolved_227 : decode cX12_findSolved 227 = .ok (.goto (-48), 3) := by decide +kernel
theorem dX12_findSolved_230 : decode cX12_findSolved 230 = .ok (.aload_n 0, 1) := by decide +kernel
theorem dX12_findSolved_231 : decode cX12_findSolved 231 = .ok (.getfield 106, 3) := by decide +kernel
theorem dX12_findSolved_234 : decode cX12_findSolved 234 = .ok (.iload 4, 2) := by decide +kernel
theorem dX12_findSolved_236 : decode cX12_findSolved 236 = .ok (.iload_n 2, 1) := by decide +kernel
theorem dX12_findSolved_237 : decode cX12_findSolved 237 = .ok (.iastore, 1) := by decide +kernel
theorem dX12_findSolved_238 : decode cX12_findSolved 238 = .ok (.aload_n 0, 1) := by decide +kernel
theorem dX12_findSolved_239 : decode cX12_findSolved 239 = .ok (.getfield 109, 3) := by decide +kernel
theorem dX12_findSolved_242 : decode cX12_findSolved 242 = .ok (.iload 4, 2) := by decide +kernel
theorem dX12_findSolved_244 : decode cX12_findSolved 244 = .ok (.iload_n 3, 1) := by decide +kernel
theorem dX12_findSolved_245 : decode cX12_findSolved 245 = .ok (.iastore, 1) := by decide +kernel
theorem dX12_findSolved_246 : decode cX12_findSolved 246 = .ok (.aload_n 0, 1) := by decide +kernel
theorem dX12_findSolved_247 : decode cX12_findSolved 247 = .ok (.dup, 1) := by decide +kernel
theorem dX12_findSolved_248 : decode cX12_findSolved 248 = .ok (.getfield 324, 3) := by decide +kernel
theorem dX12_findSolved_251 : decode cX12_findSolved 251 = .ok (.iconst 1, 1) := by decide +kernel
theorem dX12_findSolved_252 : decode cX12_findSolved 252 = .ok (.iadd, 1) := by decide +kernel
theorem dX12_findSolved_253 : decode cX12_findSolved 253 = .ok (.putfield 324, 3) := by decide +kernel
theorem dX12_findSolved_256 : decode cX12_findSolved 256 = .ok (.iinc 1 1, 3) := by decide +kernel
theorem dX12_findSolved_259 : decode cX12_findSolved 259 = .ok (.goto (-226), 3) := by decide +kernel
theorem dX12_findSolved_262 : decode cX12_findSolved 262 = .ok (.return_, 1) := by decide +kernel
set_option maxHeartbeats 4000000 in
set_option maxRecDepth 100000 in
theorem s_X12_findSolved {P : PP} {a0 : Nat} (I : IM P a0) (hW : MW P a0) : CtrV yX12_findSolved cX12_findSolved 6 none ({ frames := 1, cells := 0, slots := 0, locals := 64 } : Room) 0 0 P [.ref a0] (fun P2 => IM P2 a0 ∧ EM [35, 36, 37, 38] a0 P P2 ∧ MW P2 a0) := by
  refine enV (lv := [(0, .ref a0)]) (by decide) (Nat.le_of_ble_eq_true rfl) rfl (fun E D cy C Ci0 ret => ?_)
  have ha0 := I.2.1
  have J33 : ∀ (n33 : Nat) (P33 : PP) (v33_1 : Int32), (64 - v33_1.toInt).toNat < n33 → (IM P33 a0) → (EM [35, 36, 37, 38] a0 P P33) → (MW P33 a0) → (0 ≤ v33_1.toInt ∧ v33_1.toInt ≤ 64) → G E ({ frames := 1, cells := 0, slots := 0, locals := 64 } : Room) D cy 6 P33 0 0 33 [(0, .ref a0), (1, .int v33_1)] [] := by
    intro n33
    induction n33 with
    | zero => intro P33 v33_1 hm33 I33 X33 W33 hv33_1; omega
    | succ n33 ih33 =>
      intro P33 v33_1 hm33 I33 X33 W33 hv33_1
      have h15722 := X33.at ha0
      have J256 : ∀ (P256 : PP), (IM P256 a0) → (EM [35, 36, 37, 38] a0 P P256) → (MW P256 a0) → (0 ≤ v33_1.toInt ∧ v33_1.toInt ≤ 63) → (1 ≤ (pI P256 a0 28).toInt ∧ (pI P256 a0 28).toInt ≤ 64) → G E ({ frames := 1, cells := 0, slots := 0, locals := 64 } : Room) D cy 6 P256 0 0 256 [(0, .ref a0), (1, .int v33_1)] [] := by
        intro P256 I256 X256 W256 hv256_1 hq256_0
        have h15723 := X256.at ha0
        refine s_iinc (lv0 := [(0, .ref a0)]) (m := 1) C dX12_findSolved_256 1 rfl (by decide) rfl (by decide) (by omega) (fun z15724 h15725 => ?_)
        have h15725 : z15724.toInt = v33_1.toInt + 1 := h15725
        refine g_goto C 33 dX12_findSolved_259 (by decide) ?_
        refine g_lv (lv' := [(0, .ref a0), (1, .int z15724)]) [1, 0] rfl ?_
        exact ih33 P256 z15724 (by omega) I256 X256 W256 (by omega)
      have J179 : ∀ (n179 : Nat) (P179 : PP) (v179_2 : Int32) (v179_3 : Int32) (v179_4 : Int32) (v179_5 : Int32), (20 - v179_5.toInt).toNat < n179 → (IM P179 a0) → (EM [35, 36, 37, 38] a0 P P179) → (MW P179 a0) → (0 ≤ v33_1.toInt ∧ v33_1.toInt ≤ 63) → (0 ≤ v179_4.toInt ∧ v179_4.toInt ≤ 19) → (0 ≤ v179_5.toInt ∧ v179_5.toInt ≤ 20) → (1 ≤ (pI P179 a0 28).toInt ∧ (pI P179 a0 28).toInt ≤ 64) → G E ({ frames := 1, cells := 0, slots := 0, locals := 64 } : Room) D cy 6 P179 0 0 179 [(0, .ref a0), (1, .int v33_1), (2, .int v179_2), (3, .int v179_3), (4, .int v179_4), (5, .int v179_5)] [] := by
        intro n179
        induction n179 with
        | zero => intro P179 v179_2 v179_3 v179_4 v179_5 hm179 I179 X179 W179 hv179_1 hv179_4 hv179_5 hq179_0; omega
        | succ n179 ih179 =>
          intro P179 v179_2 v179_3 v179_4 v179_5 hm179 I179 X179 W179 hv179_1 hv179_4 hv179_5 hq179_0
          have h15726 := X179.at ha0
          have J224 : ∀ (P224 : PP), (IM P224 a0) → (EM [35, 36, 37, 38] a0 P P224) → (MW P224 a0) → (0 ≤ v33_1.toInt ∧ v33_1.toInt ≤ 63) → (0 ≤ v179_5.toInt ∧ v179_5.toInt ≤ 19) → (1 ≤ (pI P224 a0 28).toInt ∧ (pI P224 a0 28).toInt ≤ 64) → G E ({ frames := 1, cells := 0, slots := 0, locals := 64 } : Room) D cy 6 P224 0 0 224 [(0, .ref a0), (1, .int v33_1), (2, .int v179_2), (3, .int v179_3), (4, .int v179_4), (5, .int v179_5)] [] := by
            intro P224 I224 X224 W224 hv224_1 hv224_5 hq224_0
            have h15727 := X224.at ha0
            refine s_iinc (lv0 := [(0, .ref a0), (1, .int v33_1), (2, .int v179_2), (3, .int v179_3), (4, .int v179_4)]) (m := 1) C dX12_findSolved_224 5 rfl (by decide) rfl (by decide) (by omega) (fun z15728 h15729 => ?_)
            have h15729 : z15728.toInt = v179_5.toInt + 1 := h15729
            refine g_goto C 179 dX12_findSolved_227 (by decide) ?_
            refine g_lv (lv' := [(0, .ref a0), (1, .int v33_1), (2, .int v179_2), (3, .int v179_3), (4, .int v179_4), (5, .int z15728)]) [1, 2, 3, 4, 5, 0] rfl ?_
            exact ih179 P224 v179_2 v179_3 v179_4 z15728 (by omega) I224 X224 W224 (by omega) (by omega) (by omega) (by omega)
          refine g_iload C dX12_findSolved_179 5 rfl ?_
          refine g_bipush (v := 20) C dX12_findSolved_181 (by decide) ?_
          refine b_icmp_ge C 230 dX12_findSolved_183 (by decide) (fun h15730 => ?_) (fun h15730 => ?_)
          · have h15730 : 20 ≤ v179_5.toInt := h15730
            refine g_aload_n C dX12_findSolved_230 rfl 0 rfl ?_
            obtain ⟨b15731, e15732, h15733⟩ := I179.fld (h15726) 37 13 20 rfl
            refine g_getR C fi_X12_106 rfl e15732 (h15726).1 (h15726).2 dX12_findSolved_231 ?_
            refine g_iload C dX12_findSolved_234 4 rfl ?_
            refine g_iload_n C dX12_findSolved_236 rfl 2 rfl ?_
            refine g_iast (j := (v179_4.toInt.toNat)) C h15733.1 h15733.2.1 (ix_in h15733.2.2 (by omega)) dX12_findSolved_237 ?_
            refine gqW (ks := [37]) (I179.setA e15732 h15733 (by decide) (arOk.none rfl)) (EM.setA I179 e15732 rfl (by decide)) (fun Y15734 Iy15735 Xy15736 w15737  => ?_)
            have w15737 : (pI Y15734 b15731 (v179_4.toInt.toNat)).toInt = v179_2.toInt := w15737
            have q15738 := Xy15736.keepF 28 (by decide)
            have W15739 := W179.keep I179 Xy15736 (by decide) (by decide) (by decide) (by decide)
            have Xz15740 : EM [35, 36, 37, 38] a0 P Y15734 := EM.tr ha0 X179 (Xy15736.mono (by decide))
            have e15741 := Xy15736.ref h15726 (by decide) e15732
            have h15742 := Xy15736.at h15726
            have h15743 := Xy15736.ar h15733
            refine g_aload_n C dX12_findSolved_238 rfl 0 rfl ?_
            obtain ⟨b15744, e15745, h15746⟩ := Iy15735.fld (h15742) 38 13 20 rfl
            refine g_getR C fi_X12_109 rfl e15745 (h15742).1 (h15742).2 dX12_findSolved_239 ?_
            refine g_iload C dX12_findSolved_242 4 rfl ?_
            refine g_iload_n C dX12_findSolved_244 rfl 3 rfl ?_
            refine g_iast (j := (v179_4.toInt.toNat)) C h15746.1 h15746.2.1 (ix_in h15746.2.2 (by omega)) dX12_findSolved_245 ?_
            refine gqW (ks := [38]) (Iy15735.setA e15745 h15746 (by decide) (arOk.none rfl)) (EM.setA Iy15735 e15745 rfl (by decide)) (fun Y15747 Iy15748 Xy15749 w15750  => ?_)
            have w15750 : (pI Y15747 b15744 (v179_4.toInt.toNat)).toInt = v179_3.toInt := w15750
            have q15751 := Xy15749.keepF 28 (by decide)
            have q15752 := Xy15749.keepA e15741 (by decide) rfl (v179_4.toInt.toNat)
            have W15753 := W15739.keep Iy15735 Xy15749 (by decide) (by decide) (by decide) (by decide)
            have Xz15754 : EM [35, 36, 37, 38] a0 P Y15747 := EM.tr ha0 Xz15740 (Xy15749.mono (by decide))
            have e15755 := Xy15749.ref h15742 (by decide) e15741
            have e15756 := Xy15749.ref h15742 (by decide) e15745
            have h15757 := Xy15749.at h15742
            have h15758 := Xy15749.ar h15743
            have h15759 := Xy15749.ar h15746
            refine g_aload_n C dX12_findSolved_246 rfl 0 rfl ?_
            refine g_dup C dX12_findSolved_247 rfl ?_
            refine g_getI C fi_X12_324 (by decide) (h15757).1 (h15757).2 dX12_findSolved_248 ?_
            refine g_iconst (v := 1) C dX12_findSolved_251 (by decide) ?_
            refine a_iadd C dX12_findSolved_252 (fun z15760 => ?_)
            refine g_putI C fi_X12_324 rfl (h15757).1 (h15757).2 dX12_findSolved_253 ?_
            refine gqW (ks := [35]) (Iy15748.setI (rgOk.none rfl)) (EM.setI Iy15748 (by decide)) (fun Y15762 Iy15763 Xy15764 w15765  => ?_)
            have w15765 : (pI Y15762 a0 35).toInt = z15760.toInt := w15765
            have q15766 := Xy15764.keepF 28 (by decide)
            have q15767 := Xy15764.keepA e15755 (by decide) rfl (v179_4.toInt.toNat)
            have q15768 := Xy15764.keepA e15756 (by decide) rfl (v179_4.toInt.toNat)
            have W15769 := W15753.keep Iy15748 Xy15764 (by decide) (by decide) (by decide) (by decide)
            have Xz15770 : EM [35, 36, 37, 38] a0 P Y15762 := EM.tr ha0 Xz15754 (Xy15764.mono (by decide))
            have e15771 := Xy15764.ref h15757 (by decide) e15755
            have e15772 := Xy15764.ref h15757 (by decide) e15756
            have h15773 := Xy15764.at h15757
            have h15774 := Xy15764.ar h15758
            have h15775 := Xy15764.ar h15759
            refine g_lv (lv' := [(0, .ref a0), (1, .int v33_1)]) [0, 1] rfl ?_
            exact J256 Y15762 Iy15763 Xz15770 W15769 (by omega) (by omega)
          · have h15730 : v179_5.toInt < 20 := h15730
            refine g_aload_n C dX12_findSolved_186 rfl 0 rfl ?_
            obtain ⟨b15776, e15777, h15778⟩ := I179.fld (h15726) 37 13 20 rfl
            refine g_getR C fi_X12_106 rfl e15777 (h15726).1 (h15726).2 dX12_findSolved_187 ?_
            refine g_iload C dX12_findSolved_190 5 rfl ?_
            refine g_iald (j := (v179_5.toInt.toNat)) C h15778.1 h15778.2.1 (ix_in h15778.2.2 (by omega)) dX12_findSolved_192 ?_
            refine g_iload C dX12_findSolved_193 4 rfl ?_
            refine a_ishr C dX12_findSolved_195 (fun z15779 => ?_)
            refine g_iconst (v := 1) C dX12_findSolved_196 (by decide) ?_
            refine s_iand C dX12_findSolved_197 (by show 0 ≤ 1; omega) (fun z15781 h15782 => ?_)
            have h15782 : 0 ≤ z15781.toInt ∧ z15781.toInt ≤ 1 := h15782
            refine g_iconst (v := 1) C dX12_findSolved_198 (by decide) ?_
            refine b_icmp_ne C 224 dX12_findSolved_199 (by decide) (fun h15783 => ?_) (fun h15783 => ?_)
            · have h15783 : z15781.toInt ≠ 1 := ti_ne h15783
              exact J224 P179 I179 X179 W179 (by omega) (by omega) (by omega)
            · have h15783 : z15781.toInt = 1 := congrArg Int32.toInt h15783
              refine g_aload_n C dX12_findSolved_202 rfl 0 rfl ?_
              refine g_getR C fi_X12_106 rfl e15777 (h15726).1 (h15726).2 dX12_findSolved_203 ?_
              refine g_iload C dX12_findSolved_206 5 rfl ?_
              refine g_dup2_11 C dX12_findSolved_208 rfl rfl ?_
              refine g_iald (j := (v179_5.toInt.toNat)) C h15778.1 h15778.2.1 (ix_in h15778.2.2 (by omega)) dX12_findSolved_209 ?_
              refine g_iload_n C dX12_findSolved_210 rfl 2 rfl ?_
              refine a_ixor C dX12_findSolved_211 (fun z15784 => ?_)
              refine g_iast (j := (v179_5.toInt.toNat)) C h15778.1 h15778.2.1 (ix_in h15778.2.2 (by omega)) dX12_findSolved_212 ?_
              refine gqW (ks := [37]) (I179.setA e15777 h15778 (by decide) (arOk.none rfl)) (EM.setA I179 e15777 rfl (by decide)) (fun Y15786 Iy15787 Xy15788 w15789  => ?_)
              have w15789 : (pI Y15786 b15776 (v179_5.toInt.toNat)).toInt = z15784.toInt := w15789
              have q15790 := Xy15788.keepF 28 (by decide)
              have W15791 := W179.keep I179 Xy15788 (by decide) (by decide) (by decide) (by decide)
              have Xz15792 : EM [35, 36, 37, 38] a0 P Y15786 := EM.tr ha0 X179 (Xy15788.mono (by decide))
              have e15793 := Xy15788.ref h15726 (by decide) e15777
              have h15794 := Xy15788.at h15726
              have h15795 := Xy15788.ar h15778
              refine g_aload_n C dX12_findSolved_213 rfl 0 rfl ?_
              obtain ⟨b15796, e15797, h15798⟩ := Iy15787.fld (h15794) 38 13 20 rfl
              refine g_getR C fi_X12_109 rfl e15797 (h15794).1 (h15794).2 dX12_findSolved_214 ?_
              refine g_iload C dX12_findSolved_217 5 rfl ?_
              refine g_dup2_11 C dX12_findSolved_219 rfl rfl ?_
              refine g_iald (j := (v179_5.toInt.toNat)) C h15798.1 h15798.2.1 (ix_in h15798.2.2 (by omega)) dX12_findSolved_220 ?_
              refine g_iload_n C dX12_findSolved_221 rfl 3 rfl ?_
              refine a_ixor C dX12_findSolved_222 (fun z15799 => ?_)
              refine g_iast (j := (v179_5.toInt.toNat)) C h15798.1 h15798.2.1 (ix_in h15798.2.2 (by omega)) dX12_findSolved_223 ?_
              refine gqW (ks := [38]) (Iy15787.setA e15797 h15798 (by decide) (arOk.none rfl)) (EM.setA Iy15787 e15797 rfl (by decide)) (fun Y15801 Iy15802 Xy15803 w15804  => ?_)
              have w15804 : (pI Y15801 b15796 (v179_5.toInt.toNat)).toInt = z15799.toInt := w15804
              have q15805 := Xy15803.keepF 28 (by decide)
              have q15806 := Xy15803.keepA e15793 (by decide) rfl (v179_5.toInt.toNat)
              have W15807 := W15791.keep Iy15787 Xy15803 (by decide) (by decide) (by decide) (by decide)
              have Xz15808 : EM [35, 36, 37, 38] a0 P Y15801 := EM.tr ha0 Xz15792 (Xy15803.mono (by decide))
              have e15809 := Xy15803.ref h15794 (by decide) e15793
              have e15810 := Xy15803.ref h15794 (by decide) e15797
              have h15811 := Xy15803.at h15794
              have h15812 := Xy15803.ar h15795
              have h15813 := Xy15803.ar h15798
              exact J224 Y15801 Iy15802 Xz15808 W15807 (by omega) (by omega) (by omega)
      have J170 : ∀ (v170_s0 : Int32), (0 ≤ v33_1.toInt ∧ v33_1.toInt ≤ 63) → (0 ≤ v170_s0.toInt ∧ v170_s0.toInt ≤ 1) → (1 ≤ (pI P33 a0 28).toInt ∧ (pI P33 a0 28).toInt ≤ 64) → G E ({ frames := 1, cells := 0, slots := 0, locals := 64 } : Room) D cy 6 P33 0 0 170 [(0, .ref a0), (1, .int v33_1)] [.int v170_s0, .ref a0] := by
        intro v170_s0 hv170_1 hv170_s0 hq170_0
        have h15814 := X33.at ha0
        refine g_putZ C fi_X12_326 rfl (b01 (by omega)) (h15814).1 (h15814).2 dX12_findSolved_170 ?_
        refine gqW (ks := [36]) (I33.setI (rgOk.of rfl (by omega))) (EM.setI I33 (by decide)) (fun Y15815 Iy15816 Xy15817 w15818  => ?_)
        have w15818 : (pI Y15815 a0 36).toInt = v170_s0.toInt := w15818
        have q15819 := Xy15817.keepF 28 (by decide)
        have W15820 := W33.keep I33 Xy15817 (by decide) (by decide) (by decide) (by decide)
        have Xz15821 : EM [35, 36, 37, 38] a0 P Y15815 := EM.tr ha0 X33 (Xy15817.mono (by decide))
        have h15822 := Xy15817.at h15814
        refine g_goto C 256 dX12_findSolved_173 (by decide) ?_
        exact J256 Y15815 Iy15816 Xz15821 W15820 (by omega) (by omega)
      have J169 : (0 ≤ v33_1.toInt ∧ v33_1.toInt ≤ 63) → (1 ≤ (pI P33 a0 28).toInt ∧ (pI P33 a0 28).toInt ≤ 64) → (0 ≤ (pI P33 a0 36).toInt ∧ (pI P33 a0 36).toInt ≤ 1) → G E ({ frames := 1, cells := 0, slots := 0, locals := 64 } : Room) D cy 6 P33 0 0 169 [(0, .ref a0), (1, .int v33_1)] [.ref a0] := by
        intro hv169_1 hq169_0 hq169_1
        have h15823 := X33.at ha0
        refine g_iconst (v := 0) C dX12_findSolved_169 (by decide) ?_
        exact J170 0 (by omega) (by decide) (by omega)
      have J118 : ∀ (n118 : Nat) (v118_2 : Int32) (v118_3 : Int32) (v118_4 : Int32) (v118_5 : Int32), (v118_5.toInt - (-1)).toNat < n118 → (0 ≤ v33_1.toInt ∧ v33_1.toInt ≤ 63) → (-1 ≤ v118_4.toInt ∧ v118_4.toInt ≤ 19) → (-1 ≤ v118_5.toInt ∧ v118_5.toInt ≤ 19) → (1 ≤ (pI P33 a0 28).toInt ∧ (pI P33 a0 28).toInt ≤ 64) → G E ({ frames := 1, cells := 0, slots := 0, locals := 64 } : Room) D cy 6 P33 0 0 118 [(0, .ref a0), (1, .int v33_1), (2, .int v118_2), (3, .int v118_3), (4, .int v118_4), (5, .int v118_5)] [] := by
        intro n118
        induction n118 with
        | zero => intro v118_2 v118_3 v118_4 v118_5 hm118 hv118_1 hv118_4 hv118_5 hq118_0; omega
        | succ n118 ih118 =>
          intro v118_2 v118_3 v118_4 v118_5 hm118 hv118_1 hv118_4 hv118_5 hq118_0
          have h15824 := X33.at ha0
          have J140 : ∀ (v140_s0 : Int32), (0 ≤ v33_1.toInt ∧ v33_1.toInt ≤ 63) → (0 ≤ v118_5.toInt ∧ v118_5.toInt ≤ 19) → (-1 ≤ v140_s0.toInt ∧ v140_s0.toInt ≤ 19) → (1 ≤ (pI P33 a0 28).toInt ∧ (pI P33 a0 28).toInt ≤ 64) → G E ({ frames := 1, cells := 0, slots := 0, locals := 64 } : Room) D cy 6 P33 0 0 140 [(0, .ref a0), (1, .int v33_1), (2, .int v118_2), (3, .int v118_3), (5, .int v118_5)] [.int v140_s0] := by
            intro v140_s0 hv140_1 hv140_5 hv140_s0 hq140_0
            have h15825 := X33.at ha0
            refine g_istore (lv' := [(4, .int v140_s0), (0, .ref a0), (1, .int v33_1), (2, .int v118_2), (3, .int v118_3), (5, .int v118_5)]) C dX12_findSolved_140 (by decide) rfl ?_
            refine s_iinc (lv0 := [(4, .int v140_s0), (0, .ref a0), (1, .int v33_1), (2, .int v118_2), (3, .int v118_3)]) (m := -1) C dX12_findSolved_142 5 rfl (by decide) rfl (by decide) (by omega) (fun z15826 h15827 => ?_)
            have h15827 : z15826.toInt = v118_5.toInt + (-1) := h15827
            refine g_goto C 118 dX12_findSolved_145 (by decide) ?_
            refine g_lv (lv' := [(0, .ref a0), (1, .int v33_1), (2, .int v118_2), (3, .int v118_3), (4, .int v140_s0), (5, .int z15826)]) [2, 3, 4, 5, 1, 0] rfl ?_
            exact ih118 v118_2 v118_3 v140_s0 z15826 (by omega) (by omega) (by omega) (by omega) (by omega)
          refine g_iload C dX12_findSolved_118 5 rfl ?_
          refine b_if_lt C 148 dX12_findSolved_120 (by decide) (fun h15828 => ?_) (fun h15828 => ?_)
          · have h15828 : v118_5.toInt < 0 := h15828
            refine g_iload C dX12_findSolved_148 4 rfl ?_
            refine b_if_ge C 176 dX12_findSolved_150 (by decide) (fun h15829 => ?_) (fun h15829 => ?_)
            · have h15829 : 0 ≤ v118_4.toInt := h15829
              refine g_iconst (v := 0) C dX12_findSolved_176 (by decide) ?_
              refine g_istore (lv' := [(5, .int 0), (0, .ref a0), (1, .int v33_1), (2, .int v118_2), (3, .int v118_3), (4, .int v118_4)]) C dX12_findSolved_177 (by decide) rfl ?_
              refine g_lv (lv' := [(0, .ref a0), (1, .int v33_1), (2, .int v118_2), (3, .int v118_3), (4, .int v118_4), (5, .int 0)]) [1, 2, 3, 4, 5, 0] rfl ?_
              exact J179 _ P33 v118_2 v118_3 v118_4 0 (Nat.lt_succ_self _) I33 X33 W33 (by omega) (by omega) (by decide) (by omega)
            · have h15829 : v118_4.toInt < 0 := h15829
              refine g_aload_n C dX12_findSolved_153 rfl 0 rfl ?_
              refine g_aload_n C dX12_findSolved_154 rfl 0 rfl ?_
              refine g_getI C fi_X12_326 (by decide) (h15824).1 (h15824).2 dX12_findSolved_155 ?_
              have h15830 := I33.rg (h15824) 36 rfl
              refine b_if_eq C 169 dX12_findSolved_158 (by decide) (fun h15831 => ?_) (fun h15831 => ?_)
              · have h15831 : (pI P33 a0 36).toInt = 0 := congrArg Int32.toInt h15831
                refine g_lv (lv' := [(0, .ref a0), (1, .int v33_1)]) [0, 1] rfl ?_
                exact J169 (by omega) (by omega) (by omega)
              · have h15831 : (pI P33 a0 36).toInt ≠ 0 := ti_ne h15831
                refine g_iload_n C dX12_findSolved_161 rfl 3 rfl ?_
                have u15833 := ti_rng v118_3
                refine b_if_ne C 169 dX12_findSolved_162 (by decide) (fun h15832 => ?_) (fun h15832 => ?_)
                · have h15832 : v118_3.toInt ≠ 0 := ti_ne h15832
                  refine g_lv (lv' := [(0, .ref a0), (1, .int v33_1)]) [0, 1] rfl ?_
                  exact J169 (by omega) (by omega) (by omega)
                · have h15832 : v118_3.toInt = 0 := congrArg Int32.toInt h15832
                  refine g_iconst (v := 1) C dX12_findSolved_165 (by decide) ?_
                  refine g_goto C 170 dX12_findSolved_166 (by decide) ?_
                  refine g_lv (lv' := [(0, .ref a0), (1, .int v33_1)]) [0, 1] rfl ?_
                  exact J170 1 (by omega) (by decide) (by omega)
          · have h15828 : 0 ≤ v118_5.toInt := h15828
            refine g_iload_n C dX12_findSolved_123 rfl 2 rfl ?_
            refine g_iload C dX12_findSolved_124 5 rfl ?_
            refine a_ishr C dX12_findSolved_126 (fun z15834 => ?_)
            refine g_iconst (v := 1) C dX12_findSolved_127 (by decide) ?_
            refine s_iand C dX12_findSolved_128 (by show 0 ≤ 1; omega) (fun z15836 h15837 => ?_)
            have h15837 : 0 ≤ z15836.toInt ∧ z15836.toInt ≤ 1 := h15837
            refine g_iconst (v := 1) C dX12_findSolved_129 (by decide) ?_
            refine b_icmp_ne C 138 dX12_findSolved_130 (by decide) (fun h15838 => ?_) (fun h15838 => ?_)
            · have h15838 : z15836.toInt ≠ 1 := ti_ne h15838
              refine g_iload C dX12_findSolved_138 4 rfl ?_
              refine g_lv (lv' := [(0, .ref a0), (1, .int v33_1), (2, .int v118_2), (3, .int v118_3), (5, .int v118_5)]) [0, 1, 2, 3, 5] rfl ?_
              exact J140 v118_4 (by omega) (by omega) (by omega) (by omega)
            · have h15838 : z15836.toInt = 1 := congrArg Int32.toInt h15838
              refine g_iload C dX12_findSolved_133 5 rfl ?_
              refine g_goto C 140 dX12_findSolved_135 (by decide) ?_
              refine g_lv (lv' := [(0, .ref a0), (1, .int v33_1), (2, .int v118_2), (3, .int v118_3), (5, .int v118_5)]) [0, 1, 2, 3, 5] rfl ?_
              exact J140 v118_5 (by omega) (by omega) (by omega) (by omega)
      have J58 : ∀ (n58 : Nat) (v58_2 : Int32) (v58_3 : Int32) (v58_4 : Int32), (20 - v58_4.toInt).toNat < n58 → (0 ≤ v33_1.toInt ∧ v33_1.toInt ≤ 63) → (0 ≤ v58_4.toInt ∧ v58_4.toInt ≤ 20) → (1 ≤ (pI P33 a0 28).toInt ∧ (pI P33 a0 28).toInt ≤ 64) → G E ({ frames := 1, cells := 0, slots := 0, locals := 64 } : Room) D cy 6 P33 0 0 58 [(0, .ref a0), (1, .int v33_1), (2, .int v58_2), (3, .int v58_3), (4, .int v58_4)] [] := by
        intro n58
        induction n58 with
        | zero => intro v58_2 v58_3 v58_4 hm58 hv58_1 hv58_4 hq58_0; omega
        | succ n58 ih58 =>
          intro v58_2 v58_3 v58_4 hm58 hv58_1 hv58_4 hq58_0
          have h15839 := X33.at ha0
          have J105 : ∀ (v105_2 : Int32) (v105_3 : Int32), (0 ≤ v33_1.toInt ∧ v33_1.toInt ≤ 63) → (0 ≤ v58_4.toInt ∧ v58_4.toInt ≤ 19) → (1 ≤ (pI P33 a0 28).toInt ∧ (pI P33 a0 28).toInt ≤ 64) → G E ({ frames := 1, cells := 0, slots := 0, locals := 64 } : Room) D cy 6 P33 0 0 105 [(0, .ref a0), (1, .int v33_1), (2, .int v105_2), (3, .int v105_3), (4, .int v58_4)] [] := by
            intro v105_2 v105_3 hv105_1 hv105_4 hq105_0
            have h15840 := X33.at ha0
            refine s_iinc (lv0 := [(0, .ref a0), (1, .int v33_1), (2, .int v105_2), (3, .int v105_3)]) (m := 1) C dX12_findSolved_105 4 rfl (by decide) rfl (by decide) (by omega) (fun z15841 h15842 => ?_)
            have h15842 : z15841.toInt = v58_4.toInt + 1 := h15842
            refine g_goto C 58 dX12_findSolved_108 (by decide) ?_
            refine g_lv (lv' := [(0, .ref a0), (1, .int v33_1), (2, .int v105_2), (3, .int v105_3), (4, .int z15841)]) [1, 2, 3, 4, 0] rfl ?_
            exact ih58 v105_2 v105_3 z15841 (by omega) (by omega) (by omega) (by omega)
          refine g_iload C dX12_findSolved_58 4 rfl ?_
          refine g_bipush (v := 20) C dX12_findSolved_60 (by decide) ?_
          refine b_icmp_ge C 111 dX12_findSolved_62 (by decide) (fun h15843 => ?_) (fun h15843 => ?_)
          · have h15843 : 20 ≤ v58_4.toInt := h15843
            refine g_iconst (v := (-1)) C dX12_findSolved_111 (by decide) ?_
            refine g_istore (lv' := [(4, .int (-1)), (0, .ref a0), (1, .int v33_1), (2, .int v58_2), (3, .int v58_3)]) C dX12_findSolved_112 (by decide) rfl ?_
            refine g_bipush (v := 19) C dX12_findSolved_114 (by decide) ?_
            refine g_istore (lv' := [(5, .int 19), (4, .int (-1)), (0, .ref a0), (1, .int v33_1), (2, .int v58_2), (3, .int v58_3)]) C dX12_findSolved_116 (by decide) rfl ?_
            refine g_lv (lv' := [(0, .ref a0), (1, .int v33_1), (2, .int v58_2), (3, .int v58_3), (4, .int (-1)), (5, .int 19)]) [2, 3, 4, 5, 1, 0] rfl ?_
            exact J118 _ v58_2 v58_3 (-1) 19 (Nat.lt_succ_self _) (by omega) (by decide) (by decide) (by omega)
          · have h15843 : v58_4.toInt < 20 := h15843
            refine g_iload_n C dX12_findSolved_65 rfl 2 rfl ?_
            refine g_iload C dX12_findSolved_66 4 rfl ?_
            refine a_ishr C dX12_findSolved_68 (fun z15844 => ?_)
            refine g_iconst (v := 1) C dX12_findSolved_69 (by decide) ?_
            refine s_iand C dX12_findSolved_70 (by show 0 ≤ 1; omega) (fun z15846 h15847 => ?_)
            have h15847 : 0 ≤ z15846.toInt ∧ z15846.toInt ≤ 1 := h15847
            refine g_iconst (v := 1) C dX12_findSolved_71 (by decide) ?_
            refine b_icmp_ne C 105 dX12_findSolved_72 (by decide) (fun h15848 => ?_) (fun h15848 => ?_)
            · have h15848 : z15846.toInt ≠ 1 := ti_ne h15848
              exact J105 v58_2 v58_3 (by omega) (by omega) (by omega)
            · have h15848 : z15846.toInt = 1 := congrArg Int32.toInt h15848
              refine g_aload_n C dX12_findSolved_75 rfl 0 rfl ?_
              obtain ⟨b15849, e15850, h15851⟩ := I33.fld (h15839) 37 13 20 rfl
              refine g_getR C fi_X12_106 rfl e15850 (h15839).1 (h15839).2 dX12_findSolved_76 ?_
              refine g_iload C dX12_findSolved_79 4 rfl ?_
              refine g_iald (j := (v58_4.toInt.toNat)) C h15851.1 h15851.2.1 (ix_in h15851.2.2 (by omega)) dX12_findSolved_81 ?_
              have u15853 := ti_rng (pI P33 b15849 (v58_4.toInt.toNat))
              refine b_if_eq C 105 dX12_findSolved_82 (by decide) (fun h15852 => ?_) (fun h15852 => ?_)
              · have h15852 : (pI P33 b15849 (v58_4.toInt.toNat)).toInt = 0 := congrArg Int32.toInt h15852
                exact J105 v58_2 v58_3 (by omega) (by omega) (by omega)
              · have h15852 : (pI P33 b15849 (v58_4.toInt.toNat)).toInt ≠ 0 := ti_ne h15852
                refine g_iload_n C dX12_findSolved_85 rfl 2 rfl ?_
                refine g_aload_n C dX12_findSolved_86 rfl 0 rfl ?_
                refine g_getR C fi_X12_106 rfl e15850 (h15839).1 (h15839).2 dX12_findSolved_87 ?_
                refine g_iload C dX12_findSolved_90 4 rfl ?_
                refine g_iald (j := (v58_4.toInt.toNat)) C h15851.1 h15851.2.1 (ix_in h15851.2.2 (by omega)) dX12_findSolved_92 ?_
                refine a_ixor C dX12_findSolved_93 (fun z15854 => ?_)
                refine g_istore_n (lv' := [(2, .int z15854), (0, .ref a0), (1, .int v33_1), (3, .int v58_3), (4, .int v58_4)]) C dX12_findSolved_94 rfl (by decide) rfl ?_
                refine g_iload_n C dX12_findSolved_95 rfl 3 rfl ?_
                refine g_aload_n C dX12_findSolved_96 rfl 1 rfl ?_
                obtain ⟨b15856, e15857, h15858⟩ := I33.fld (h15839) 38 13 20 rfl
                refine g_getR C fi_X12_109 rfl e15857 (h15839).1 (h15839).2 dX12_findSolved_97 ?_
                refine g_iload C dX12_findSolved_100 4 rfl ?_
                refine g_iald (j := (v58_4.toInt.toNat)) C h15858.1 h15858.2.1 (ix_in h15858.2.2 (by omega)) dX12_findSolved_102 ?_
                refine a_ixor C dX12_findSolved_103 (fun z15859 => ?_)
                refine g_istore_n (lv' := [(3, .int z15859), (2, .int z15854), (0, .ref a0), (1, .int v33_1), (4, .int v58_4)]) C dX12_findSolved_104 rfl (by decide) rfl ?_
                refine g_lv (lv' := [(0, .ref a0), (1, .int v33_1), (2, .int z15854), (3, .int z15859), (4, .int v58_4)]) [2, 3, 1, 0, 4] rfl ?_
                exact J105 z15854 z15859 (by omega) (by omega) (by omega)
      refine g_iload_n C dX12_findSolved_33 rfl 1 rfl ?_
      refine g_aload_n C dX12_findSolved_34 rfl 0 rfl ?_
      refine g_getI C fi_X12_305 (by decide) (h15722).1 (h15722).2 dX12_findSolved_35 ?_
      have h15861 := I33.rg (h15722) 28 rfl
      refine b_icmp_ge C 262 dX12_findSolved_38 (by decide) (fun h15862 => ?_) (fun h15862 => ?_)
      · have h15862 : (pI P33 a0 28).toInt ≤ v33_1.toInt := h15862
        exact ret _ _ _ _ _ dX12_findSolved_262 (by decide) (by decide) ⟨I33, X33, W33⟩
      · have h15862 : v33_1.toInt < (pI P33 a0 28).toInt := h15862
        refine g_aload_n C dX12_findSolved_41 rfl 0 rfl ?_
        obtain ⟨b15863, e15864, h15865⟩ := I33.fld (h15722) 29 13 64 rfl
        refine g_getR C fi_X12_91 rfl e15864 (h15722).1 (h15722).2 dX12_findSolved_42 ?_
        refine g_iload_n C dX12_findSolved_45 rfl 1 rfl ?_
        refine g_iald (j := (v33_1.toInt.toNat)) C h15865.1 h15865.2.1 (ix_in h15865.2.2 (by omega)) dX12_findSolved_46 ?_
        refine g_topi (fun z15866 h15867 => ?_)
        have h15867 : z15866.toInt = (pI P33 b15863 (v33_1.toInt.toNat)).toInt := congrArg Int32.toInt h15867
        refine g_istore_n (lv' := [(2, .int z15866), (0, .ref a0), (1, .int v33_1)]) C dX12_findSolved_47 rfl (by decide) rfl ?_
        refine g_aload_n C dX12_findSolved_48 rfl 1 rfl ?_
        obtain ⟨b15868, e15869, h15870⟩ := I33.fld (h15722) 30 13 64 rfl
        refine g_getR C fi_X12_94 rfl e15869 (h15722).1 (h15722).2 dX12_findSolved_49 ?_
        refine g_iload_n C dX12_findSolved_52 rfl 2 rfl ?_
        refine g_iald (j := (v33_1.toInt.toNat)) C h15870.1 h15870.2.1 (ix_in h15870.2.2 (by omega)) dX12_findSolved_53 ?_
        refine g_topi (fun z15871 h15872 => ?_)
        have h15872 : z15871.toInt = (pI P33 b15868 (v33_1.toInt.toNat)).toInt := congrArg Int32.toInt h15872
        refine g_istore_n (lv' := [(3, .int z15871), (2, .int z15866), (0, .ref a0), (1, .int v33_1)]) C dX12_findSolved_54 rfl (by decide) rfl ?_
        refine g_iconst (v := 0) C dX12_findSolved_55 (by decide) ?_
        refine g_istore (lv' := [(4, .int 0), (3, .int z15871), (2, .int z15866), (0, .ref a0), (1, .int v33_1)]) C dX12_findSolved_56 (by decide) rfl ?_
        refine g_lv (lv' := [(0, .ref a0), (1, .int v33_1), (2, .int z15866), (3, .int z15871), (4, .int 0)]) [3, 4, 2, 1, 0] rfl ?_
        exact J58 _ z15866 z15871 0 (Nat.lt_succ_self _) (by omega) (by decide) (by omega)
  have J12 : ∀ (n12 : Nat) (P12 : PP) (v12_1 : Int32), (20 - v12_1.toInt).toNat < n12 → (IM P12 a0) → (EM [35, 36, 37, 38] a0 P P12) → (MW P12 a0) → (0 ≤ v12_1.toInt ∧ v12_1.toInt ≤ 20) → (0 ≤ (pI P12 a0 35).toInt ∧ (pI P12 a0 35).toInt ≤ 0) → (1 ≤ (pI P12 a0 36).toInt ∧ (pI P12 a0 36).toInt ≤ 1) → G E ({ frames := 1, cells := 0, slots := 0, locals := 64 } : Room) D cy 6 P12 0 0 12 [(0, .ref a0), (1, .int v12_1)] [] := by
    intro n12
    induction n12 with
    | zero => intro P12 v12_1 hm12 I12 X12 W12 hv12_1 hq12_0 hq12_1; omega
    | succ n12 ih12 =>
      intro P12 v12_1 hm12 I12 X12 W12 hv12_1 hq12_0 hq12_1
      have h15873 := X12.at ha0
      refine g_iload_n C dX12_findSolved_12 rfl 1 rfl ?_
      refine g_bipush (v := 20) C dX12_findSolved_13 (by decide) ?_
      refine b_icmp_ge C 31 dX12_findSolved_15 (by decide) (fun h15874 => ?_) (fun h15874 => ?_)
      · have h15874 : 20 ≤ v12_1.toInt := h15874
        refine g_iconst (v := 0) C dX12_findSolved_31 (by decide) ?_
        refine g_istore_n (lv' := [(1, .int 0), (0, .ref a0)]) C dX12_findSolved_32 rfl (by decide) rfl ?_
        refine g_lv (lv' := [(0, .ref a0), (1, .int 0)]) [1, 0] rfl ?_
        exact J33 _ P12 0 (Nat.lt_succ_self _) I12 X12 W12 (by decide)
      · have h15874 : v12_1.toInt < 20 := h15874
        refine g_aload_n C dX12_findSolved_18 rfl 0 rfl ?_
        obtain ⟨b15875, e15876, h15877⟩ := I12.fld (h15873) 37 13 20 rfl
        refine g_getR C fi_X12_106 rfl e15876 (h15873).1 (h15873).2 dX12_findSolved_19 ?_
        refine g_iload_n C dX12_findSolved_22 rfl 1 rfl ?_
        refine g_iconst (v := 0) C dX12_findSolved_23 (by decide) ?_
        refine g_iast (j := (v12_1.toInt.toNat)) C h15877.1 h15877.2.1 (ix_in h15877.2.2 (by omega)) dX12_findSolved_24 ?_
        refine gqW (ks := [37]) (I12.setA e15876 h15877 (by decide) (arOk.none rfl)) (EM.setA I12 e15876 rfl (by decide)) (fun Y15878 Iy15879 Xy15880 w15881  => ?_)
        have w15881 : (pI Y15878 b15875 (v12_1.toInt.toNat)).toInt = 0 := w15881
        have q15882 := Xy15880.keepF 35 (by decide)
        have q15883 := Xy15880.keepF 36 (by decide)
        have W15884 := W12.keep I12 Xy15880 (by decide) (by decide) (by decide) (by decide)
        have Xz15885 : EM [35, 36, 37, 38] a0 P Y15878 := EM.tr ha0 X12 (Xy15880.mono (by decide))
        have e15886 := Xy15880.ref h15873 (by decide) e15876
        have h15887 := Xy15880.at h15873
        have h15888 := Xy15880.ar h15877
        refine s_iinc (lv0 := [(0, .ref a0)]) (m := 1) C dX12_findSolved_25 1 rfl (by decide) rfl (by decide) (by omega) (fun z15889 h15890 => ?_)
        have h15890 : z15889.toInt = v12_1.toInt + 1 := h15890
        refine g_goto C 12 dX12_findSolved_28 (by decide) ?_
        refine g_lv (lv' := [(0, .ref a0), (1, .int z15889)]) [1, 0] rfl ?_
        exact ih12 Y15878 z15889 (by omega) Iy15879 Xz15885 W15884 (by omega) (by omega) (by omega)
  refine g_aload_n C dX12_findSolved_0 rfl 0 rfl ?_
  refine g_iconst (v := 0) C dX12_findSolved_1 (by decide) ?_
  refine g_putI C fi_X12_324 rfl (ha0).1 (ha0).2 dX12_findSolved_2 ?_
  refine gqW (ks := [35]) (I.setI (rgOk.none rfl)) (EM.setI I (by decide)) (fun Y15891 Iy15892 Xy15893 w15894  => ?_)
  have w15894 : (pI Y15891 a0 35).toInt = 0 := w15894
  have W15895 := hW.keep I Xy15893 (by decide) (by decide) (by decide) (by decide)
  have Xz15896 : EM [35, 36, 37, 38] a0 P Y15891 := Xy15893.mono (by decide)
  have h15897 := Xy15893.at ha0
  refine g_aload_n C dX12_findSolved_5 rfl 0 rfl ?_
  refine g_iconst (v := 1) C dX12_findSolved_6 (by decide) ?_
  refine g_putZ C fi_X12_326 rfl (Or.inr rfl) (h15897).1 (h15897).2 dX12_findSolved_7 ?_
  refine gqW (ks := [36]) (Iy15892.setI (rgOk.of rfl (by decide))) (EM.setI Iy15892 (by decide)) (fun Y15898 Iy15899 Xy15900 w15901  => ?_)
  have w15901 : (pI Y15898 a0 36).toInt = 1 := w15901
  have q15902 := Xy15900.keepF 35 (by decide)
  have W15903 := W15895.keep Iy15892 Xy15900 (by decide) (by decide) (by decide) (by decide)
  have Xz15904 : EM [35, 36, 37, 38] a0 P Y15898 := EM.tr ha0 Xz15896 (Xy15900.mono (by decide))
  have h15905 := Xy15900.at h15897
  refine g_iconst (v := 0) C dX12_findSolved_10 (by decide) ?_
  refine g_istore_n (lv' := [(1, .int 0), (0, .ref a0)]) C dX12_findSolved_11 rfl (by decide) rfl ?_
  refine g_lv (lv' := [(0, .ref a0), (1, .int 0)]) [1, 0] rfl ?_
  exact J12 _ Y15898 0 (Nat.lt_succ_self _) Iy15899 Xz15904 W15903 (by decide) (by omega) (by omega)
theorem dX12_agreesBy_40 : decode cX12_agreesBy 40 = .ok (.bipush 40, 2) := by decide +kernel
theorem dX12_agreesBy_42 : decode cX12_agreesBy 42 = .ok (.iload_n 1, 1) := by decide +kernel
theorem dX12_agreesBy_43 : decode cX12_agreesBy 43 = .ok (.imul, 1) := by decide +kernel
theorem dX12_agreesBy_44 : decode cX12_agreesBy 44 = .ok (.iload 6, 2) := by decide +kernel
theorem dX12_agreesBy_46 : decode cX12_agreesBy 46 = .ok (.iadd, 1) := by decide +kernel
theorem dX12_agreesBy_47 : decode cX12_agreesBy 47 = .ok (.istore 7, 2) := by decide +kernel
theorem dX12_agreesBy_49 : decode cX12_agreesBy 49 = .ok (.aload_n 0, 1) := by decide +kernel
theorem dX12_agreesBy_50 : decode cX12_agreesBy 50 = .ok (.getfield 75, 3) := by decide +kernel
theorem dX12_agreesBy_53 : decode cX12_agreesBy 53 = .ok (.iload 7, 2) := by decide +kernel
theorem dX12_agreesBy_55 : decode cX12_agreesBy 55 = .ok (.iaload, 1) := by decide +kernel
theorem dX12_agreesBy_56 : decode cX12_agreesBy 56 = .ok (.ifCond .ge 46, 3) := by decide +kernel
theorem dX12_agreesBy_59 : decode cX12_agreesBy 59 = .ok (.iload_n 3, 1) := by decide +kernel
theorem dX12_agreesBy_60 : decode cX12_agreesBy 60 = .ok (.iload 5, 2) := by decide +kernel
theorem dX12_agreesBy_62 : decode cX12_agreesBy 62 = .ok (.ishr, 1) := by decide +kernel
theorem dX12_agreesBy_63 : decode cX12_agreesBy 63 = .ok (.iconst 1, 1) := by decide +kernel
theorem dX12_agreesBy_64 : decode cX12_agreesBy 64 = .ok (.iand, 1) := by decide +kernel
theorem dX12_agreesBy_65 : decode cX12_agreesBy 65 = .ok (.iload_n 2, 1) := by decide +kernel
theorem dX12_agreesBy_66 : decode cX12_agreesBy 66 = .ok (.if_icmp .ne 33, 3) := by decide +kernel
theorem dX12_agreesBy_69 : decode cX12_agreesBy 69 = .ok (.aload_n 0, 1) := by decide +kernel
theorem dX12_agreesBy_70 : decode cX12_agreesBy 70 = .ok (.aload_n 0, 1) := by decide +kernel
theorem dX12_agreesBy_71 : decode cX12_agreesBy 71 = .ok (.iload_n 2, 1) := by decide +kernel
theorem dX12_agreesBy_72 : decode cX12_agreesBy 72 = .ok (.aload_n 0, 1) := by decide +kernel
theorem dX12_agreesBy_73 : decode cX12_agreesBy 73 = .ok (.getfield 72, 3) := by decide +kernel
theorem dX12_agreesBy_76 : decode cX12_agreesBy 76 = .ok (.iload 7, 2) := by decide +kernel
theorem dX12_agreesBy_78 : decode cX12_agreesBy 78 = .ok (.iaload, 1) := by decide +kernel
theorem dX12_agreesBy_79 : decode cX12_agreesBy 79 = .ok (.invokevirtual 261, 3) := by decide +kernel
theorem dX12_agreesBy_82 : decode cX12_agreesBy 82 = .ok (.aload_n 0, 1) := by decide +kernel
theorem dX12_agreesBy_83 : decode cX12_agreesBy 83 = .ok (.getfield 78, 3) := by decide +kernel
theorem dX12_agreesBy_86 : decode cX12_agreesBy 86 = .ok (.iload 7, 2) := by decide +kernel
theorem dX12_agreesBy_88 : decode cX12_agreesBy 88 = .ok (.iaload, 1) := by decide +kernel
theorem dX12_agreesBy_89 : decode cX12_agreesBy 89 = .ok (.iload 4, 2) := by decide +kernel
theorem dX12_agreesBy_91 : decode cX12_agreesBy 91 = .ok (.invokestatic 315, 3) := by decide +kernel
theorem dX12_agreesBy_94 : decode cX12_agreesBy 94 = .ok (.iload 6, 2) := by decide +kernel
theorem dX12_agreesBy_96 : decode cX12_agreesBy 96 = .ok (.invokevirtual 308, 3) := by decide +kernel
theorem dX12_agreesBy_99 : decode cX12_agreesBy 99 = .ok (.iinc 5 1, 3) := by decide +kernel
theorem dX12_agreesBy_102 : decode cX12_agreesBy 102 = .ok (.iinc 6 1, 3) := by decide +kernel
theorem dX12_agreesBy_105 : decode cX12_agreesBy 105 = .ok (.goto (-76), 3) := by decide +kernel
theorem dX12_agreesBy_112 : decode cX12_agreesBy 112 = .ok (.aload_n 0, 1) := by decide +kernel
theorem dX12_agreesBy_113 : decode cX12_agreesBy 113 = .ok (.getfield 326, 3) := by decide +kernel
theorem dX12_agreesBy_116 : decode cX12_agreesBy 116 = .ok (.ifCond .ne 5, 3) := by decide +kernel
theorem dX12_agreesBy_119 : decode cX12_agreesBy 119 = .ok (.iconst 0, 1) := by decide +kernel
theorem dX12_agreesBy_120 : decode cX12_agreesBy 120 = .ok (.ireturn, 1) := by decide +kernel
theorem dX12_agreesBy_121 : decode cX12_agreesBy 121 = .ok (.iinc 4 1, 3) := by decide +kernel
theorem dX12_agreesBy_124 : decode cX12_agreesBy 124 = .ok (.goto (-121), 3) := by decide +kernel
theorem dX12_agreesBy_127 : decode cX12_agreesBy 127 = .ok (.iconst 1, 1) := by decide +kernel
theorem dX12_agreesBy_128 : decode cX12_agreesBy 128 = .ok (.ireturn, 1) := by decide +kernel
set_option maxHeartbeats 4000000 in
set_option maxRecDepth 100000 in
theorem s_X12_agreesBy {P : PP} {a0 : Nat} {a1 : Int32} {a2 : Int32} {a3 : Int32} (I : IM P a0) (ha1 : 0 ≤ a1.toInt ∧ a1.toInt ≤ 3) (ha2 : 0 ≤ a2.toInt ∧ a2.toInt ≤ 1) (hf0 : ∀ b, pR P a0 10 = some b → 1 ≤ (pI P b (a2.toInt.toNat)).toInt ∧ (pI P b (a2.toInt.toNat)).toInt ≤ 16) (hW : MW P a0) : CtrI yX12_agreesBy cX12_agreesBy 8 (some Jvm.ClassFile.FieldType.boolean) ({ frames := 5, cells := 0, slots := 0, locals := 320 } : Room) 0 0 P [.ref a0, .int a1, .int a2, .int a3] (fun r P2 => IM P2 a0 ∧ EM [28, 29, 30, 31, 35, 36, 37, 38] a0 P P2 ∧ MW P2 a0 ∧ (0 ≤ r.toInt ∧ r.toInt ≤ 1)) := by
  refine enI (lv := [(0, .ref a0), (1, .int a1), (2, .int a2), (3, .int a3)]) (by decide) (Nat.le_of_ble_eq_true rfl) rfl (fun E D cy C Ci0 ret => ?_)
  have ha0 := I.2.1
  have J3 : ∀ (n3 : Nat) (P3 : PP) (v3_4 : Int32), (2 - v3_4.toInt).toNat < n3 → (IM P3 a0) → (EM [28, 29, 30, 31, 35, 36, 37, 38] a0 P P3) → (MW P3 a0) → (0 ≤ v3_4.toInt ∧ v3_4.toInt ≤ 2) → (∀ b, pR P3 a0 10 = some b → 1 ≤ (pI P3 b (a2.toInt.toNat)).toInt ∧ (pI P3 b (a2.toInt.toNat)).toInt ≤ 16) → G E ({ frames := 5, cells := 0, slots := 0, locals := 320 } : Room) D cy 8 P3 0 0 3 [(0, .ref a0), (1, .int a1), (2, .int a2), (3, .int a3), (4, .int v3_4)] [] := by
    intro n3
    induction n3 with
    | zero => intro P3 v3_4 hm3 I3 X3 W3 hv3_4 hq3_0; omega
    | succ n3 ih3 =>
      intro P3 v3_4 hm3 I3 X3 W3 hv3_4 hq3_0
      have h21472 := X3.at ha0
      obtain ⟨b21473, e21474, h21475⟩ := I3.fld (h21472) 10 13 2 rfl
      have hq3_0 := hq3_0 b21473 e21474
      have J29 : ∀ (n29 : Nat) (P29 : PP) (v29_5 : Int32) (v29_6 : Int32), (40 - v29_6.toInt).toNat < n29 → (IM P29 a0) → (EM [28, 29, 30, 31, 35, 36, 37, 38] a0 P P29) → (MW P29 a0) → (0 ≤ v3_4.toInt ∧ v3_4.toInt ≤ 1) → (0 ≤ v29_6.toInt ∧ v29_6.toInt ≤ 40) → (∀ b, pR P29 a0 10 = some b → 1 ≤ (pI P29 b (a2.toInt.toNat)).toInt ∧ (pI P29 b (a2.toInt.toNat)).toInt ≤ 16) → (∀ b920 b922, pR P29 a0 20 = some b920 → pR P29 a0 22 = some b922 → (pI P29 a0 28).toInt ≤ 4 + kC (pI P b922) (40 * a1.toInt).toNat a2.toInt ((pI P b920 (a1.toInt.toNat)).toInt : Int).toNat + nC (pI P b922) (40 * a1.toInt).toNat (v29_6.toInt : Int).toNat) → (∀ b920, pR P29 a0 20 = some b920 → 0 ≤ v29_6.toInt ∧ v29_6.toInt ≤ (pI P b920 (a1.toInt.toNat)).toInt) → G E ({ frames := 5, cells := 0, slots := 0, locals := 320 } : Room) D cy 8 P29 0 0 29 [(0, .ref a0), (1, .int a1), (2, .int a2), (3, .int a3), (4, .int v3_4), (5, .int v29_5), (6, .int v29_6)] [] := by
        intro n29
        induction n29 with
        | zero => intro P29 v29_5 v29_6 hm29 I29 X29 W29 hv29_4 hv29_6 hq29_0 rel29_0 rel29_1; omega
        | succ n29 ih29 =>
          intro P29 v29_5 v29_6 hm29 I29 X29 W29 hv29_4 hv29_6 hq29_0 rel29_0 rel29_1
          have h21476 := X29.at ha0
          obtain ⟨b21477, e21478, h21479⟩ := I29.fld (h21476) 10 13 2 rfl
          have hq29_0 := hq29_0 b21477 e21478
          have h21480 := I29.rg h21476 28 rfl
          obtain ⟨b21481, e21482, h21483⟩ := I29.fld (h21476) 20 13 20 rfl
          obtain ⟨b21484, e21485, h21486⟩ := I29.fld (h21476) 22 13 800 rfl
          have rel29_0 := rel29_0 b21481 b21484 e21482 e21485
          have h21487 := I.arr (EM.refB X29 ha0 e21482) rfl (a1.toInt.toNat)
          have rel29_1 := rel29_1 b21481 e21482
          have h21488 := I.arr (EM.refB X29 ha0 e21482) rfl (a1.toInt.toNat)
          have J102 : ∀ (P102 : PP) (v102_5 : Int32), (IM P102 a0) → (EM [28, 29, 30, 31, 35, 36, 37, 38] a0 P P102) → (MW P102 a0) → (0 ≤ v3_4.toInt ∧ v3_4.toInt ≤ 1) → (0 ≤ v29_6.toInt ∧ v29_6.toInt ≤ 39) → (∀ b, pR P102 a0 10 = some b → 1 ≤ (pI P102 b (a2.toInt.toNat)).toInt ∧ (pI P102 b (a2.toInt.toNat)).toInt ≤ 16) → (∀ b, pR P102 a0 20 = some b → 1 ≤ (pI P102 b (a1.toInt.toNat)).toInt ∧ (pI P102 b (a1.toInt.toNat)).toInt ≤ 40) → (∀ b920 b922, pR P102 a0 20 = some b920 → pR P102 a0 22 = some b922 → (pI P102 a0 28).toInt ≤ 4 + kC (pI P b922) (40 * a1.toInt).toNat a2.toInt ((pI P b920 (a1.toInt.toNat)).toInt : Int).toNat + nC (pI P b922) (40 * a1.toInt).toNat (v29_6.toInt + 1 : Int).toNat) → (∀ b920, pR P102 a0 20 = some b920 → 0 ≤ v29_6.toInt ∧ v29_6.toInt < (pI P b920 (a1.toInt.toNat)).toInt) → G E ({ frames := 5, cells := 0, slots := 0, locals := 320 } : Room) D cy 8 P102 0 0 102 [(0, .ref a0), (1, .int a1), (2, .int a2), (3, .int a3), (4, .int v3_4), (5, .int v102_5), (6, .int v29_6)] [] := by
            intro P102 v102_5 I102 X102 W102 hv102_4 hv102_6 hq102_0 hq102_1 rel102_0 rel102_1
            have h21489 := X102.at ha0
            obtain ⟨b21490, e21491, h21492⟩ := I102.fld (h21489) 10 13 2 rfl
            have hq102_0 := hq102_0 b21490 e21491
            obtain ⟨b21493, e21494, h21495⟩ := I102.fld (h21489) 20 13 20 rfl
            have hq102_1 := hq102_1 b21493 e21494
            have h21496 := I102.rg h21489 28 rfl
            obtain ⟨b21497, e21498, h21499⟩ := I102.fld (h21489) 22 13 800 rfl
            have rel102_0 := rel102_0 b21493 b21497 e21494 e21498
            have h21500 := I.arr (EM.refB X102 ha0 e21494) rfl (a1.toInt.toNat)
            have rel102_1 := rel102_1 b21493 e21494
            have h21501 := I.arr (EM.refB X102 ha0 e21494) rfl (a1.toInt.toNat)
            have q21502 := X102.keepA (EM.refB X102 ha0 e21494) (by decide) rfl (a1.toInt.toNat)
            have h21503 := I.arr (EM.refB X102 ha0 e21494) rfl (a1.toInt.toNat)
            refine s_iinc (lv0 := [(0, .ref a0), (1, .int a1), (2, .int a2), (3, .int a3), (4, .int v3_4), (5, .int v102_5)]) (m := 1) C dX12_agreesBy_102 6 rfl (by decide) rfl (by decide) (by omega) (fun z21504 h21505 => ?_)
            have h21505 : z21504.toInt = v29_6.toInt + 1 := h21505
            have hz : nC (pI P b21497) (40 * a1.toInt).toNat (v29_6.toInt + 1).toNat = nC (pI P b21497) (40 * a1.toInt).toNat (z21504.toInt).toNat := by rw [show v29_6.toInt + 1 = z21504.toInt by omega]
            refine g_goto C 29 dX12_agreesBy_105 (by decide) ?_
            refine g_lv (lv' := [(0, .ref a0), (1, .int a1), (2, .int a2), (3, .int a3), (4, .int v3_4), (5, .int v102_5), (6, .int z21504)]) [1, 2, 3, 4, 5, 6, 0] rfl ?_
            exact ih29 P102 v102_5 z21504 (by omega) I102 X102 W102 (by omega) (by omega) (fun b9 e9 => by rw [e21491] at e9; cases e9; omega) (by intro b920 b922 e920 e922; rw [e21494] at e920; cases e920; rw [e21498] at e922; cases e922; show (pI P102 a0 28).toInt ≤ 4 + kC (pI P b21497) (40 * a1.toInt).toNat a2.toInt ((pI P b21493 (a1.toInt.toNat)).toInt : Int).toNat + nC (pI P b21497) (40 * a1.toInt).toNat (z21504.toInt : Int).toNat; omega) (by intro b920 e920; rw [e21494] at e920; cases e920; show 0 ≤ z21504.toInt ∧ z21504.toInt ≤ (pI P b21493 (a1.toInt.toNat)).toInt; omega)
          have J99 : ∀ (P99 : PP), (IM P99 a0) → (EM [28, 29, 30, 31, 35, 36, 37, 38] a0 P P99) → (MW P99 a0) → (0 ≤ v3_4.toInt ∧ v3_4.toInt ≤ 1) → (0 ≤ v29_6.toInt ∧ v29_6.toInt ≤ 39) → (∀ b, pR P99 a0 10 = some b → 1 ≤ (pI P99 b (a2.toInt.toNat)).toInt ∧ (pI P99 b (a2.toInt.toNat)).toInt ≤ 16) → (∀ b, pR P99 a0 20 = some b → 1 ≤ (pI P99 b (a1.toInt.toNat)).toInt ∧ (pI P99 b (a1.toInt.toNat)).toInt ≤ 40) → (∀ b920 b922, pR P99 a0 20 = some b920 → pR P99 a0 22 = some b922 → (pI P99 a0 28).toInt ≤ 4 + kC (pI P b922) (40 * a1.toInt).toNat a2.toInt ((pI P b920 (a1.toInt.toNat)).toInt : Int).toNat + nC (pI P b922) (40 * a1.toInt).toNat (v29_6.toInt + 1 : Int).toNat) → (∀ b920, pR P99 a0 20 = some b920 → 0 ≤ v29_6.toInt ∧ v29_6.toInt < (pI P b920 (a1.toInt.toNat)).toInt) → G E ({ frames := 5, cells := 0, slots := 0, locals := 320 } : Room) D cy 8 P99 0 0 99 [(0, .ref a0), (1, .int a1), (2, .int a2), (3, .int a3), (4, .int v3_4), (5, .int v29_5), (6, .int v29_6)] [] := by
            intro P99 I99 X99 W99 hv99_4 hv99_6 hq99_0 hq99_1 rel99_0 rel99_1
            have h21506 := X99.at ha0
            obtain ⟨b21507, e21508, h21509⟩ := I99.fld (h21506) 10 13 2 rfl
            have hq99_0 := hq99_0 b21507 e21508
            obtain ⟨b21510, e21511, h21512⟩ := I99.fld (h21506) 20 13 20 rfl
            have hq99_1 := hq99_1 b21510 e21511
            have h21513 := I99.rg h21506 28 rfl
            obtain ⟨b21514, e21515, h21516⟩ := I99.fld (h21506) 22 13 800 rfl
            have rel99_0 := rel99_0 b21510 b21514 e21511 e21515
            have h21517 := I.arr (EM.refB X99 ha0 e21511) rfl (a1.toInt.toNat)
            have rel99_1 := rel99_1 b21510 e21511
            have h21518 := I.arr (EM.refB X99 ha0 e21511) rfl (a1.toInt.toNat)
            have q21519 := X99.keepA (EM.refB X99 ha0 e21511) (by decide) rfl (a1.toInt.toNat)
            have h21520 := I.arr (EM.refB X99 ha0 e21511) rfl (a1.toInt.toNat)
            refine a_iinc (lv0 := [(0, .ref a0), (1, .int a1), (2, .int a2), (3, .int a3), (4, .int v3_4), (6, .int v29_6)]) C dX12_agreesBy_99 5 rfl (by decide) rfl (fun z21521 => ?_)
            refine g_lv (lv' := [(0, .ref a0), (1, .int a1), (2, .int a2), (3, .int a3), (4, .int v3_4), (5, .int z21521), (6, .int v29_6)]) [1, 2, 3, 4, 5, 0, 6] rfl ?_
            exact J102 P99 z21521 I99 X99 W99 (by omega) (by omega) (fun b9 e9 => by rw [e21508] at e9; cases e9; omega) (fun b9 e9 => by rw [e21511] at e9; cases e9; omega) (by intro b920 b922 e920 e922; rw [e21511] at e920; cases e920; rw [e21515] at e922; cases e922; show (pI P99 a0 28).toInt ≤ 4 + kC (pI P b21514) (40 * a1.toInt).toNat a2.toInt ((pI P b21510 (a1.toInt.toNat)).toInt : Int).toNat + nC (pI P b21514) (40 * a1.toInt).toNat (v29_6.toInt + 1 : Int).toNat; omega) (by intro b920 e920; rw [e21511] at e920; cases e920; show 0 ≤ v29_6.toInt ∧ v29_6.toInt < (pI P b21510 (a1.toInt.toNat)).toInt; omega)
          have q21523 := X29.keepA (EM.refB X29 ha0 e21482) (by decide) rfl (a1.toInt.toNat)
          have h21524 := I.arr (EM.refB X29 ha0 e21482) rfl (a1.toInt.toNat)
          refine g_iload C dX12_agreesBy_29 6 rfl ?_
          refine g_aload_n C dX12_agreesBy_31 rfl 0 rfl ?_
          refine g_getR C fi_X12_69 rfl e21482 (h21476).1 (h21476).2 dX12_agreesBy_32 ?_
          refine g_iload_n C dX12_agreesBy_35 rfl 1 rfl ?_
          refine g_iald (j := (a1.toInt.toNat)) C h21483.1 h21483.2.1 (ix_in h21483.2.2 (by omega)) dX12_agreesBy_36 ?_
          have h21525 := I29.arr e21482 rfl (a1.toInt.toNat)
          refine b_icmp_ge C 108 dX12_agreesBy_37 (by decide) (fun h21526 => ?_) (fun h21526 => ?_)
          · have h21526 : (pI P29 b21481 (a1.toInt.toNat)).toInt ≤ v29_6.toInt := h21526
            refine g_aload_n C dX12_agreesBy_108 rfl 0 rfl ?_
            refine g_callVV (rest := []) C mv_X12_346 [] (s_X12_findSolved I29 W29) (h21476).1 (h21476).2 rfl rfl (by decide) (Nat.le_of_ble_eq_true rfl) (by decide) dX12_agreesBy_109 (fun Y21528 h21529 => ?_)
            obtain ⟨Iy21530, Xy21531, W21532⟩ := h21529
            have q21533 := Xy21531.keepA e21478 (by decide) rfl (a2.toInt.toNat)
            have q21534 := Xy21531.keepF 28 (by decide)
            have q21535 := Xy21531.keepA e21482 (by decide) rfl (a1.toInt.toNat)
            have Xz21536 : EM [28, 29, 30, 31, 35, 36, 37, 38] a0 P Y21528 := EM.tr ha0 X29 (Xy21531.mono (by decide))
            have e21537 := Xy21531.ref h21476 (by decide) e21478
            have e21538 := Xy21531.ref h21476 (by decide) e21482
            have h21539 := Xy21531.at h21476
            have h21540 := Xy21531.ar h21479
            have h21541 := Xy21531.ar h21483
            refine g_aload_n C dX12_agreesBy_112 rfl 0 rfl ?_
            refine g_getI C fi_X12_326 (by decide) (h21539).1 (h21539).2 dX12_agreesBy_113 ?_
            have h21542 := Iy21530.rg (h21539) 36 rfl
            refine b_if_ne C 121 dX12_agreesBy_116 (by decide) (fun h21543 => ?_) (fun h21543 => ?_)
            · have h21543 : (pI Y21528 a0 36).toInt ≠ 0 := ti_ne h21543
              refine s_iinc (lv0 := [(0, .ref a0), (1, .int a1), (2, .int a2), (3, .int a3), (5, .int v29_5), (6, .int v29_6)]) (m := 1) C dX12_agreesBy_121 4 rfl (by decide) rfl (by decide) (by omega) (fun z21544 h21545 => ?_)
              have h21545 : z21544.toInt = v3_4.toInt + 1 := h21545
              refine g_goto C 3 dX12_agreesBy_124 (by decide) ?_
              refine g_lv (lv' := [(0, .ref a0), (1, .int a1), (2, .int a2), (3, .int a3), (4, .int z21544)]) [1, 2, 3, 4, 0] rfl ?_
              exact ih3 Y21528 z21544 (by omega) Iy21530 Xz21536 W21532 (by omega) (fun b9 e9 => by rw [e21537] at e9; cases e9; omega)
            · have h21543 : (pI Y21528 a0 36).toInt = 0 := congrArg Int32.toInt h21543
              refine g_iconst (v := 0) C dX12_agreesBy_119 (by decide) ?_
              exact ret _ _ _ _ _ _ dX12_agreesBy_120 rfl (by decide) (by decide) ⟨Iy21530, Xz21536, W21532, (by decide)⟩
          · have h21526 : v29_6.toInt < (pI P29 b21481 (a1.toInt.toNat)).toInt := h21526
            refine g_bipush (v := 40) C dX12_agreesBy_40 (by decide) ?_
            refine g_iload_n C dX12_agreesBy_42 rfl 1 rfl ?_
            refine s_imul C dX12_agreesBy_43 (by show -2147483648 ≤ 40 * a1.toInt ∧ 40 * a1.toInt ≤ 2147483647; omega) (fun z21546 h21547 => ?_)
            have h21547 : z21546.toInt = 40 * a1.toInt := h21547
            refine g_iload C dX12_agreesBy_44 6 rfl ?_
            refine s_iadd C dX12_agreesBy_46 (by show -2147483648 ≤ z21546.toInt + v29_6.toInt ∧ z21546.toInt + v29_6.toInt ≤ 2147483647; omega) (fun z21548 h21549 => ?_)
            have h21549 : z21548.toInt = z21546.toInt + v29_6.toInt := h21549
            refine g_istore (lv' := [(7, .int z21548), (0, .ref a0), (1, .int a1), (2, .int a2), (3, .int a3), (4, .int v3_4), (5, .int v29_5), (6, .int v29_6)]) C dX12_agreesBy_47 (by decide) rfl ?_
            refine g_aload_n C dX12_agreesBy_49 rfl 1 rfl ?_
            refine g_getR C fi_X12_75 rfl e21485 (h21476).1 (h21476).2 dX12_agreesBy_50 ?_
            refine g_iload C dX12_agreesBy_53 0 rfl ?_
            refine g_iald (j := (z21548.toInt.toNat)) C h21486.1 h21486.2.1 (ix_in h21486.2.2 (by omega)) dX12_agreesBy_55 ?_
            have h21550 := I29.arr e21485 rfl (z21548.toInt.toNat)
            have q21551 := X29.keepA (EM.refB X29 ha0 e21485) (by decide) rfl (z21548.toInt.toNat)
            have st := nC_step (f := pI P b21484) (o := (40 * a1.toInt).toNat) (k := (z21548.toInt.toNat)) (d := v29_6.toInt) (d2 := v29_6.toInt + 1) (by omega) (by omega) (by omega)
            have no := nO_or (pI P b21484 (z21548.toInt.toNat))
            have kn := kn_le2 (f := pI P b21484) (o := (40 * a1.toInt).toNat) (b := a2.toInt) (N := (pI P b21481 (a1.toInt.toNat)).toInt) (d := v29_6.toInt + 1) (by omega) (by omega) (by omega)
            refine b_if_ge C 102 dX12_agreesBy_56 (by decide) (fun h21552 => ?_) (fun h21552 => ?_)
            · have h21552 : 0 ≤ (pI P29 b21484 (z21548.toInt.toNat)).toInt := h21552
              refine g_lv (lv' := [(0, .ref a0), (1, .int a1), (2, .int a2), (3, .int a3), (4, .int v3_4), (5, .int v29_5), (6, .int v29_6)]) [1, 2, 3, 4, 5, 6, 7] rfl ?_
              exact J102 P29 v29_5 I29 X29 W29 (by omega) (by omega) (fun b9 e9 => by rw [e21478] at e9; cases e9; omega) (fun b9 e9 => by rw [e21482] at e9; cases e9; omega) (by intro b920 b922 e920 e922; rw [e21482] at e920; cases e920; rw [e21485] at e922; cases e922; show (pI P29 a0 28).toInt ≤ 4 + kC (pI P b21484) (40 * a1.toInt).toNat a2.toInt ((pI P b21481 (a1.toInt.toNat)).toInt : Int).toNat + nC (pI P b21484) (40 * a1.toInt).toNat (v29_6.toInt + 1 : Int).toNat; omega) (by intro b920 e920; rw [e21482] at e920; cases e920; show 0 ≤ v29_6.toInt ∧ v29_6.toInt < (pI P b21481 (a1.toInt.toNat)).toInt; omega)
            · have h21552 : (pI P29 b21484 (z21548.toInt.toNat)).toInt < 0 := h21552
              refine g_iload_n C dX12_agreesBy_59 rfl 4 rfl ?_
              refine g_iload C dX12_agreesBy_60 6 rfl ?_
              refine a_ishr C dX12_agreesBy_62 (fun z21553 => ?_)
              refine g_iconst (v := 1) C dX12_agreesBy_63 (by decide) ?_
              refine s_iand C dX12_agreesBy_64 (by show 0 ≤ 1; omega) (fun z21555 h21556 => ?_)
              have h21556 : 0 ≤ z21555.toInt ∧ z21555.toInt ≤ 1 := h21556
              refine g_iload_n C dX12_agreesBy_65 rfl 3 rfl ?_
              refine b_icmp_ne C 99 dX12_agreesBy_66 (by decide) (fun h21557 => ?_) (fun h21557 => ?_)
              · have h21557 : z21555.toInt ≠ a2.toInt := ti_ne h21557
                refine g_lv (lv' := [(0, .ref a0), (1, .int a1), (2, .int a2), (3, .int a3), (4, .int v3_4), (5, .int v29_5), (6, .int v29_6)]) [1, 2, 3, 4, 5, 6, 7] rfl ?_
                exact J99 P29 I29 X29 W29 (by omega) (by omega) (fun b9 e9 => by rw [e21478] at e9; cases e9; omega) (fun b9 e9 => by rw [e21482] at e9; cases e9; omega) (by intro b920 b922 e920 e922; rw [e21482] at e920; cases e920; rw [e21485] at e922; cases e922; show (pI P29 a0 28).toInt ≤ 4 + kC (pI P b21484) (40 * a1.toInt).toNat a2.toInt ((pI P b21481 (a1.toInt.toNat)).toInt : Int).toNat + nC (pI P b21484) (40 * a1.toInt).toNat (v29_6.toInt + 1 : Int).toNat; omega) (by intro b920 e920; rw [e21482] at e920; cases e920; show 0 ≤ v29_6.toInt ∧ v29_6.toInt < (pI P b21481 (a1.toInt.toNat)).toInt; omega)
              · have h21557 : z21555.toInt = a2.toInt := congrArg Int32.toInt h21557
                refine g_aload_n C dX12_agreesBy_69 rfl 1 rfl ?_
                refine g_aload_n C dX12_agreesBy_70 rfl 1 rfl ?_
                refine g_iload_n C dX12_agreesBy_71 rfl 3 rfl ?_
                refine g_aload_n C dX12_agreesBy_72 rfl 1 rfl ?_
                obtain ⟨b21558, e21559, h21560⟩ := I29.fld (h21476) 21 13 800 rfl
                refine g_getR C fi_X12_72 rfl e21559 (h21476).1 (h21476).2 dX12_agreesBy_73 ?_
                refine g_iload C dX12_agreesBy_76 0 rfl ?_
                refine g_iald (j := (z21548.toInt.toNat)) C h21560.1 h21560.2.1 (ix_in h21560.2.2 (by omega)) dX12_agreesBy_78 ?_
                refine g_callVI (rest := [.ref a0]) C mv_X12_261 [.int a2, .int (pI P29 b21558 (z21548.toInt.toNat))] (s_X12_setOf I29 (by omega) (fun b9 e9 => by rw [e21478] at e9; cases e9; show 1 ≤ (pI P29 b21477 (a2.toInt.toNat)).toInt ∧ (pI P29 b21477 (a2.toInt.toNat)).toInt ≤ 16; omega) W29) (h21476).1 (h21476).2 rfl rfl (by decide) (Nat.le_of_ble_eq_true rfl) (by decide) dX12_agreesBy_79 (fun r21561 Y21562 h21563 => ?_)
                obtain ⟨Iy21564, Xy21565, W21566, h21563⟩ := h21563
                have q21567 := Xy21565.keepA e21478 (by decide) rfl (a2.toInt.toNat)
                have q21568 := Xy21565.keepF 28 (by decide)
                have q21569 := Xy21565.keepA e21482 (by decide) rfl (a1.toInt.toNat)
                have q21570 := Xy21565.keepA e21485 (by decide) rfl (z21548.toInt.toNat)
                have Xz21571 : EM [28, 29, 30, 31, 35, 36, 37, 38] a0 P Y21562 := EM.tr ha0 X29 (Xy21565.mono (by decide))
                have e21572 := Xy21565.ref h21476 (by decide) e21478
                have e21573 := Xy21565.ref h21476 (by decide) e21482
                have e21574 := Xy21565.ref h21476 (by decide) e21485
                have h21575 := Xy21565.at h21476
                have h21576 := Xy21565.ar h21479
                have h21577 := Xy21565.ar h21483
                have h21578 := Xy21565.ar h21486
                have h21563 : True := h21563
                refine g_aload_n C dX12_agreesBy_82 rfl 1 rfl ?_
                obtain ⟨b21579, e21580, h21581⟩ := Iy21564.fld (h21575) 23 13 800 rfl
                refine g_getR C fi_X12_78 rfl e21580 (h21575).1 (h21575).2 dX12_agreesBy_83 ?_
                refine g_iload C dX12_agreesBy_86 0 rfl ?_
                refine g_iald (j := (z21548.toInt.toNat)) C h21581.1 h21581.2.1 (ix_in h21581.2.2 (by omega)) dX12_agreesBy_88 ?_
                refine g_iload C dX12_agreesBy_89 5 rfl ?_
                refine g_callSI (b := 0) (ci := 0) (rest := [.int r21561, .ref a0]) C ms_X12_315 [.int (pI Y21562 b21579 (z21548.toInt.toNat)), .int v3_4] (s_X12_byteOf Iy21564.1) rfl rfl (by decide) (Nat.le_of_ble_eq_true rfl) (by decide) dX12_agreesBy_91 (fun r21582 Y21583 h21584 => ?_)
                obtain ⟨rfl, h21584⟩ := h21584
                have h21584 : 0 ≤ r21582.toInt ∧ r21582.toInt ≤ 255 := h21584
                refine g_iload C dX12_agreesBy_94 7 rfl ?_
                refine g_callVV (rest := []) C mv_X12_308 [.int r21561, .int r21582, .int v29_6] (s_X12_adds Iy21564 (by omega) W21566) (h21575).1 (h21575).2 rfl rfl (by decide) (Nat.le_of_ble_eq_true rfl) (by decide) dX12_agreesBy_96 (fun Y21586 h21587 => ?_)
                obtain ⟨Iy21588, Xy21589, W21590, p21591⟩ := h21587
                have p21591 : (pI Y21586 a0 28).toInt = (pI Y21562 a0 28).toInt + 1 := p21591
                have q21592 := Xy21589.keepA e21572 (by decide) rfl (a2.toInt.toNat)
                have q21593 := Xy21589.keepA e21573 (by decide) rfl (a1.toInt.toNat)
                have q21594 := Xy21589.keepA e21574 (by decide) rfl (z21548.toInt.toNat)
                have Xz21595 : EM [28, 29, 30, 31, 35, 36, 37, 38] a0 P Y21586 := EM.tr ha0 Xz21571 (Xy21589.mono (by decide))
                have e21596 := Xy21589.ref h21575 (by decide) e21572
                have e21597 := Xy21589.ref h21575 (by decide) e21573
                have e21598 := Xy21589.ref h21575 (by decide) e21574
                have h21599 := Xy21589.at h21575
                have h21600 := Xy21589.ar h21576
                have h21601 := Xy21589.ar h21577
                have h21602 := Xy21589.ar h21578
                have h21603 := Iy21588.rg h21599 28 rfl
                refine g_lv (lv' := [(0, .ref a0), (1, .int a1), (2, .int a2), (3, .int a3), (4, .int v3_4), (5, .int v29_5), (6, .int v29_6)]) [1, 2, 3, 4, 5, 6, 7] rfl ?_
                exact J99 Y21586 Iy21588 Xz21595 W21590 (by omega) (by omega) (fun b9 e9 => by rw [e21596] at e9; cases e9; omega) (fun b9 e9 => by rw [e21597] at e9; cases e9; omega) (by intro b920 b922 e920 e922; rw [e21597] at e920; cases e920; rw [e21598] at e922; cases e922; show (pI Y21586 a0 28).toInt ≤ 4 + kC (pI P b21484) (40 * a1.toInt).toNat a2.toInt ((pI P b21481 (a1.toInt.toNat)).toInt : Int).toNat + nC (pI P b21484) (40 * a1.toInt).toNat (v29_6.toInt + 1 : Int).toNat; omega) (by intro b920 e920; rw [e21597] at e920; cases e920; show 0 ≤ v29_6.toInt ∧ v29_6.toInt < (pI P b21481 (a1.toInt.toNat)).toInt; omega)
      refine g_iload C dX12_agreesBy_3 4 rfl ?_
      refine g_iconst (v := 2) C dX12_agreesBy_5 (by decide) ?_
      refine b_icmp_ge C 127 dX12_agreesBy_6 (by decide) (fun h21604 => ?_) (fun h21604 => ?_)
      · have h21604 : 2 ≤ v3_4.toInt := h21604
        refine g_iconst (v := 1) C dX12_agreesBy_127 (by decide) ?_
        exact ret _ _ _ _ _ _ dX12_agreesBy_128 rfl (by decide) (by decide) ⟨I3, X3, W3, (by decide)⟩
      · have h21604 : v3_4.toInt < 2 := h21604
        refine g_aload_n C dX12_agreesBy_9 rfl 0 rfl ?_
        refine g_iload_n C dX12_agreesBy_10 rfl 1 rfl ?_
        refine g_iload_n C dX12_agreesBy_11 rfl 2 rfl ?_
        refine g_iload C dX12_agreesBy_12 4 rfl ?_
        refine g_aload_n C dX12_agreesBy_14 rfl 0 rfl ?_
        obtain ⟨b21605, e21606, h21607⟩ := I3.fld (h21472) 20 13 20 rfl
        refine g_getR C fi_X12_69 rfl e21606 (h21472).1 (h21472).2 dX12_agreesBy_15 ?_
        refine g_iload_n C dX12_agreesBy_18 rfl 1 rfl ?_
        refine g_iald (j := (a1.toInt.toNat)) C h21607.1 h21607.2.1 (ix_in h21607.2.2 (by omega)) dX12_agreesBy_19 ?_
        have h21608 := I3.arr e21606 rfl (a1.toInt.toNat)
        have q21609 := X3.keepA (EM.refB X3 ha0 e21606) (by decide) rfl (a1.toInt.toNat)
        have h21610 := I.arr (EM.refB X3 ha0 e21606) rfl (a1.toInt.toNat)
        refine g_callVV (rest := []) C mv_X12_339 [.int a1, .int a2, .int v3_4, .int (pI P3 b21605 (a1.toInt.toNat))] (s_X12_gathers I3 (by omega) (by omega) (by omega) (fun b9 e9 => by rw [e21474] at e9; cases e9; show 1 ≤ (pI P3 b21473 (a2.toInt.toNat)).toInt ∧ (pI P3 b21473 (a2.toInt.toNat)).toInt ≤ 16; omega) W3) (h21472).1 (h21472).2 rfl rfl (by decide) (Nat.le_of_ble_eq_true rfl) (by decide) dX12_agreesBy_20 (fun Y21612 h21613 => ?_)
        obtain ⟨Iy21614, Xy21615, W21616, p21617, p21618⟩ := h21613
        have p21617 : (pI Y21612 a0 28).toInt ≤ 4 + (pI P3 b21605 (a1.toInt.toNat)).toInt := p21617
        have q21619 := Xy21615.keepA e21474 (by decide) rfl (a2.toInt.toNat)
        have q21620 := Xy21615.keepA e21606 (by decide) rfl (a1.toInt.toNat)
        have Xz21621 : EM [28, 29, 30, 31, 35, 36, 37, 38] a0 P Y21612 := EM.tr ha0 X3 (Xy21615.mono (by decide))
        have e21622 := Xy21615.ref h21472 (by decide) e21474
        have e21623 := Xy21615.ref h21472 (by decide) e21606
        have h21624 := Xy21615.at h21472
        have h21625 := Xy21615.ar h21475
        have h21626 := Xy21615.ar h21607
        obtain ⟨b21627, e21628, h21629⟩ := Iy21614.fld (h21624) 22 13 800 rfl
        have p21618 := p21618 b21627 e21628
        rw [Xz21621.2.2.2 22 (by decide) rfl b21627 (EM.refB Xz21621 ha0 e21628)] at p21618
        have p21618 : (pI Y21612 a0 28).toInt ≤ 4 + kC (pI P b21627) (40 * a1.toInt).toNat a2.toInt ((pI P3 b21605 (a1.toInt.toNat)).toInt : Int).toNat := p21618
        have h21630 := Iy21614.rg h21624 28 rfl
        have hy : kC (pI P b21627) (40 * a1.toInt).toNat a2.toInt ((pI P3 b21605 (a1.toInt.toNat)).toInt : Int).toNat = kC (pI P b21627) (40 * a1.toInt).toNat a2.toInt ((pI P b21605 (a1.toInt.toNat)).toInt).toNat := by rw [show (pI P3 b21605 (a1.toInt.toNat)).toInt = (pI P b21605 (a1.toInt.toNat)).toInt by omega]
        have n0 : nC (pI P b21627) (40 * a1.toInt).toNat (0 : Int).toNat = 0 := rfl
        refine g_iconst (v := 0) C dX12_agreesBy_23 (by decide) ?_
        refine g_istore (lv' := [(5, .int 0), (0, .ref a0), (1, .int a1), (2, .int a2), (3, .int a3), (4, .int v3_4)]) C dX12_agreesBy_24 (by decide) rfl ?_
        refine g_iconst (v := 0) C dX12_agreesBy_26 (by decide) ?_
        refine g_istore (lv' := [(6, .int 0), (5, .int 0), (0, .ref a0), (1, .int a1), (2, .int a2), (3, .int a3), (4, .int v3_4)]) C dX12_agreesBy_27 (by decide) rfl ?_
        refine g_lv (lv' := [(0, .ref a0), (1, .int a1), (2, .int a2), (3, .int a3), (4, .int v3_4), (5, .int 0), (6, .int 0)]) [2, 3, 4, 5, 6, 1, 0] rfl ?_
        exact J29 _ Y21612 0 0 (Nat.lt_succ_self _) Iy21614 Xz21621 W21616 (by omega) (by decide) (fun b9 e9 => by rw [e21622] at e9; cases e9; omega) (by intro b920 b922 e920 e922; rw [e21623] at e920; cases e920; rw [e21628] at e922; cases e922; show (pI Y21612 a0 28).toInt ≤ 4 + kC (pI P b21627) (40 * a1.toInt).toNat a2.toInt ((pI P b21605 (a1.toInt.toNat)).toInt : Int).toNat + nC (pI P b21627) (40 * a1.toInt).toNat (0 : Int).toNat; omega) (by intro b920 e920; rw [e21623] at e920; cases e920; show 0 ≤ 0 ∧ 0 ≤ (pI P b21605 (a1.toInt.toNat)).toInt; omega)
  obtain ⟨b21631, e21632, h21633⟩ := I.fld (ha0) 10 13 2 rfl
  have hf0 := hf0 b21631 e21632
  refine g_iconst (v := 0) C dX12_agreesBy_0 (by decide) ?_
  refine g_istore (lv' := [(4, .int 0), (0, .ref a0), (1, .int a1), (2, .int a2), (3, .int a3)]) C dX12_agreesBy_1 (by decide) rfl ?_
  refine g_lv (lv' := [(0, .ref a0), (1, .int a1), (2, .int a2), (3, .int a3), (4, .int 0)]) [1, 2, 3, 4, 0] rfl ?_
  exact J3 _ P 0 (Nat.lt_succ_self _) I EM.rf hW (by decide) (fun b9 e9 => by rw [e21632] at e9; cases e9; omega)
theorem dX12_allHouses_0 : decode cX12_allHouses 0 = .ok (.iconst 0, 1) := by decide +kernel
theorem dX12_allHouses_1 : decode cX12_allHouses 1 = .ok (.istore_n 1, 1) := by decide +kernel
theorem dX12_allHouses_2 : decode cX12_allHouses 2 = .ok (.iconst 0, 1) := by decide +kernel
theorem dX12_allHouses_3 : decode cX12_allHouses 3 = .ok (.istore_n 2, 1) := by decide +kernel
theorem dX12_allHouses_4 : decode cX12_allHouses 4 = .ok (.iload_n 2, 1) := by decide +kernel
theorem dX12_allHouses_5 : decode cX12_allHouses 5 = .ok (.iconst 4, 1) := by decide +kernel
theorem dX12_allHouses_6 : decode cX12_allHouses 6 = .ok (.if_icmp .ge 18, 3) := by decide +kernel
theorem dX12_allHouses_9 : decode cX12_allHouses 9 = .ok (.iload_n 1, 1) := by decide +kernel
theorem dX12_allHouses_10 : decode cX12_allHouses 10 = .ok (.aload_n 0, 1) := by decide +kernel
theorem dX12_allHouses_11 : decode cX12_allHouses 11 = .ok (.getfield 130, 3) := by decide +kernel
theorem dX12_allHouses_14 : decode cX12_allHouses 14 = .ok (.iload_n 2, 1) := by decide +kernel
theorem dX12_allHouses_15 : decode cX12_allHouses 15 = .ok (.iaload, 1) := by decide +kernel
theorem dX12_allHouses_16 : decode cX12_allHouses 16 = .ok (.iadd, 1) := by decide +kernel
theorem dX12_allHouses_17 : decode cX12_allHouses 17 = .ok (.istore_n 1, 1) := by decide +kernel
theorem dX12_allHouses_18 : decode cX12_allHouses 18 = .ok (.iinc 2 1, 3) := by decide +kernel
theorem dX12_allHouses_21 : decode cX12_allHouses 21 = .ok (.goto (-17), 3) := by decide +kernel
theorem dX12_allHouses_24 : decode cX12_allHouses 24 = .ok (.iload_n 1, 1) := by decide +kernel
theorem dX12_allHouses_25 : decode cX12_allHouses 25 = .ok (.ireturn, 1) := by decide +kernel
set_option maxHeartbeats 4000000 in
set_option maxRecDepth 100000 in
theorem s_X12_allHouses {P : PP} {a0 : Nat} (I : IM P a0) (hW : MW P a0) : CtrI yX12_allHouses cX12_allHouses 3 (some Jvm.ClassFile.FieldType.int) ({ frames := 1, cells := 0, slots := 0, locals := 64 } : Room) 0 0 P [.ref a0] (fun r P2 => P = P2 ∧ (True)) := by
  refine enI (lv := [(0, .ref a0)]) (by decide) (Nat.le_of_ble_eq_true rfl) rfl (fun E D cy C Ci0 ret => ?_)
  have ha0 := I.2.1
  have J4 : ∀ (n4 : Nat) (v4_1 : Int32) (v4_2 : Int32), (4 - v4_2.toInt).toNat < n4 → (0 ≤ v4_2.toInt ∧ v4_2.toInt ≤ 4) → G E ({ frames := 1, cells := 0, slots := 0, locals := 64 } : Room) D cy 3 P 0 0 4 [(0, .ref a0), (1, .int v4_1), (2, .int v4_2)] [] := by
    intro n4
    induction n4 with
    | zero => intro v4_1 v4_2 hm4 hv4_2; omega
    | succ n4 ih4 =>
      intro v4_1 v4_2 hm4 hv4_2
      refine g_iload_n C dX12_allHouses_4 rfl 2 rfl ?_
      refine g_iconst (v := 4) C dX12_allHouses_5 (by decide) ?_
      refine b_icmp_ge C 24 dX12_allHouses_6 (by decide) (fun h21674 => ?_) (fun h21674 => ?_)
      · have h21674 : 4 ≤ v4_2.toInt := h21674
        refine g_iload_n C dX12_allHouses_24 rfl 1 rfl ?_
        exact ret _ _ _ _ _ _ dX12_allHouses_25 rfl (by decide) (by decide) ⟨rfl, trivial⟩
      · have h21674 : v4_2.toInt < 4 := h21674
        refine g_iload_n C dX12_allHouses_9 rfl 1 rfl ?_
        refine g_aload_n C dX12_allHouses_10 rfl 0 rfl ?_
        obtain ⟨b21675, e21676, h21677⟩ := I.fld (ha0) 46 13 4 rfl
        refine g_getR C fi_X12_130 rfl e21676 (ha0).1 (ha0).2 dX12_allHouses_11 ?_
        refine g_iload_n C dX12_allHouses_14 rfl 2 rfl ?_
        refine g_iald (j := (v4_2.toInt.toNat)) C h21677.1 h21677.2.1 (ix_in h21677.2.2 (by omega)) dX12_allHouses_15 ?_
        refine a_iadd C dX12_allHouses_16 (fun z21678 => ?_)
        refine g_istore_n (lv' := [(1, .int z21678), (0, .ref a0), (2, .int v4_2)]) C dX12_allHouses_17 rfl (by decide) rfl ?_
        refine s_iinc (lv0 := [(1, .int z21678), (0, .ref a0)]) (m := 1) C dX12_allHouses_18 2 rfl (by decide) rfl (by decide) (by omega) (fun z21680 h21681 => ?_)
        have h21681 : z21680.toInt = v4_2.toInt + 1 := h21681
        refine g_goto C 4 dX12_allHouses_21 (by decide) ?_
        refine g_lv (lv' := [(0, .ref a0), (1, .int z21678), (2, .int z21680)]) [2, 1, 0] rfl ?_
        exact ih4 z21678 z21680 (by omega) (by omega)
  refine g_iconst (v := 0) C dX12_allHouses_0 (by decide) ?_
  refine g_istore_n (lv' := [(1, .int 0), (0, .ref a0)]) C dX12_allHouses_1 rfl (by decide) rfl ?_
  refine g_iconst (v := 0) C dX12_allHouses_2 (by decide) ?_
  refine g_istore_n (lv' := [(2, .int 0), (1, .int 0), (0, .ref a0)]) C dX12_allHouses_3 rfl (by decide) rfl ?_
  refine g_lv (lv' := [(0, .ref a0), (1, .int 0), (2, .int 0)]) [2, 1, 0] rfl ?_
  exact J4 _ 0 0 (Nat.lt_succ_self _) (by decide)
theorem dX12_apart_0 : decode cX12_apart 0 = .ok (.aload_n 0, 1) := by decide +kernel
theorem dX12_apart_1 : decode cX12_apart 1 = .ok (.iconst 0, 1) := by decide +kernel
theorem dX12_apart_2 : decode cX12_apart 2 = .ok (.putfield 1, 3) := by decide +kernel
theorem dX12_apart_5 : decode cX12_apart 5 = .ok (.aload_n 0, 1) := by decide +kernel
theorem dX12_apart_6 : decode cX12_apart 6 = .ok (.iload_n 1, 1) := by decide +kernel
theorem dX12_apart_7 : decode cX12_apart 7 = .ok (.iload_n 2, 1) := by decide +kernel
theorem dX12_apart_8 : decode cX12_apart 8 = .ok (.invokevirtual 298, 3) := by decide +kernel
theorem dX12_isPaper_0 : decode cX12_isPaper 0 = .ok (.iload_n 1, 1) := by decide +kernel
theorem dX12_isPaper_1 : decode cX12_isPaper 1 = .ok (.invokestatic 278, 3) := by decide +kernel
theorem dX12_isQuarter_0 : decode cX12_isQuarter 0 = .ok (.iload_n 0, 1) := by decide +kernel
theorem dX12_isQuarter_1 : decode cX12_isQuarter 1 = .ok (.iconst 0, 1) := by decide +kernel
theorem dX12_isQuarter_2 : decode cX12_isQuarter 2 = .ok (.iconst 3, 1) := by decide +kernel
theorem dX12_isQuarter_3 : decode cX12_isQuarter 3 = .ok (.invokestatic 178, 3) := by decide +kernel
theorem dX12_within_0 : decode cX12_within 0 = .ok (.iload_n 0, 1) := by decide +kernel
theorem dX12_within_1 : decode cX12_within 1 = .ok (.iload_n 1, 1) := by decide +kernel
theorem dX12_within_2 : decode cX12_within 2 = .ok (.if_icmp .lt 12, 3) := by decide +kernel
theorem dX12_within_5 : decode cX12_within 5 = .ok (.iload_n 0, 1) := by decide +kernel
theorem dX12_within_6 : decode cX12_within 6 = .ok (.iload_n 2, 1) := by decide +kernel
theorem dX12_within_7 : decode cX12_within 7 = .ok (.if_icmp .gt 7, 3) := by decide +kernel
theorem dX12_within_10 : decode cX12_within 10 = .ok (.iconst 1, 1) := by decide +kernel
theorem dX12_within_11 : decode cX12_within 11 = .ok (.goto 4, 3) := by decide +kernel
theorem dX12_within_14 : decode cX12_within 14 = .ok (.iconst 0, 1) := by decide +kernel
theorem dX12_within_15 : decode cX12_within 15 = .ok (.ireturn, 1) := by decide +kernel
set_option maxHeartbeats 4000000 in
set_option maxRecDepth 100000 in
theorem s_X12_within {P : PP} {a0 : Int32} {a1 : Int32} {a2 : Int32} (I : IV P) : CtrI yX12_within cX12_within 3 (some Jvm.ClassFile.FieldType.boolean) ({ frames := 1, cells := 0, slots := 0, locals := 64 } : Room) 0 0 P [.int a0, .int a1, .int a2] (fun r P2 => P = P2 ∧ (0 ≤ r.toInt ∧ r.toInt ≤ 1) ∧ (r.toInt = 0 ∨ (a1.toInt ≤ a0.toInt ∧ a0.toInt ≤ a2.toInt))) := by
  refine enI (lv := [(0, .int a0), (1, .int a1), (2, .int a2)]) (by decide) (Nat.le_of_ble_eq_true rfl) rfl (fun E D cy C Ci0 ret => ?_)
  have J14 : G E ({ frames := 1, cells := 0, slots := 0, locals := 64 } : Room) D cy 3 P 0 0 14 [] [] := by
    refine g_iconst (v := 0) C dX12_within_14 (by decide) ?_
    exact ret _ _ _ _ _ _ dX12_within_15 rfl (by decide) (by decide) ⟨rfl, (by decide), Or.inl rfl⟩
  refine g_iload_n C dX12_within_0 rfl 0 rfl ?_
  refine g_iload_n C dX12_within_1 rfl 1 rfl ?_
  have u21696 := ti_rng a0
  have u21697 := ti_rng a1
  refine b_icmp_lt C 14 dX12_within_2 (by decide) (fun h21695 => ?_) (fun h21695 => ?_)
  · have h21695 : a0.toInt < a1.toInt := h21695
    refine g_lv (lv' := []) [] rfl ?_
    exact J14 
  · have h21695 : a1.toInt ≤ a0.toInt := h21695
    refine g_iload_n C dX12_within_5 rfl 0 rfl ?_
    refine g_iload_n C dX12_within_6 rfl 2 rfl ?_
    have u21699 := ti_rng a0
    have u21700 := ti_rng a2
    refine b_icmp_gt C 14 dX12_within_7 (by decide) (fun h21698 => ?_) (fun h21698 => ?_)
    · have h21698 : a2.toInt < a0.toInt := h21698
      refine g_lv (lv' := []) [] rfl ?_
      exact J14 
    · have h21698 : a0.toInt ≤ a2.toInt := h21698
      refine g_iconst (v := 1) C dX12_within_10 (by decide) ?_
      refine g_goto C 15 dX12_within_11 (by decide) ?_
      exact ret _ _ _ _ _ _ dX12_within_15 rfl (by decide) (by decide) ⟨rfl, (by decide), Or.inr (by omega)⟩
theorem dX12_isQuarter_6 : decode cX12_isQuarter 6 = .ok (.ireturn, 1) := by decide +kernel
set_option maxHeartbeats 4000000 in
set_option maxRecDepth 100000 in
theorem s_X12_isQuarter {P : PP} {a0 : Int32} (I : IV P) : CtrI yX12_isQuarter cX12_isQuarter 1 (some Jvm.ClassFile.FieldType.boolean) ({ frames := 2, cells := 0, slots := 0, locals := 128 } : Room) 0 0 P [.int a0] (fun r P2 => P = P2 ∧ (0 ≤ r.toInt ∧ r.toInt ≤ 1) ∧ (r.toInt = 0 ∨ (((0 : Int) ≤ a0.toInt ∧ a0.toInt ≤ (3 : Int))))) := by
  refine enI (lv := [(0, .int a0)]) (by decide) (Nat.le_of_ble_eq_true rfl) rfl (fun E D cy C Ci0 ret => ?_)
  refine g_iload_n C dX12_isQuarter_0 rfl 0 rfl ?_
  refine g_iconst (v := 0) C dX12_isQuarter_1 (by decide) ?_
  refine g_iconst (v := 3) C dX12_isQuarter_2 (by decide) ?_
  refine g_callSI (b := 0) (ci := 0) (rest := []) C ms_X12_178 [.int a0, .int 0, .int 3] (s_X12_within I) rfl rfl (by decide) (Nat.le_of_ble_eq_true rfl) (by decide) dX12_isQuarter_3 (fun r21705 Y21706 h21707 => ?_)
  obtain ⟨rfl, h21707⟩ := h21707
  obtain ⟨h21707, hi21708⟩ := h21707
  have hi21708 : r21705.toInt = 0 ∨ (0 ≤ a0.toInt ∧ a0.toInt ≤ 3) := hi21708
  have h21707 : 0 ≤ r21705.toInt ∧ r21705.toInt ≤ 1 := h21707
  exact ret _ _ _ _ _ _ dX12_isQuarter_6 (nar_b (b01 (by omega))) (by decide) (by decide) ⟨rfl, (by omega), hi21708.imp id (fun h9 => by omega)⟩
theorem dX12_isPaper_4 : decode cX12_isPaper 4 = .ok (.ifCond .eq 21, 3) := by decide +kernel
theorem dX12_isPaper_7 : decode cX12_isPaper 7 = .ok (.iload_n 2, 1) := by decide +kernel
theorem dX12_isPaper_8 : decode cX12_isPaper 8 = .ok (.ifCond .lt 17, 3) := by decide +kernel
theorem dX12_isPaper_11 : decode cX12_isPaper 11 = .ok (.iload_n 2, 1) := by decide +kernel
theorem dX12_isPaper_12 : decode cX12_isPaper 12 = .ok (.aload_n 0, 1) := by decide +kernel
theorem dX12_isPaper_13 : decode cX12_isPaper 13 = .ok (.getfield 69, 3) := by decide +kernel
theorem dX12_isPaper_16 : decode cX12_isPaper 16 = .ok (.iload_n 1, 1) := by decide +kernel
theorem dX12_isPaper_17 : decode cX12_isPaper 17 = .ok (.iaload, 1) := by decide +kernel
theorem dX12_isPaper_18 : decode cX12_isPaper 18 = .ok (.if_icmp .ge 7, 3) := by decide +kernel
theorem dX12_isPaper_21 : decode cX12_isPaper 21 = .ok (.iconst 1, 1) := by decide +kernel
theorem dX12_isPaper_22 : decode cX12_isPaper 22 = .ok (.goto 4, 3) := by decide +kernel
theorem dX12_isPaper_25 : decode cX12_isPaper 25 = .ok (.iconst 0, 1) := by decide +kernel
theorem dX12_isPaper_26 : decode cX12_isPaper 26 = .ok (.ireturn, 1) := by decide +kernel
set_option maxHeartbeats 4000000 in
set_option maxRecDepth 100000 in
theorem s_X12_isPaper {P : PP} {a0 : Nat} {a1 : Int32} {a2 : Int32} (I : IM P a0) (hW : MW P a0) : CtrI yX12_isPaper cX12_isPaper 3 (some Jvm.ClassFile.FieldType.boolean) ({ frames := 3, cells := 0, slots := 0, locals := 192 } : Room) 0 0 P [.ref a0, .int a1, .int a2] (fun r P2 => P = P2 ∧ (0 ≤ r.toInt ∧ r.toInt ≤ 1) ∧ (r.toInt = 0 ∨ (((0 : Int) ≤ a1.toInt ∧ a1.toInt ≤ (3 : Int)) ∧ ((0 : Int) ≤ a2.toInt ∧ a2.toInt ≤ (39 : Int)))) ∧ (r.toInt = 0 ∨ ∀ b, pR P2 a0 20 = some b → a2.toInt < (pI P2 b (a1.toInt.toNat)).toInt ∧ 0 ≤ a2.toInt)) := by
  refine enI (lv := [(0, .ref a0), (1, .int a1), (2, .int a2)]) (by decide) (Nat.le_of_ble_eq_true rfl) rfl (fun E D cy C Ci0 ret => ?_)
  have ha0 := I.2.1
  have J25 : G E ({ frames := 3, cells := 0, slots := 0, locals := 192 } : Room) D cy 3 P 0 0 25 [] [] := by
    refine g_iconst (v := 0) C dX12_isPaper_25 (by decide) ?_
    exact ret _ _ _ _ _ _ dX12_isPaper_26 rfl (by decide) (by decide) ⟨rfl, (by decide), Or.inl rfl, Or.inl rfl⟩
  refine g_iload_n C dX12_isPaper_0 rfl 1 rfl ?_
  refine g_callSI (b := 0) (ci := 0) (rest := []) C ms_X12_278 [.int a1] (s_X12_isQuarter I.1) rfl rfl (by decide) (Nat.le_of_ble_eq_true rfl) (by decide) dX12_isPaper_1 (fun r21722 Y21723 h21724 => ?_)
  obtain ⟨rfl, h21724⟩ := h21724
  obtain ⟨h21724, hi21725⟩ := h21724
  have hi21725 : r21722.toInt = 0 ∨ (((0 : Int) ≤ a1.toInt ∧ a1.toInt ≤ (3 : Int))) := hi21725
  have h21724 : 0 ≤ r21722.toInt ∧ r21722.toInt ≤ 1 := h21724
  refine b_if_eq C 25 dX12_isPaper_4 (by decide) (fun h21726 => ?_) (fun h21726 => ?_)
  · have h21726 : r21722.toInt = 0 := congrArg Int32.toInt h21726
    clear hi21725
    refine g_lv (lv' := []) [] rfl ?_
    exact J25 
  · have h21726 : r21722.toInt ≠ 0 := ti_ne h21726
    replace hi21725 := hi21725.resolve_left (by omega)
    refine g_iload_n C dX12_isPaper_7 rfl 2 rfl ?_
    have u21728 := ti_rng a2
    refine b_if_lt C 25 dX12_isPaper_8 (by decide) (fun h21727 => ?_) (fun h21727 => ?_)
    · have h21727 : a2.toInt < 0 := h21727
      refine g_lv (lv' := []) [] rfl ?_
      exact J25 
    · have h21727 : 0 ≤ a2.toInt := h21727
      refine g_iload_n C dX12_isPaper_11 rfl 2 rfl ?_
      refine g_aload_n C dX12_isPaper_12 rfl 0 rfl ?_
      obtain ⟨b21729, e21730, h21731⟩ := I.fld (ha0) 20 13 20 rfl
      refine g_getR C fi_X12_69 rfl e21730 (ha0).1 (ha0).2 dX12_isPaper_13 ?_
      refine g_iload_n C dX12_isPaper_16 rfl 1 rfl ?_
      refine g_iald (j := (a1.toInt.toNat)) C h21731.1 h21731.2.1 (ix_in h21731.2.2 (by omega)) dX12_isPaper_17 ?_
      have h21732 := I.arr e21730 rfl (a1.toInt.toNat)
      have u21734 := ti_rng a2
      refine b_icmp_ge C 25 dX12_isPaper_18 (by decide) (fun h21733 => ?_) (fun h21733 => ?_)
      · have h21733 : (pI P b21729 (a1.toInt.toNat)).toInt ≤ a2.toInt := h21733
        refine g_lv (lv' := []) [] rfl ?_
        exact J25 
      · have h21733 : a2.toInt < (pI P b21729 (a1.toInt.toNat)).toInt := h21733
        refine g_iconst (v := 1) C dX12_isPaper_21 (by decide) ?_
        refine g_goto C 26 dX12_isPaper_22 (by decide) ?_
        exact ret _ _ _ _ _ _ dX12_isPaper_26 rfl (by decide) (by decide) ⟨rfl, (by decide), Or.inr (by omega), Or.inr (fun b9 e9 => by rw [e21730] at e9; cases e9; show a2.toInt < (pI P b21729 (a1.toInt.toNat)).toInt ∧ 0 ≤ a2.toInt; omega)⟩
theorem dX12_apart_11 : decode cX12_apart 11 = .ok (.ifCond .eq 33, 3) := by decide +kernel
theorem dX12_apart_14 : decode cX12_apart 14 = .ok (.aload_n 0, 1) := by decide +kernel
theorem dX12_apart_15 : decode cX12_apart 15 = .ok (.getfield 75, 3) := by decide +kernel
theorem dX12_apart_18 : decode cX12_apart 18 = .ok (.bipush 40, 2) := by decide +kernel
theorem dX12_apart_20 : decode cX12_apart 20 = .ok (.iload_n 1, 1) := by decide +kernel
theorem dX12_apart_21 : decode cX12_apart 21 = .ok (.imul, 1) := by decide +kernel
theorem dX12_apart_22 : decode cX12_apart 22 = .ok (.iload_n 2, 1) := by decide +kernel
theorem dX12_apart_23 : decode cX12_apart 23 = .ok (.iadd, 1) := by decide +kernel
theorem dX12_apart_24 : decode cX12_apart 24 = .ok (.iaload, 1) := by decide +kernel
theorem dX12_apart_25 : decode cX12_apart 25 = .ok (.ifCond .ge 19, 3) := by decide +kernel
theorem dX12_apart_28 : decode cX12_apart 28 = .ok (.aload_n 0, 1) := by decide +kernel
theorem dX12_apart_29 : decode cX12_apart 29 = .ok (.iconst 0, 1) := by decide +kernel
theorem dX12_apart_30 : decode cX12_apart 30 = .ok (.invokevirtual 192, 3) := by decide +kernel
theorem dX12_isBook_0 : decode cX12_isBook 0 = .ok (.iload_n 1, 1) := by decide +kernel
theorem dX12_isBook_1 : decode cX12_isBook 1 = .ok (.iconst 0, 1) := by decide +kernel
theorem dX12_isBook_2 : decode cX12_isBook 2 = .ok (.iconst 1, 1) := by decide +kernel
theorem dX12_isBook_3 : decode cX12_isBook 3 = .ok (.invokestatic 178, 3) := by decide +kernel
theorem dX12_isBook_6 : decode cX12_isBook 6 = .ok (.ifCond .eq 16, 3) := by decide +kernel
theorem dX12_isBook_9 : decode cX12_isBook 9 = .ok (.aload_n 0, 1) := by decide +kernel
theorem dX12_isBook_10 : decode cX12_isBook 10 = .ok (.getfield 45, 3) := by decide +kernel
theorem dX12_isBook_13 : decode cX12_isBook 13 = .ok (.iload_n 1, 1) := by decide +kernel
theorem dX12_isBook_14 : decode cX12_isBook 14 = .ok (.iaload, 1) := by decide +kernel
theorem dX12_isBook_15 : decode cX12_isBook 15 = .ok (.ifCond .le 7, 3) := by decide +kernel
theorem dX12_isBook_18 : decode cX12_isBook 18 = .ok (.iconst 1, 1) := by decide +kernel
theorem dX12_isBook_19 : decode cX12_isBook 19 = .ok (.goto 4, 3) := by decide +kernel
theorem dX12_isBook_22 : decode cX12_isBook 22 = .ok (.iconst 0, 1) := by decide +kernel
theorem dX12_isBook_23 : decode cX12_isBook 23 = .ok (.ireturn, 1) := by decide +kernel
set_option maxHeartbeats 4000000 in
set_option maxRecDepth 100000 in
theorem s_X12_isBook {P : PP} {a0 : Nat} {a1 : Int32} (I : IM P a0) (hW : MW P a0) : CtrI yX12_isBook cX12_isBook 2 (some Jvm.ClassFile.FieldType.boolean) ({ frames := 2, cells := 0, slots := 0, locals := 128 } : Room) 0 0 P [.ref a0, .int a1] (fun r P2 => P = P2 ∧ (0 ≤ r.toInt ∧ r.toInt ≤ 1) ∧ (r.toInt = 0 ∨ (((0 : Int) ≤ a1.toInt ∧ a1.toInt ≤ (1 : Int)))) ∧ (r.toInt = 0 ∨ ∀ b, pR P2 a0 10 = some b → 0 < (pI P2 b (a1.toInt.toNat)).toInt)) := by
  refine enI (lv := [(0, .ref a0), (1, .int a1)]) (by decide) (Nat.le_of_ble_eq_true rfl) rfl (fun E D cy C Ci0 ret => ?_)
  have ha0 := I.2.1
  have J22 : G E ({ frames := 2, cells := 0, slots := 0, locals := 128 } : Room) D cy 2 P 0 0 22 [] [] := by
    refine g_iconst (v := 0) C dX12_isBook_22 (by decide) ?_
    exact ret _ _ _ _ _ _ dX12_isBook_23 rfl (by decide) (by decide) ⟨rfl, (by decide), Or.inl rfl, Or.inl rfl⟩
  refine g_iload_n C dX12_isBook_0 rfl 1 rfl ?_
  refine g_iconst (v := 0) C dX12_isBook_1 (by decide) ?_
  refine g_iconst (v := 1) C dX12_isBook_2 (by decide) ?_
  refine g_callSI (b := 0) (ci := 0) (rest := []) C ms_X12_178 [.int a1, .int 0, .int 1] (s_X12_within I.1) rfl rfl (by decide) (Nat.le_of_ble_eq_true rfl) (by decide) dX12_isBook_3 (fun r21771 Y21772 h21773 => ?_)
  obtain ⟨rfl, h21773⟩ := h21773
  obtain ⟨h21773, hi21774⟩ := h21773
  have hi21774 : r21771.toInt = 0 ∨ (0 ≤ a1.toInt ∧ a1.toInt ≤ 1) := hi21774
  have h21773 : 0 ≤ r21771.toInt ∧ r21771.toInt ≤ 1 := h21773
  refine b_if_eq C 22 dX12_isBook_6 (by decide) (fun h21775 => ?_) (fun h21775 => ?_)
  · have h21775 : r21771.toInt = 0 := congrArg Int32.toInt h21775
    clear hi21774
    refine g_lv (lv' := []) [] rfl ?_
    exact J22 
  · have h21775 : r21771.toInt ≠ 0 := ti_ne h21775
    replace hi21774 := hi21774.resolve_left (by omega)
    refine g_aload_n C dX12_isBook_9 rfl 0 rfl ?_
    obtain ⟨b21776, e21777, h21778⟩ := I.fld (ha0) 10 13 2 rfl
    refine g_getR C fi_X12_45 rfl e21777 (ha0).1 (ha0).2 dX12_isBook_10 ?_
    refine g_iload_n C dX12_isBook_13 rfl 1 rfl ?_
    refine g_iald (j := (a1.toInt.toNat)) C h21778.1 h21778.2.1 (ix_in h21778.2.2 (by omega)) dX12_isBook_14 ?_
    have h21779 := I.arr e21777 rfl (a1.toInt.toNat)
    refine b_if_le C 22 dX12_isBook_15 (by decide) (fun h21780 => ?_) (fun h21780 => ?_)
    · have h21780 : (pI P b21776 (a1.toInt.toNat)).toInt ≤ 0 := h21780
      refine g_lv (lv' := []) [] rfl ?_
      exact J22 
    · have h21780 : 0 < (pI P b21776 (a1.toInt.toNat)).toInt := h21780
      refine g_iconst (v := 1) C dX12_isBook_18 (by decide) ?_
      refine g_goto C 23 dX12_isBook_19 (by decide) ?_
      exact ret _ _ _ _ _ _ dX12_isBook_23 rfl (by decide) (by decide) ⟨rfl, (by decide), Or.inr (by omega), Or.inr (fun b9 e9 => by rw [e21777] at e9; cases e9; show 0 < (pI P b21776 (a1.toInt.toNat)).toInt; omega)⟩
theorem dX12_apart_33 : decode cX12_apart 33 = .ok (.ifCond .eq 11, 3) := by decide +kernel
theorem dX12_apart_36 : decode cX12_apart 36 = .ok (.aload_n 0, 1) := by decide +kernel
theorem dX12_apart_37 : decode cX12_apart 37 = .ok (.iconst 1, 1) := by decide +kernel
theorem dX12_apart_38 : decode cX12_apart 38 = .ok (.invokevirtual 192, 3) := by decide +kernel
theorem dX12_apart_41 : decode cX12_apart 41 = .ok (.ifCond .ne 5, 3) := by decide +kernel
theorem dX12_apart_46 : decode cX12_apart 46 = .ok (.aload_n 0, 1) := by decide +kernel
theorem dX12_apart_47 : decode cX12_apart 47 = .ok (.invokevirtual 336, 3) := by decide +kernel
theorem dX12_leavesNone_0 : decode cX12_leavesNone 0 = .ok (.iconst 0, 1) := by decide +kernel
theorem dX12_leavesNone_1 : decode cX12_leavesNone 1 = .ok (.istore_n 1, 1) := by decide +kernel
theorem dX12_leavesNone_2 : decode cX12_leavesNone 2 = .ok (.iload_n 1, 1) := by decide +kernel
theorem dX12_leavesNone_3 : decode cX12_leavesNone 3 = .ok (.bipush 40, 2) := by decide +kernel
theorem dX12_leavesNone_5 : decode cX12_leavesNone 5 = .ok (.if_icmp .ge 16, 3) := by decide +kernel
theorem dX12_leavesNone_8 : decode cX12_leavesNone 8 = .ok (.aload_n 0, 1) := by decide +kernel
theorem dX12_leavesNone_9 : decode cX12_leavesNone 9 = .ok (.getfield 100, 3) := by decide +kernel
theorem dX12_leavesNone_12 : decode cX12_leavesNone 12 = .ok (.iload_n 1, 1) := by decide +kernel
theorem dX12_leavesNone_13 : decode cX12_leavesNone 13 = .ok (.iconst 0, 1) := by decide +kernel
theorem dX12_leavesNone_14 : decode cX12_leavesNone 14 = .ok (.bastore, 1) := by decide +kernel
theorem dX12_leavesNone_15 : decode cX12_leavesNone 15 = .ok (.iinc 1 1, 3) := by decide +kernel
theorem dX12_leavesNone_18 : decode cX12_leavesNone 18 = .ok (.goto (-16), 3) := by decide +kernel
theorem dX12_leavesNone_21 : decode cX12_leavesNone 21 = .ok (.return_, 1) := by decide +kernel
set_option maxHeartbeats 4000000 in
set_option maxRecDepth 100000 in
theorem s_X12_leavesNone {P : PP} {a0 : Nat} (I : IM P a0) (hW : MW P a0) : CtrV yX12_leavesNone cX12_leavesNone 2 none ({ frames := 1, cells := 0, slots := 0, locals := 64 } : Room) 0 0 P [.ref a0] (fun P2 => IM P2 a0 ∧ EM [32] a0 P P2 ∧ MW P2 a0) := by
  refine enV (lv := [(0, .ref a0)]) (by decide) (Nat.le_of_ble_eq_true rfl) rfl (fun E D cy C Ci0 ret => ?_)
  have ha0 := I.2.1
  have J2 : ∀ (n2 : Nat) (P2 : PP) (v2_1 : Int32), (40 - v2_1.toInt).toNat < n2 → (IM P2 a0) → (EM [32] a0 P P2) → (MW P2 a0) → (0 ≤ v2_1.toInt ∧ v2_1.toInt ≤ 40) → G E ({ frames := 1, cells := 0, slots := 0, locals := 64 } : Room) D cy 2 P2 0 0 2 [(0, .ref a0), (1, .int v2_1)] [] := by
    intro n2
    induction n2 with
    | zero => intro P2 v2_1 hm2 I2 X2 W2 hv2_1; omega
    | succ n2 ih2 =>
      intro P2 v2_1 hm2 I2 X2 W2 hv2_1
      have h22063 := X2.at ha0
      refine g_iload_n C dX12_leavesNone_2 rfl 1 rfl ?_
      refine g_bipush (v := 40) C dX12_leavesNone_3 (by decide) ?_
      refine b_icmp_ge C 21 dX12_leavesNone_5 (by decide) (fun h22064 => ?_) (fun h22064 => ?_)
      · have h22064 : 40 ≤ v2_1.toInt := h22064
        exact ret _ _ _ _ _ dX12_leavesNone_21 (by decide) (by decide) ⟨I2, X2, W2⟩
      · have h22064 : v2_1.toInt < 40 := h22064
        refine g_aload_n C dX12_leavesNone_8 rfl 0 rfl ?_
        obtain ⟨b22065, e22066, h22067⟩ := I2.fld (h22063) 32 15 40 rfl
        refine g_getR C fi_X12_100 rfl e22066 (h22063).1 (h22063).2 dX12_leavesNone_9 ?_
        refine g_iload_n C dX12_leavesNone_12 rfl 1 rfl ?_
        refine g_iconst (v := 0) C dX12_leavesNone_13 (by decide) ?_
        refine g_zast (j := (v2_1.toInt.toNat)) C h22067.1 h22067.2.1 (ix_in h22067.2.2 (by omega)) (Or.inl rfl) dX12_leavesNone_14 ?_
        refine gqW (ks := [32]) (I2.setA e22066 h22067 (by decide) (arOk.none rfl)) (EM.setA I2 e22066 rfl (by decide)) (fun Y22068 Iy22069 Xy22070 w22071  => ?_)
        have w22071 : (pI Y22068 b22065 (v2_1.toInt.toNat)).toInt = 0 := w22071
        have W22072 := W2.keep I2 Xy22070 (by decide) (by decide) (by decide) (by decide)
        have Xz22073 : EM [32] a0 P Y22068 := EM.tr ha0 X2 (Xy22070.mono (by decide))
        have e22074 := Xy22070.ref h22063 (by decide) e22066
        have h22075 := Xy22070.at h22063
        have h22076 := Xy22070.ar h22067
        refine s_iinc (lv0 := [(0, .ref a0)]) (m := 1) C dX12_leavesNone_15 1 rfl (by decide) rfl (by decide) (by omega) (fun z22077 h22078 => ?_)
        have h22078 : z22077.toInt = v2_1.toInt + 1 := h22078
        refine g_goto C 2 dX12_leavesNone_18 (by decide) ?_
        refine g_lv (lv' := [(0, .ref a0), (1, .int z22077)]) [1, 0] rfl ?_
        exact ih2 Y22068 z22077 (by omega) Iy22069 Xz22073 W22072 (by omega)
  refine g_iconst (v := 0) C dX12_leavesNone_0 (by decide) ?_
  refine g_istore_n (lv' := [(1, .int 0), (0, .ref a0)]) C dX12_leavesNone_1 rfl (by decide) rfl ?_
  refine g_lv (lv' := [(0, .ref a0), (1, .int 0)]) [1, 0] rfl ?_
  exact J2 _ P 0 (Nat.lt_succ_self _) I EM.rf hW (by decide)
