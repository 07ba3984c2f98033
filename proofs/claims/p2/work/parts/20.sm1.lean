theorem dX12_agreesBy_0 : decode cX12_agreesBy 0 = .ok (.iconst 0, 1) := by decide +kernel
theorem dX12_agreesBy_1 : decode cX12_agreesBy 1 = .ok (.istore 4, 2) := by decide +kernel
theorem dX12_agreesBy_3 : decode cX12_agreesBy 3 = .ok (.iload 4, 2) := by decide +kernel
theorem dX12_agreesBy_5 : decode cX12_agreesBy 5 = .ok (.iconst 2, 1) := by decide +kernel
theorem dX12_agreesBy_6 : decode cX12_agreesBy 6 = .ok (.if_icmp .ge 121, 3) := by decide +kernel
theorem dX12_agreesBy_9 : decode cX12_agreesBy 9 = .ok (.aload_n 0, 1) := by decide +kernel
theorem dX12_agreesBy_10 : decode cX12_agreesBy 10 = .ok (.iload_n 1, 1) := by decide +kernel
theorem dX12_agreesBy_11 : decode cX12_agreesBy 11 = .ok (.iload_n 2, 1) := by decide +kernel
theorem dX12_agreesBy_12 : decode cX12_agreesBy 12 = .ok (.iload 4, 2) := by decide +kernel
theorem dX12_agreesBy_14 : decode cX12_agreesBy 14 = .ok (.aload_n 0, 1) := by decide +kernel
theorem dX12_agreesBy_15 : decode cX12_agreesBy 15 = .ok (.getfield 69, 3) := by decide +kernel
theorem dX12_agreesBy_18 : decode cX12_agreesBy 18 = .ok (.iload_n 1, 1) := by decide +kernel
theorem dX12_agreesBy_19 : decode cX12_agreesBy 19 = .ok (.iaload, 1) := by decide +kernel
theorem dX12_agreesBy_20 : decode cX12_agreesBy 20 = .ok (.invokevirtual 339, 3) := by decide +kernel
theorem dX12_gathers_0 : decode cX12_gathers 0 = .ok (.aload_n 0, 1) := by decide +kernel
theorem dX12_gathers_1 : decode cX12_gathers 1 = .ok (.iload_n 2, 1) := by decide +kernel
theorem dX12_gathers_2 : decode cX12_gathers 2 = .ok (.invokevirtual 312, 3) := by decide +kernel
theorem dX12_begins_0 : decode cX12_begins 0 = .ok (.aload_n 0, 1) := by decide +kernel
theorem dX12_begins_1 : decode cX12_begins 1 = .ok (.iconst 0, 1) := by decide +kernel
theorem dX12_begins_2 : decode cX12_begins 2 = .ok (.putfield 305, 3) := by decide +kernel
theorem dX12_begins_5 : decode cX12_begins 5 = .ok (.iconst 0, 1) := by decide +kernel
theorem dX12_begins_6 : decode cX12_begins 6 = .ok (.istore_n 2, 1) := by decide +kernel
theorem dX12_begins_7 : decode cX12_begins 7 = .ok (.iload_n 2, 1) := by decide +kernel
theorem dX12_begins_8 : decode cX12_begins 8 = .ok (.aload_n 0, 1) := by decide +kernel
theorem dX12_begins_9 : decode cX12_begins 9 = .ok (.getfield 60, 3) := by decide +kernel
theorem dX12_begins_12 : decode cX12_begins 12 = .ok (.iload_n 1, 1) := by decide +kernel
theorem dX12_begins_13 : decode cX12_begins 13 = .ok (.iaload, 1) := by decide +kernel
theorem dX12_begins_14 : decode cX12_begins 14 = .ok (.if_icmp .ge 36, 3) := by decide +kernel
theorem dX12_begins_17 : decode cX12_begins 17 = .ok (.aload_n 0, 1) := by decide +kernel
theorem dX12_begins_18 : decode cX12_begins 18 = .ok (.aload_n 0, 1) := by decide +kernel
theorem dX12_begins_19 : decode cX12_begins 19 = .ok (.getfield 63, 3) := by decide +kernel
theorem dX12_begins_22 : decode cX12_begins 22 = .ok (.iconst 4, 1) := by decide +kernel
theorem dX12_begins_23 : decode cX12_begins 23 = .ok (.iload_n 1, 1) := by decide +kernel
theorem dX12_begins_24 : decode cX12_begins 24 = .ok (.imul, 1) := by decide +kernel
theorem dX12_begins_25 : decode cX12_begins 25 = .ok (.iload_n 2, 1) := by decide +kernel
theorem dX12_begins_26 : decode cX12_begins 26 = .ok (.iadd, 1) := by decide +kernel
theorem dX12_begins_27 : decode cX12_begins 27 = .ok (.iaload, 1) := by decide +kernel
theorem dX12_begins_28 : decode cX12_begins 28 = .ok (.iconst 1, 1) := by decide +kernel
theorem dX12_begins_29 : decode cX12_begins 29 = .ok (.aload_n 0, 1) := by decide +kernel
theorem dX12_begins_30 : decode cX12_begins 30 = .ok (.getfield 45, 3) := by decide +kernel
theorem dX12_begins_33 : decode cX12_begins 33 = .ok (.iload_n 1, 1) := by decide +kernel
theorem dX12_begins_34 : decode cX12_begins 34 = .ok (.iaload, 1) := by decide +kernel
theorem dX12_begins_35 : decode cX12_begins 35 = .ok (.iload_n 2, 1) := by decide +kernel
theorem dX12_begins_36 : decode cX12_begins 36 = .ok (.iadd, 1) := by decide +kernel
theorem dX12_begins_37 : decode cX12_begins 37 = .ok (.ishl, 1) := by decide +kernel
theorem dX12_begins_38 : decode cX12_begins 38 = .ok (.ior, 1) := by decide +kernel
theorem dX12_begins_39 : decode cX12_begins 39 = .ok (.iconst 0, 1) := by decide +kernel
theorem dX12_begins_40 : decode cX12_begins 40 = .ok (.iconst (-1), 1) := by decide +kernel
theorem dX12_begins_41 : decode cX12_begins 41 = .ok (.invokevirtual 308, 3) := by decide +kernel
theorem dX12_begins_50 : decode cX12_begins 50 = .ok (.return_, 1) := by decide +kernel
theorem dX12_adds_0 : decode cX12_adds 0 = .ok (.aload_n 0, 1) := by decide +kernel
theorem dX12_adds_1 : decode cX12_adds 1 = .ok (.getfield 91, 3) := by decide +kernel
theorem dX12_adds_4 : decode cX12_adds 4 = .ok (.aload_n 0, 1) := by decide +kernel
theorem dX12_adds_5 : decode cX12_adds 5 = .ok (.getfield 305, 3) := by decide +kernel
theorem dX12_adds_8 : decode cX12_adds 8 = .ok (.iload_n 1, 1) := by decide +kernel
theorem dX12_adds_9 : decode cX12_adds 9 = .ok (.iastore, 1) := by decide +kernel
theorem dX12_adds_10 : decode cX12_adds 10 = .ok (.aload_n 0, 1) := by decide +kernel
theorem dX12_adds_11 : decode cX12_adds 11 = .ok (.getfield 94, 3) := by decide +kernel
theorem dX12_adds_14 : decode cX12_adds 14 = .ok (.aload_n 0, 1) := by decide +kernel
theorem dX12_adds_15 : decode cX12_adds 15 = .ok (.getfield 305, 3) := by decide +kernel
theorem dX12_adds_18 : decode cX12_adds 18 = .ok (.iload_n 2, 1) := by decide +kernel
theorem dX12_adds_19 : decode cX12_adds 19 = .ok (.iastore, 1) := by decide +kernel
theorem dX12_adds_20 : decode cX12_adds 20 = .ok (.aload_n 0, 1) := by decide +kernel
theorem dX12_adds_21 : decode cX12_adds 21 = .ok (.getfield 97, 3) := by decide +kernel
theorem dX12_adds_24 : decode cX12_adds 24 = .ok (.aload_n 0, 1) := by decide +kernel
theorem dX12_adds_25 : decode cX12_adds 25 = .ok (.getfield 305, 3) := by decide +kernel
theorem dX12_adds_28 : decode cX12_adds 28 = .ok (.iload_n 3, 1) := by decide +kernel
theorem dX12_adds_29 : decode cX12_adds 29 = .ok (.iastore, 1) := by decide +kernel
theorem dX12_adds_30 : decode cX12_adds 30 = .ok (.aload_n 0, 1) := by decide +kernel
theorem dX12_adds_31 : decode cX12_adds 31 = .ok (.dup, 1) := by decide +kernel
theorem dX12_adds_32 : decode cX12_adds 32 = .ok (.getfield 305, 3) := by decide +kernel
theorem dX12_adds_35 : decode cX12_adds 35 = .ok (.iconst 1, 1) := by decide +kernel
theorem dX12_adds_36 : decode cX12_adds 36 = .ok (.iadd, 1) := by decide +kernel
theorem dX12_adds_37 : decode cX12_adds 37 = .ok (.putfield 305, 3) := by decide +kernel
theorem dX12_adds_40 : decode cX12_adds 40 = .ok (.return_, 1) := by decide +kernel
set_option maxHeartbeats 4000000 in
set_option maxRecDepth 100000 in
theorem s_X12_adds {P : PP} {a0 : Nat} {a1 : Int32} {a2 : Int32} {a3 : Int32} (I : IM P a0) (hp0_28 : 0 ≤ (pI P a0 28).toInt ∧ (pI P a0 28).toInt ≤ 63) (hW : MW P a0) : CtrV yX12_adds cX12_adds 4 none ({ frames := 1, cells := 0, slots := 0, locals := 64 } : Room) 0 0 P [.ref a0, .int a1, .int a2, .int a3] (fun P2 => IM P2 a0 ∧ EM [28, 29, 30, 31] a0 P P2 ∧ MW P2 a0 ∧ ((pI P2 a0 28).toInt = (pI P a0 28).toInt + 1)) := by
  refine enV (lv := [(0, .ref a0), (1, .int a1), (2, .int a2), (3, .int a3)]) (by decide) (Nat.le_of_ble_eq_true rfl) rfl (fun E D cy C Ci0 ret => ?_)
  have ha0 := I.2.1
  refine g_aload_n C dX12_adds_0 rfl 0 rfl ?_
  obtain ⟨b88, e89, h90⟩ := I.fld (ha0) 29 13 64 rfl
  refine g_getR C fi_X12_91 rfl e89 (ha0).1 (ha0).2 dX12_adds_1 ?_
  refine g_aload_n C dX12_adds_4 rfl 0 rfl ?_
  refine g_getI C fi_X12_305 (by decide) (ha0).1 (ha0).2 dX12_adds_5 ?_
  refine g_iload_n C dX12_adds_8 rfl 1 rfl ?_
  refine g_iast (j := ((pI P a0 28).toInt.toNat)) C h90.1 h90.2.1 (ix_in h90.2.2 (by omega)) dX12_adds_9 ?_
  refine gqW (ks := [29]) (I.setA e89 h90 (by decide) (arOk.none rfl)) (EM.setA I e89 rfl (by decide)) (fun Y91 Iy92 Xy93 w94 => ?_)
  have w94 : (pI Y91 b88 ((pI P a0 28).toInt.toNat)).toInt = a1.toInt := w94
  have q95 := Xy93.keepF 28 (by decide)
  have W96 := hW.keep I Xy93 (by decide) (by decide) (by decide)
  have Xz97 : EM [28, 29, 30, 31] a0 P Y91 := Xy93.mono (by decide)
  have h98 := Xy93.at ha0
  refine g_aload_n C dX12_adds_10 rfl 0 rfl ?_
  obtain ⟨b99, e100, h101⟩ := Iy92.fld (h98) 30 13 64 rfl
  refine g_getR C fi_X12_94 rfl e100 (h98).1 (h98).2 dX12_adds_11 ?_
  refine g_aload_n C dX12_adds_14 rfl 0 rfl ?_
  refine g_getI C fi_X12_305 (by decide) (h98).1 (h98).2 dX12_adds_15 ?_
  refine g_iload_n C dX12_adds_18 rfl 2 rfl ?_
  refine g_iast (j := ((pI Y91 a0 28).toInt.toNat)) C h101.1 h101.2.1 (ix_in h101.2.2 (by omega)) dX12_adds_19 ?_
  refine gqW (ks := [30]) (Iy92.setA e100 h101 (by decide) (arOk.none rfl)) (EM.setA Iy92 e100 rfl (by decide)) (fun Y102 Iy103 Xy104 w105 => ?_)
  have w105 : (pI Y102 b99 ((pI Y91 a0 28).toInt.toNat)).toInt = a2.toInt := w105
  have q106 := Xy104.keepF 28 (by decide)
  have W107 := W96.keep Iy92 Xy104 (by decide) (by decide) (by decide)
  have Xz108 : EM [28, 29, 30, 31] a0 P Y102 := EM.tr ha0 Xz97 (Xy104.mono (by decide))
  have h109 := Xy104.at h98
  refine g_aload_n C dX12_adds_20 rfl 0 rfl ?_
  obtain ⟨b110, e111, h112⟩ := Iy103.fld (h109) 31 13 64 rfl
  refine g_getR C fi_X12_97 rfl e111 (h109).1 (h109).2 dX12_adds_21 ?_
  refine g_aload_n C dX12_adds_24 rfl 0 rfl ?_
  refine g_getI C fi_X12_305 (by decide) (h109).1 (h109).2 dX12_adds_25 ?_
  refine g_iload_n C dX12_adds_28 rfl 3 rfl ?_
  refine g_iast (j := ((pI Y102 a0 28).toInt.toNat)) C h112.1 h112.2.1 (ix_in h112.2.2 (by omega)) dX12_adds_29 ?_
  refine gqW (ks := [31]) (Iy103.setA e111 h112 (by decide) (arOk.none rfl)) (EM.setA Iy103 e111 rfl (by decide)) (fun Y113 Iy114 Xy115 w116 => ?_)
  have w116 : (pI Y113 b110 ((pI Y102 a0 28).toInt.toNat)).toInt = a3.toInt := w116
  have q117 := Xy115.keepF 28 (by decide)
  have W118 := W107.keep Iy103 Xy115 (by decide) (by decide) (by decide)
  have Xz119 : EM [28, 29, 30, 31] a0 P Y113 := EM.tr ha0 Xz108 (Xy115.mono (by decide))
  have h120 := Xy115.at h109
  refine g_aload_n C dX12_adds_30 rfl 0 rfl ?_
  refine g_dup C dX12_adds_31 rfl ?_
  refine g_getI C fi_X12_305 (by decide) (h120).1 (h120).2 dX12_adds_32 ?_
  refine g_iconst (v := 1) C dX12_adds_35 (by decide) ?_
  refine s_iadd C dX12_adds_36 (by show -2147483648 ≤ (pI Y113 a0 28).toInt + 1 ∧ (pI Y113 a0 28).toInt + 1 ≤ 2147483647; omega) (fun z121 h122 => ?_)
  have h122 : z121.toInt = (pI Y113 a0 28).toInt + 1 := h122
  refine g_putI C fi_X12_305 rfl (h120).1 (h120).2 dX12_adds_37 ?_
  refine gqW (ks := [28]) (Iy114.setI (rgOk.of rfl (by omega))) (EM.setI Iy114 (by decide)) (fun Y123 Iy124 Xy125 w126 => ?_)
  have w126 : (pI Y123 a0 28).toInt = z121.toInt := w126
  have W127 := W118.keep Iy114 Xy125 (by decide) (by decide) (by decide)
  have Xz128 : EM [28, 29, 30, 31] a0 P Y123 := EM.tr ha0 Xz119 (Xy125.mono (by decide))
  have h129 := Xy125.at h120
  exact ret _ _ _ _ _ dX12_adds_40 (by decide) (by decide) ⟨Iy124, Xz128, W127, (by show (pI Y123 a0 28).toInt = (pI P a0 28).toInt + 1; omega)⟩
theorem dX12_begins_44 : decode cX12_begins 44 = .ok (.iinc 2 1, 3) := by decide +kernel
theorem dX12_begins_47 : decode cX12_begins 47 = .ok (.goto (-40), 3) := by decide +kernel
set_option maxHeartbeats 4000000 in
set_option maxRecDepth 100000 in
theorem s_X12_begins {P : PP} {a0 : Nat} {a1 : Int32} (I : IM P a0) (ha1 : 0 ≤ a1.toInt ∧ a1.toInt ≤ 1) (hW : MW P a0) : CtrV yX12_begins cX12_begins 3 none ({ frames := 2, cells := 0, slots := 0, locals := 128 } : Room) 0 0 P [.ref a0, .int a1] (fun P2 => IM P2 a0 ∧ EM [28, 29, 30, 31] a0 P P2 ∧ MW P2 a0 ∧ ((pI P2 a0 28).toInt ≤ 4)) := by
  refine enV (lv := [(0, .ref a0), (1, .int a1)]) (by decide) (Nat.le_of_ble_eq_true rfl) rfl (fun E D cy C Ci0 ret => ?_)
  have ha0 := I.2.1
  have J7 : ∀ (n7 : Nat) (P7 : PP) (v7_2 : Int32), (4 - v7_2.toInt).toNat < n7 → (IM P7 a0) → (EM [28, 29, 30, 31] a0 P P7) → (MW P7 a0) → (0 ≤ v7_2.toInt ∧ v7_2.toInt ≤ 4) → (0 ≤ (pI P7 a0 28).toInt) → ((pI P7 a0 28).toInt ≤ v7_2.toInt) → G E ({ frames := 2, cells := 0, slots := 0, locals := 128 } : Room) D cy 3 P7 0 0 7 [(0, .ref a0), (1, .int a1), (2, .int v7_2)] [] := by
    intro n7
    induction n7 with
    | zero => intro P7 v7_2 hm7 I7 X7 W7 hv7_2 hq7_0 rel7_0; omega
    | succ n7 ih7 =>
      intro P7 v7_2 hm7 I7 X7 W7 hv7_2 hq7_0 rel7_0
      have h1490 := X7.at ha0
      refine g_iload_n C dX12_begins_7 rfl 2 rfl ?_
      refine g_aload_n C dX12_begins_8 rfl 0 rfl ?_
      obtain ⟨b1491, e1492, h1493⟩ := I7.fld (h1490) 15 13 3 rfl
      refine g_getR C fi_X12_60 rfl e1492 (h1490).1 (h1490).2 dX12_begins_9 ?_
      refine g_iload_n C dX12_begins_12 rfl 1 rfl ?_
      refine g_iald (j := (a1.toInt.toNat)) C h1493.1 h1493.2.1 (ix_in h1493.2.2 (by omega)) dX12_begins_13 ?_
      have h1494 := I7.arr e1492 rfl (a1.toInt.toNat)
      refine b_icmp_ge C 50 dX12_begins_14 (by decide) (fun h1495 => ?_) (fun h1495 => ?_)
      · have h1495 : (pI P7 b1491 (a1.toInt.toNat)).toInt ≤ v7_2.toInt := h1495
        exact ret _ _ _ _ _ dX12_begins_50 (by decide) (by decide) ⟨I7, X7, W7, (by show (pI P7 a0 28).toInt ≤ 4; omega)⟩
      · have h1495 : v7_2.toInt < (pI P7 b1491 (a1.toInt.toNat)).toInt := h1495
        refine g_aload_n C dX12_begins_17 rfl 0 rfl ?_
        refine g_aload_n C dX12_begins_18 rfl 0 rfl ?_
        obtain ⟨b1496, e1497, h1498⟩ := I7.fld (h1490) 16 13 12 rfl
        refine g_getR C fi_X12_63 rfl e1497 (h1490).1 (h1490).2 dX12_begins_19 ?_
        refine g_iconst (v := 4) C dX12_begins_22 (by decide) ?_
        refine g_iload_n C dX12_begins_23 rfl 1 rfl ?_
        refine s_imul C dX12_begins_24 (by show -2147483648 ≤ 4 * a1.toInt ∧ 4 * a1.toInt ≤ 2147483647; omega) (fun z1499 h1500 => ?_)
        have h1500 : z1499.toInt = 4 * a1.toInt := h1500
        refine g_iload_n C dX12_begins_25 rfl 2 rfl ?_
        refine s_iadd C dX12_begins_26 (by show -2147483648 ≤ z1499.toInt + v7_2.toInt ∧ z1499.toInt + v7_2.toInt ≤ 2147483647; omega) (fun z1501 h1502 => ?_)
        have h1502 : z1501.toInt = z1499.toInt + v7_2.toInt := h1502
        refine g_iald (j := (z1501.toInt.toNat)) C h1498.1 h1498.2.1 (ix_in h1498.2.2 (by omega)) dX12_begins_27 ?_
        refine g_iconst (v := 1) C dX12_begins_28 (by decide) ?_
        refine g_aload_n C dX12_begins_29 rfl 0 rfl ?_
        obtain ⟨b1503, e1504, h1505⟩ := I7.fld (h1490) 10 13 2 rfl
        refine g_getR C fi_X12_45 rfl e1504 (h1490).1 (h1490).2 dX12_begins_30 ?_
        refine g_iload_n C dX12_begins_33 rfl 1 rfl ?_
        refine g_iald (j := (a1.toInt.toNat)) C h1505.1 h1505.2.1 (ix_in h1505.2.2 (by omega)) dX12_begins_34 ?_
        have h1506 := I7.arr e1504 rfl (a1.toInt.toNat)
        refine g_iload_n C dX12_begins_35 rfl 2 rfl ?_
        refine s_iadd C dX12_begins_36 (by show -2147483648 ≤ (pI P7 b1503 (a1.toInt.toNat)).toInt + v7_2.toInt ∧ (pI P7 b1503 (a1.toInt.toNat)).toInt + v7_2.toInt ≤ 2147483647; omega) (fun z1507 h1508 => ?_)
        have h1508 : z1507.toInt = (pI P7 b1503 (a1.toInt.toNat)).toInt + v7_2.toInt := h1508
        refine a_ishl C dX12_begins_37 (fun z1509 => ?_)
        refine a_ior C dX12_begins_38 (fun z1511 => ?_)
        refine g_iconst (v := 0) C dX12_begins_39 (by decide) ?_
        refine g_iconst (v := (-1)) C dX12_begins_40 (by decide) ?_
        refine g_callVV (rest := []) C mv_X12_308 [.int z1511, .int 0, .int (-1)] (s_X12_adds I7 (by omega) W7) (h1490).1 (h1490).2 rfl rfl (by decide) (Nat.le_of_ble_eq_true rfl) (by decide) dX12_begins_41 (fun Y1514 h1515 => ?_)
        obtain ⟨Iy1516, Xy1517, W1518, p1519⟩ := h1515
        have p1519 : (pI Y1514 a0 28).toInt = (pI P7 a0 28).toInt + 1 := p1519
        have q1520 := Xy1517.keepA e1492 (by decide) rfl (a1.toInt.toNat)
        have q1521 := Xy1517.keepA e1504 (by decide) rfl (a1.toInt.toNat)
        have Xz1522 : EM [28, 29, 30, 31] a0 P Y1514 := EM.tr ha0 X7 (Xy1517.mono (by decide))
        have e1523 := Xy1517.ref h1490 (by decide) e1492
        have e1524 := Xy1517.ref h1490 (by decide) e1504
        have h1525 := Xy1517.at h1490
        have h1526 := Xy1517.ar h1493
        have h1527 := Xy1517.ar h1505
        have h1528 := Iy1516.rg h1525 28 rfl
        refine s_iinc (lv0 := [(0, .ref a0), (1, .int a1)]) (m := 1) C dX12_begins_44 2 rfl (by decide) rfl (by decide) (by omega) (fun z1529 h1530 => ?_)
        have h1530 : z1529.toInt = v7_2.toInt + 1 := h1530
        refine g_goto C 7 dX12_begins_47 (by decide) ?_
        refine g_lv (lv' := [(0, .ref a0), (1, .int a1), (2, .int z1529)]) [1, 2, 0] rfl ?_
        exact ih7 Y1514 z1529 (by omega) Iy1516 Xz1522 W1518 (by omega) (by omega) (by show (pI Y1514 a0 28).toInt ≤ z1529.toInt; omega)
  refine g_aload_n C dX12_begins_0 rfl 0 rfl ?_
  refine g_iconst (v := 0) C dX12_begins_1 (by decide) ?_
  refine g_putI C fi_X12_305 rfl (ha0).1 (ha0).2 dX12_begins_2 ?_
  refine gqW (ks := [28]) (I.setI (rgOk.of rfl (by decide))) (EM.setI I (by decide)) (fun Y1531 Iy1532 Xy1533 w1534 => ?_)
  have w1534 : (pI Y1531 a0 28).toInt = 0 := w1534
  have W1535 := hW.keep I Xy1533 (by decide) (by decide) (by decide)
  have Xz1536 : EM [28, 29, 30, 31] a0 P Y1531 := Xy1533.mono (by decide)
  have h1537 := Xy1533.at ha0
  refine g_iconst (v := 0) C dX12_begins_5 (by decide) ?_
  refine g_istore_n (lv' := [(2, .int 0), (0, .ref a0), (1, .int a1)]) C dX12_begins_6 rfl (by decide) rfl ?_
  refine g_lv (lv' := [(0, .ref a0), (1, .int a1), (2, .int 0)]) [1, 2, 0] rfl ?_
  exact J7 _ Y1531 0 (Nat.lt_succ_self _) Iy1532 Xz1536 W1535 (by decide) (by omega) (by show (pI Y1531 a0 28).toInt ≤ 0; omega)
theorem dX12_gathers_5 : decode cX12_gathers 5 = .ok (.iconst 0, 1) := by decide +kernel
theorem dX12_gathers_6 : decode cX12_gathers 6 = .ok (.istore 5, 2) := by decide +kernel
theorem dX12_gathers_8 : decode cX12_gathers 8 = .ok (.iload 5, 2) := by decide +kernel
theorem dX12_gathers_10 : decode cX12_gathers 10 = .ok (.iload 4, 2) := by decide +kernel
theorem dX12_gathers_12 : decode cX12_gathers 12 = .ok (.if_icmp .ge 83, 3) := by decide +kernel
theorem dX12_gathers_15 : decode cX12_gathers 15 = .ok (.bipush 40, 2) := by decide +kernel
theorem dX12_gathers_17 : decode cX12_gathers 17 = .ok (.iload_n 1, 1) := by decide +kernel
theorem dX12_gathers_18 : decode cX12_gathers 18 = .ok (.imul, 1) := by decide +kernel
theorem dX12_gathers_19 : decode cX12_gathers 19 = .ok (.iload 5, 2) := by decide +kernel
theorem dX12_gathers_21 : decode cX12_gathers 21 = .ok (.iadd, 1) := by decide +kernel
theorem dX12_gathers_22 : decode cX12_gathers 22 = .ok (.istore 6, 2) := by decide +kernel
theorem dX12_gathers_24 : decode cX12_gathers 24 = .ok (.aload_n 0, 1) := by decide +kernel
theorem dX12_gathers_25 : decode cX12_gathers 25 = .ok (.getfield 75, 3) := by decide +kernel
theorem dX12_gathers_28 : decode cX12_gathers 28 = .ok (.iload 6, 2) := by decide +kernel
theorem dX12_gathers_30 : decode cX12_gathers 30 = .ok (.iaload, 1) := by decide +kernel
theorem dX12_gathers_31 : decode cX12_gathers 31 = .ok (.iload_n 2, 1) := by decide +kernel
theorem dX12_gathers_32 : decode cX12_gathers 32 = .ok (.if_icmp .ne 57, 3) := by decide +kernel
theorem dX12_gathers_35 : decode cX12_gathers 35 = .ok (.aload_n 0, 1) := by decide +kernel
theorem dX12_gathers_36 : decode cX12_gathers 36 = .ok (.getfield 81, 3) := by decide +kernel
theorem dX12_gathers_39 : decode cX12_gathers 39 = .ok (.iload 6, 2) := by decide +kernel
theorem dX12_gathers_41 : decode cX12_gathers 41 = .ok (.iaload, 1) := by decide +kernel
theorem dX12_gathers_42 : decode cX12_gathers 42 = .ok (.iload_n 3, 1) := by decide +kernel
theorem dX12_gathers_43 : decode cX12_gathers 43 = .ok (.ishr, 1) := by decide +kernel
theorem dX12_gathers_44 : decode cX12_gathers 44 = .ok (.iconst 1, 1) := by decide +kernel
theorem dX12_gathers_45 : decode cX12_gathers 45 = .ok (.iand, 1) := by decide +kernel
theorem dX12_gathers_46 : decode cX12_gathers 46 = .ok (.iconst 1, 1) := by decide +kernel
theorem dX12_gathers_47 : decode cX12_gathers 47 = .ok (.if_icmp .ne 42, 3) := by decide +kernel
theorem dX12_gathers_50 : decode cX12_gathers 50 = .ok (.aload_n 0, 1) := by decide +kernel
theorem dX12_gathers_51 : decode cX12_gathers 51 = .ok (.getfield 100, 3) := by decide +kernel
theorem dX12_gathers_54 : decode cX12_gathers 54 = .ok (.iload 5, 2) := by decide +kernel
theorem dX12_gathers_56 : decode cX12_gathers 56 = .ok (.baload, 1) := by decide +kernel
theorem dX12_gathers_57 : decode cX12_gathers 57 = .ok (.ifCond .ne 32, 3) := by decide +kernel
theorem dX12_gathers_60 : decode cX12_gathers 60 = .ok (.aload_n 0, 1) := by decide +kernel
theorem dX12_gathers_61 : decode cX12_gathers 61 = .ok (.aload_n 0, 1) := by decide +kernel
theorem dX12_gathers_62 : decode cX12_gathers 62 = .ok (.iload_n 2, 1) := by decide +kernel
theorem dX12_gathers_63 : decode cX12_gathers 63 = .ok (.aload_n 0, 1) := by decide +kernel
theorem dX12_gathers_64 : decode cX12_gathers 64 = .ok (.getfield 72, 3) := by decide +kernel
theorem dX12_gathers_67 : decode cX12_gathers 67 = .ok (.iload 6, 2) := by decide +kernel
theorem dX12_gathers_69 : decode cX12_gathers 69 = .ok (.iaload, 1) := by decide +kernel
theorem dX12_gathers_70 : decode cX12_gathers 70 = .ok (.invokevirtual 261, 3) := by decide +kernel
theorem dX12_gathers_95 : decode cX12_gathers 95 = .ok (.return_, 1) := by decide +kernel
theorem dX12_setOf_0 : decode cX12_setOf 0 = .ok (.aload_n 0, 1) := by decide +kernel
theorem dX12_setOf_1 : decode cX12_setOf 1 = .ok (.iload_n 2, 1) := by decide +kernel
theorem dX12_setOf_2 : decode cX12_setOf 2 = .ok (.i2l, 1) := by decide +kernel
theorem dX12_setOf_3 : decode cX12_setOf 3 = .ok (.ldc2_w 248, 3) := by decide +kernel
theorem dX12_setOf_6 : decode cX12_setOf 6 = .ok (.lmul, 1) := by decide +kernel
theorem dX12_setOf_7 : decode cX12_setOf 7 = .ok (.iload_n 1, 1) := by decide +kernel
theorem dX12_setOf_8 : decode cX12_setOf 8 = .ok (.i2l, 1) := by decide +kernel
theorem dX12_setOf_9 : decode cX12_setOf 9 = .ok (.ldc2_w 250, 3) := by decide +kernel
theorem dX12_setOf_12 : decode cX12_setOf 12 = .ok (.lmul, 1) := by decide +kernel
theorem dX12_setOf_13 : decode cX12_setOf 13 = .ok (.ladd, 1) := by decide +kernel
theorem dX12_setOf_14 : decode cX12_setOf 14 = .ok (.lconst 1, 1) := by decide +kernel
theorem dX12_setOf_15 : decode cX12_setOf 15 = .ok (.ladd, 1) := by decide +kernel
theorem dX12_setOf_16 : decode cX12_setOf 16 = .ok (.ldc2_w 234, 3) := by decide +kernel
theorem dX12_setOf_19 : decode cX12_setOf 19 = .ok (.lrem, 1) := by decide +kernel
theorem dX12_setOf_20 : decode cX12_setOf 20 = .ok (.putfield 226, 3) := by decide +kernel
theorem dX12_setOf_23 : decode cX12_setOf 23 = .ok (.aload_n 0, 1) := by decide +kernel
theorem dX12_setOf_24 : decode cX12_setOf 24 = .ok (.iload_n 1, 1) := by decide +kernel
theorem dX12_setOf_25 : decode cX12_setOf 25 = .ok (.invokevirtual 252, 3) := by decide +kernel
theorem dX12_howMany_0 : decode cX12_howMany 0 = .ok (.iconst 0, 1) := by decide +kernel
theorem dX12_howMany_1 : decode cX12_howMany 1 = .ok (.istore_n 2, 1) := by decide +kernel
theorem dX12_howMany_2 : decode cX12_howMany 2 = .ok (.iconst 1, 1) := by decide +kernel
theorem dX12_howMany_3 : decode cX12_howMany 3 = .ok (.istore_n 3, 1) := by decide +kernel
theorem dX12_howMany_4 : decode cX12_howMany 4 = .ok (.iload_n 3, 1) := by decide +kernel
theorem dX12_howMany_5 : decode cX12_howMany 5 = .ok (.aload_n 0, 1) := by decide +kernel
theorem dX12_howMany_6 : decode cX12_howMany 6 = .ok (.iload_n 1, 1) := by decide +kernel
theorem dX12_howMany_7 : decode cX12_howMany 7 = .ok (.invokevirtual 238, 3) := by decide +kernel
theorem dX12_allOf_0 : decode cX12_allOf 0 = .ok (.aload_n 0, 1) := by decide +kernel
theorem dX12_allOf_1 : decode cX12_allOf 1 = .ok (.getfield 45, 3) := by decide +kernel
theorem dX12_allOf_4 : decode cX12_allOf 4 = .ok (.iload_n 1, 1) := by decide +kernel
theorem dX12_allOf_5 : decode cX12_allOf 5 = .ok (.iaload, 1) := by decide +kernel
theorem dX12_allOf_6 : decode cX12_allOf 6 = .ok (.ifCond .ne 7, 3) := by decide +kernel
theorem dX12_allOf_9 : decode cX12_allOf 9 = .ok (.iconst 0, 1) := by decide +kernel
theorem dX12_allOf_10 : decode cX12_allOf 10 = .ok (.goto 16, 3) := by decide +kernel
theorem dX12_allOf_13 : decode cX12_allOf 13 = .ok (.aload_n 0, 1) := by decide +kernel
theorem dX12_allOf_14 : decode cX12_allOf 14 = .ok (.getfield 45, 3) := by decide +kernel
theorem dX12_allOf_17 : decode cX12_allOf 17 = .ok (.iload_n 1, 1) := by decide +kernel
theorem dX12_allOf_18 : decode cX12_allOf 18 = .ok (.iaload, 1) := by decide +kernel
theorem dX12_allOf_19 : decode cX12_allOf 19 = .ok (.aload_n 0, 1) := by decide +kernel
theorem dX12_allOf_20 : decode cX12_allOf 20 = .ok (.getfield 60, 3) := by decide +kernel
theorem dX12_allOf_23 : decode cX12_allOf 23 = .ok (.iload_n 1, 1) := by decide +kernel
theorem dX12_allOf_24 : decode cX12_allOf 24 = .ok (.iaload, 1) := by decide +kernel
theorem dX12_allOf_25 : decode cX12_allOf 25 = .ok (.iadd, 1) := by decide +kernel
theorem dX12_allOf_26 : decode cX12_allOf 26 = .ok (.ireturn, 1) := by decide +kernel
set_option maxHeartbeats 4000000 in
set_option maxRecDepth 100000 in
theorem s_X12_allOf {P : PP} {a0 : Nat} {a1 : Int32} (I : IM P a0) (ha1 : 0 ≤ a1.toInt ∧ a1.toInt ≤ 1) (hW : MW P a0) : CtrI yX12_allOf cX12_allOf 2 (some Jvm.ClassFile.FieldType.int) ({ frames := 1, cells := 0, slots := 0, locals := 64 } : Room) 0 0 P [.ref a0, .int a1] (fun r P2 => P = P2 ∧ (0 ≤ r.toInt ∧ r.toInt ≤ 20) ∧ (∀ b c, pR P2 a0 10 = some b → pR P2 a0 15 = some c → (r.toInt = 0 ∧ (pI P2 b (a1.toInt.toNat)).toInt = 0) ∨ r.toInt = (pI P2 b (a1.toInt.toNat)).toInt + (pI P2 c (a1.toInt.toNat)).toInt)) := by
  refine enI (lv := [(0, .ref a0), (1, .int a1)]) (by decide) (Nat.le_of_ble_eq_true rfl) rfl (fun E D cy C Ci0 ret => ?_)
  have ha0 := I.2.1
  refine g_aload_n C dX12_allOf_0 rfl 0 rfl ?_
  obtain ⟨b1664, e1665, h1666⟩ := I.fld (ha0) 10 13 2 rfl
  refine g_getR C fi_X12_45 rfl e1665 (ha0).1 (ha0).2 dX12_allOf_1 ?_
  refine g_iload_n C dX12_allOf_4 rfl 1 rfl ?_
  refine g_iald (j := (a1.toInt.toNat)) C h1666.1 h1666.2.1 (ix_in h1666.2.2 (by omega)) dX12_allOf_5 ?_
  have h1667 := I.arr e1665 rfl (a1.toInt.toNat)
  refine b_if_ne C 13 dX12_allOf_6 (by decide) (fun h1668 => ?_) (fun h1668 => ?_)
  · have h1668 : (pI P b1664 (a1.toInt.toNat)).toInt ≠ 0 := ti_ne h1668
    refine g_aload_n C dX12_allOf_13 rfl 0 rfl ?_
    refine g_getR C fi_X12_45 rfl e1665 (ha0).1 (ha0).2 dX12_allOf_14 ?_
    refine g_iload_n C dX12_allOf_17 rfl 1 rfl ?_
    refine g_iald (j := (a1.toInt.toNat)) C h1666.1 h1666.2.1 (ix_in h1666.2.2 (by omega)) dX12_allOf_18 ?_
    refine g_aload_n C dX12_allOf_19 rfl 0 rfl ?_
    obtain ⟨b1669, e1670, h1671⟩ := I.fld (ha0) 15 13 3 rfl
    refine g_getR C fi_X12_60 rfl e1670 (ha0).1 (ha0).2 dX12_allOf_20 ?_
    refine g_iload_n C dX12_allOf_23 rfl 1 rfl ?_
    refine g_iald (j := (a1.toInt.toNat)) C h1671.1 h1671.2.1 (ix_in h1671.2.2 (by omega)) dX12_allOf_24 ?_
    have h1672 := I.arr e1670 rfl (a1.toInt.toNat)
    refine s_iadd C dX12_allOf_25 (by show -2147483648 ≤ (pI P b1664 (a1.toInt.toNat)).toInt + (pI P b1669 (a1.toInt.toNat)).toInt ∧ (pI P b1664 (a1.toInt.toNat)).toInt + (pI P b1669 (a1.toInt.toNat)).toInt ≤ 2147483647; omega) (fun z1673 h1674 => ?_)
    have h1674 : z1673.toInt = (pI P b1664 (a1.toInt.toNat)).toInt + (pI P b1669 (a1.toInt.toNat)).toInt := h1674
    exact ret _ _ _ _ _ _ dX12_allOf_26 rfl (by decide) (by decide) ⟨rfl, (by omega), (fun b9 c9 e9 f9 => by rw [e1665] at e9; cases e9; rw [e1670] at f9; cases f9; show (z1673.toInt = 0 ∧ (pI P b1664 (a1.toInt.toNat)).toInt = 0) ∨ z1673.toInt = (pI P b1664 (a1.toInt.toNat)).toInt + (pI P b1669 (a1.toInt.toNat)).toInt; omega)⟩
  · have h1668 : (pI P b1664 (a1.toInt.toNat)).toInt = 0 := congrArg Int32.toInt h1668
    refine g_iconst (v := 0) C dX12_allOf_9 (by decide) ?_
    refine g_goto C 26 dX12_allOf_10 (by decide) ?_
    obtain ⟨b1675, e1676, h1677⟩ := I.fld (ha0) 15 13 3 rfl
    exact ret _ _ _ _ _ _ dX12_allOf_26 rfl (by decide) (by decide) ⟨rfl, (by decide), (fun b9 c9 e9 f9 => by rw [e1665] at e9; cases e9; rw [e1676] at f9; cases f9; show ((0 : Int) = 0 ∧ (pI P b1664 (a1.toInt.toNat)).toInt = 0) ∨ (0 : Int) = (pI P b1664 (a1.toInt.toNat)).toInt + (pI P b1675 (a1.toInt.toNat)).toInt; omega)⟩
theorem dX12_howMany_10 : decode cX12_howMany 10 = .ok (.if_icmp .gt 18, 3) := by decide +kernel
theorem dX12_howMany_13 : decode cX12_howMany 13 = .ok (.iload_n 2, 1) := by decide +kernel
theorem dX12_howMany_14 : decode cX12_howMany 14 = .ok (.aload_n 0, 1) := by decide +kernel
theorem dX12_howMany_15 : decode cX12_howMany 15 = .ok (.iload_n 1, 1) := by decide +kernel
theorem dX12_howMany_16 : decode cX12_howMany 16 = .ok (.iload_n 3, 1) := by decide +kernel
theorem dX12_howMany_17 : decode cX12_howMany 17 = .ok (.invokevirtual 241, 3) := by decide +kernel
theorem dX12_howMany_28 : decode cX12_howMany 28 = .ok (.iload_n 2, 1) := by decide +kernel
theorem dX12_howMany_29 : decode cX12_howMany 29 = .ok (.ifCond .ne 5, 3) := by decide +kernel
theorem dX12_howMany_32 : decode cX12_howMany 32 = .ok (.iconst 1, 1) := by decide +kernel
theorem dX12_howMany_33 : decode cX12_howMany 33 = .ok (.ireturn, 1) := by decide +kernel
theorem dX12_oddsOf_0 : decode cX12_oddsOf 0 = .ok (.aload_n 0, 1) := by decide +kernel
theorem dX12_oddsOf_1 : decode cX12_oddsOf 1 = .ok (.getfield 51, 3) := by decide +kernel
theorem dX12_oddsOf_4 : decode cX12_oddsOf 4 = .ok (.bipush 21, 2) := by decide +kernel
theorem dX12_oddsOf_6 : decode cX12_oddsOf 6 = .ok (.iload_n 1, 1) := by decide +kernel
theorem dX12_oddsOf_7 : decode cX12_oddsOf 7 = .ok (.imul, 1) := by decide +kernel
theorem dX12_oddsOf_8 : decode cX12_oddsOf 8 = .ok (.iload_n 2, 1) := by decide +kernel
theorem dX12_oddsOf_9 : decode cX12_oddsOf 9 = .ok (.iadd, 1) := by decide +kernel
theorem dX12_oddsOf_10 : decode cX12_oddsOf 10 = .ok (.iaload, 1) := by decide +kernel
theorem dX12_oddsOf_11 : decode cX12_oddsOf 11 = .ok (.ifCond .ge 7, 3) := by decide +kernel
theorem dX12_oddsOf_14 : decode cX12_oddsOf 14 = .ok (.iconst 0, 1) := by decide +kernel
theorem dX12_oddsOf_15 : decode cX12_oddsOf 15 = .ok (.goto 14, 3) := by decide +kernel
theorem dX12_oddsOf_18 : decode cX12_oddsOf 18 = .ok (.aload_n 0, 1) := by decide +kernel
theorem dX12_oddsOf_19 : decode cX12_oddsOf 19 = .ok (.getfield 51, 3) := by decide +kernel
theorem dX12_oddsOf_22 : decode cX12_oddsOf 22 = .ok (.bipush 21, 2) := by decide +kernel
theorem dX12_oddsOf_24 : decode cX12_oddsOf 24 = .ok (.iload_n 1, 1) := by decide +kernel
theorem dX12_oddsOf_25 : decode cX12_oddsOf 25 = .ok (.imul, 1) := by decide +kernel
theorem dX12_oddsOf_26 : decode cX12_oddsOf 26 = .ok (.iload_n 2, 1) := by decide +kernel
theorem dX12_oddsOf_27 : decode cX12_oddsOf 27 = .ok (.iadd, 1) := by decide +kernel
theorem dX12_oddsOf_28 : decode cX12_oddsOf 28 = .ok (.iaload, 1) := by decide +kernel
theorem dX12_oddsOf_29 : decode cX12_oddsOf 29 = .ok (.ireturn, 1) := by decide +kernel
set_option maxHeartbeats 4000000 in
set_option maxRecDepth 100000 in
theorem s_X12_oddsOf {P : PP} {a0 : Nat} {a1 : Int32} {a2 : Int32} (I : IM P a0) (ha1 : 0 ≤ a1.toInt ∧ a1.toInt ≤ 1) (ha2 : 0 ≤ a2.toInt ∧ a2.toInt ≤ 20) (hW : MW P a0) : CtrI yX12_oddsOf cX12_oddsOf 3 (some Jvm.ClassFile.FieldType.int) ({ frames := 1, cells := 0, slots := 0, locals := 64 } : Room) 0 0 P [.ref a0, .int a1, .int a2] (fun r P2 => P = P2 ∧ (0 ≤ r.toInt ∧ r.toInt ≤ 999) ∧ (∀ b, pR P2 a0 12 = some b → r.toInt = opos (pI P2 b (21 * a1.toInt + a2.toInt).toNat))) := by
  refine enI (lv := [(0, .ref a0), (1, .int a1), (2, .int a2)]) (by decide) (Nat.le_of_ble_eq_true rfl) rfl (fun E D cy C Ci0 ret => ?_)
  have ha0 := I.2.1
  refine g_aload_n C dX12_oddsOf_0 rfl 0 rfl ?_
  obtain ⟨b1724, e1725, h1726⟩ := I.fld (ha0) 12 13 63 rfl
  refine g_getR C fi_X12_51 rfl e1725 (ha0).1 (ha0).2 dX12_oddsOf_1 ?_
  refine g_bipush (v := 21) C dX12_oddsOf_4 (by decide) ?_
  refine g_iload_n C dX12_oddsOf_6 rfl 1 rfl ?_
  refine s_imul C dX12_oddsOf_7 (by show -2147483648 ≤ 21 * a1.toInt ∧ 21 * a1.toInt ≤ 2147483647; omega) (fun z1727 h1728 => ?_)
  have h1728 : z1727.toInt = 21 * a1.toInt := h1728
  refine g_iload_n C dX12_oddsOf_8 rfl 2 rfl ?_
  refine s_iadd C dX12_oddsOf_9 (by show -2147483648 ≤ z1727.toInt + a2.toInt ∧ z1727.toInt + a2.toInt ≤ 2147483647; omega) (fun z1729 h1730 => ?_)
  have h1730 : z1729.toInt = z1727.toInt + a2.toInt := h1730
  refine g_iald (j := (z1729.toInt.toNat)) C h1726.1 h1726.2.1 (ix_in h1726.2.2 (by omega)) dX12_oddsOf_10 ?_
  have h1731 := I.arr e1725 rfl (z1729.toInt.toNat)
  refine b_if_ge C 18 dX12_oddsOf_11 (by decide) (fun h1732 => ?_) (fun h1732 => ?_)
  · have h1732 : 0 ≤ (pI P b1724 (z1729.toInt.toNat)).toInt := h1732
    refine g_aload_n C dX12_oddsOf_18 rfl 0 rfl ?_
    refine g_getR C fi_X12_51 rfl e1725 (ha0).1 (ha0).2 dX12_oddsOf_19 ?_
    refine g_bipush (v := 21) C dX12_oddsOf_22 (by decide) ?_
    refine g_iload_n C dX12_oddsOf_24 rfl 1 rfl ?_
    refine s_imul C dX12_oddsOf_25 (by show -2147483648 ≤ 21 * a1.toInt ∧ 21 * a1.toInt ≤ 2147483647; omega) (fun z1733 h1734 => ?_)
    have h1734 : z1733.toInt = 21 * a1.toInt := h1734
    refine g_iload_n C dX12_oddsOf_26 rfl 2 rfl ?_
    refine s_iadd C dX12_oddsOf_27 (by show -2147483648 ≤ z1733.toInt + a2.toInt ∧ z1733.toInt + a2.toInt ≤ 2147483647; omega) (fun z1735 h1736 => ?_)
    have h1736 : z1735.toInt = z1733.toInt + a2.toInt := h1736
    refine g_iald (j := (z1735.toInt.toNat)) C h1726.1 h1726.2.1 (ix_in h1726.2.2 (by omega)) dX12_oddsOf_28 ?_
    have h1737 := I.arr e1725 rfl (z1735.toInt.toNat)
    have hk1738 : (pI P b1724 (z1729.toInt.toNat)).toInt = (pI P b1724 (21 * a1.toInt + a2.toInt).toNat).toInt := by rw [show z1729.toInt.toNat = (21 * a1.toInt + a2.toInt).toNat by omega]
    have hk1739 : (pI P b1724 (z1735.toInt.toNat)).toInt = (pI P b1724 (21 * a1.toInt + a2.toInt).toNat).toInt := by rw [show z1735.toInt.toNat = (21 * a1.toInt + a2.toInt).toNat by omega]
    exact ret _ _ _ _ _ _ dX12_oddsOf_29 rfl (by decide) (by decide) ⟨rfl, (by omega), (fun b9 e9 => by rw [e1725] at e9; cases e9; show (pI P b1724 (z1735.toInt.toNat)).toInt = opos (pI P b1724 (21 * a1.toInt + a2.toInt).toNat); unfold opos; split <;> omega)⟩
  · have h1732 : (pI P b1724 (z1729.toInt.toNat)).toInt < 0 := h1732
    refine g_iconst (v := 0) C dX12_oddsOf_14 (by decide) ?_
    refine g_goto C 29 dX12_oddsOf_15 (by decide) ?_
    have hk1740 : (pI P b1724 (z1729.toInt.toNat)).toInt = (pI P b1724 (21 * a1.toInt + a2.toInt).toNat).toInt := by rw [show z1729.toInt.toNat = (21 * a1.toInt + a2.toInt).toNat by omega]
    exact ret _ _ _ _ _ _ dX12_oddsOf_29 rfl (by decide) (by decide) ⟨rfl, (by decide), (fun b9 e9 => by rw [e1725] at e9; cases e9; show (0 : Int) = opos (pI P b1724 (21 * a1.toInt + a2.toInt).toNat); unfold opos; split <;> omega)⟩
theorem dX12_howMany_20 : decode cX12_howMany 20 = .ok (.iadd, 1) := by decide +kernel
theorem dX12_howMany_21 : decode cX12_howMany 21 = .ok (.istore_n 2, 1) := by decide +kernel
theorem dX12_howMany_22 : decode cX12_howMany 22 = .ok (.iinc 3 1, 3) := by decide +kernel
theorem dX12_howMany_25 : decode cX12_howMany 25 = .ok (.goto (-21), 3) := by decide +kernel
theorem dX12_howMany_34 : decode cX12_howMany 34 = .ok (.aload_n 0, 1) := by decide +kernel
theorem dX12_howMany_35 : decode cX12_howMany 35 = .ok (.invokevirtual 244, 3) := by decide +kernel
theorem dX12_drawn_0 : decode cX12_drawn 0 = .ok (.aload_n 0, 1) := by decide +kernel
theorem dX12_drawn_1 : decode cX12_drawn 1 = .ok (.aload_n 0, 1) := by decide +kernel
theorem dX12_drawn_2 : decode cX12_drawn 2 = .ok (.getfield 226, 3) := by decide +kernel
theorem dX12_drawn_5 : decode cX12_drawn 5 = .ok (.ldc2_w 230, 3) := by decide +kernel
theorem dX12_drawn_8 : decode cX12_drawn 8 = .ok (.lmul, 1) := by decide +kernel
theorem dX12_drawn_9 : decode cX12_drawn 9 = .ok (.ldc2_w 232, 3) := by decide +kernel
theorem dX12_drawn_12 : decode cX12_drawn 12 = .ok (.ladd, 1) := by decide +kernel
theorem dX12_drawn_13 : decode cX12_drawn 13 = .ok (.ldc2_w 234, 3) := by decide +kernel
theorem dX12_drawn_16 : decode cX12_drawn 16 = .ok (.lrem, 1) := by decide +kernel
theorem dX12_drawn_17 : decode cX12_drawn 17 = .ok (.putfield 226, 3) := by decide +kernel
theorem dX12_drawn_20 : decode cX12_drawn 20 = .ok (.aload_n 0, 1) := by decide +kernel
theorem dX12_drawn_21 : decode cX12_drawn 21 = .ok (.getfield 226, 3) := by decide +kernel
theorem dX12_drawn_24 : decode cX12_drawn 24 = .ok (.ldc2_w 236, 3) := by decide +kernel
theorem dX12_drawn_27 : decode cX12_drawn 27 = .ok (.ldiv, 1) := by decide +kernel
theorem dX12_drawn_28 : decode cX12_drawn 28 = .ok (.l2i, 1) := by decide +kernel
theorem dX12_drawn_29 : decode cX12_drawn 29 = .ok (.ireturn, 1) := by decide +kernel
set_option maxHeartbeats 4000000 in
set_option maxRecDepth 100000 in
theorem s_X12_drawn {P : PP} {a0 : Nat} (I : IM P a0) (hW : MW P a0) : CtrI yX12_drawn cX12_drawn 1 (some Jvm.ClassFile.FieldType.int) ({ frames := 1, cells := 0, slots := 0, locals := 64 } : Room) 0 0 P [.ref a0] (fun r P2 => IM P2 a0 ∧ EM [] a0 P P2 ∧ MW P2 a0 ∧ (True)) := by
  refine enI (lv := [(0, .ref a0)]) (by decide) (Nat.le_of_ble_eq_true rfl) rfl (fun E D cy C Ci0 ret => ?_)
  have ha0 := I.2.1
  refine g_aload_n C dX12_drawn_0 rfl 0 rfl ?_
  refine g_aload_n C dX12_drawn_1 rfl 0 rfl ?_
  refine g_getJ C fi_X12_226 rfl (ha0).1 (ha0).2 dX12_drawn_2 ?_
  refine g_topl (fun l1813 _ => ?_)
  refine g_ldc2 (v := 1103515245) C kl_X12_230 dX12_drawn_5 ?_
  refine g_topl (fun l1814 el1814 => ?_)
  have hz_l1814 : ¬ l1814 = 0 := by rw [el1814]; decide
  refine a_lmul C dX12_drawn_8 (fun l1815 => ?_)
  refine g_ldc2 (v := 12345) C kl_X12_232 dX12_drawn_9 ?_
  refine g_topl (fun l1816 el1816 => ?_)
  have hz_l1816 : ¬ l1816 = 0 := by rw [el1816]; decide
  refine a_ladd C dX12_drawn_12 (fun l1817 => ?_)
  refine g_ldc2 (v := 2147483648) C kl_X12_234 dX12_drawn_13 ?_
  refine g_topl (fun l1818 el1818 => ?_)
  have hz_l1818 : ¬ l1818 = 0 := by rw [el1818]; decide
  refine a_lrem C dX12_drawn_16 hz_l1818 (fun l1819 => ?_)
  refine g_putJ C fi_X12_226 rfl (ha0).1 (ha0).2 dX12_drawn_17 ?_
  refine gq (ks := []) (I.setJ) (EM.setJ) (fun Y1820 Iy1821 Xy1822 => ?_)
  have W1823 := hW.keep I Xy1822 (by decide) (by decide) (by decide)
  have Xz1824 : EM [] a0 P Y1820 := Xy1822.mono (by decide)
  have h1825 := Xy1822.at ha0
  refine g_aload_n C dX12_drawn_20 rfl 0 rfl ?_
  refine g_getJ C fi_X12_226 rfl (h1825).1 (h1825).2 dX12_drawn_21 ?_
  refine g_topl (fun l1826 _ => ?_)
  refine g_ldc2 (v := 65536) C kl_X12_236 dX12_drawn_24 ?_
  refine g_topl (fun l1827 el1827 => ?_)
  have hz_l1827 : ¬ l1827 = 0 := by rw [el1827]; decide
  refine a_ldiv C dX12_drawn_27 hz_l1827 (fun l1828 => ?_)
  refine a_l2i C dX12_drawn_28 (fun z1829 => ?_)
  exact ret _ _ _ _ _ _ dX12_drawn_29 rfl (by decide) (by decide) ⟨Iy1821, Xz1824, W1823, trivial⟩
theorem dX12_howMany_38 : decode cX12_howMany 38 = .ok (.iload_n 2, 1) := by decide +kernel
theorem dX12_howMany_39 : decode cX12_howMany 39 = .ok (.irem, 1) := by decide +kernel
theorem dX12_howMany_40 : decode cX12_howMany 40 = .ok (.istore_n 3, 1) := by decide +kernel
theorem dX12_howMany_41 : decode cX12_howMany 41 = .ok (.iconst 1, 1) := by decide +kernel
theorem dX12_howMany_42 : decode cX12_howMany 42 = .ok (.istore 4, 2) := by decide +kernel
theorem dX12_howMany_44 : decode cX12_howMany 44 = .ok (.aload_n 0, 1) := by decide +kernel
theorem dX12_howMany_45 : decode cX12_howMany 45 = .ok (.iload_n 1, 1) := by decide +kernel
theorem dX12_howMany_46 : decode cX12_howMany 46 = .ok (.iconst 1, 1) := by decide +kernel
theorem dX12_howMany_47 : decode cX12_howMany 47 = .ok (.invokevirtual 241, 3) := by decide +kernel
theorem dX12_howMany_50 : decode cX12_howMany 50 = .ok (.istore 5, 2) := by decide +kernel
theorem dX12_howMany_52 : decode cX12_howMany 52 = .ok (.iload 5, 2) := by decide +kernel
theorem dX12_howMany_54 : decode cX12_howMany 54 = .ok (.iload_n 3, 1) := by decide +kernel
theorem dX12_howMany_55 : decode cX12_howMany 55 = .ok (.if_icmp .gt 21, 3) := by decide +kernel
theorem dX12_howMany_58 : decode cX12_howMany 58 = .ok (.iinc 4 1, 3) := by decide +kernel
theorem dX12_howMany_61 : decode cX12_howMany 61 = .ok (.iload 5, 2) := by decide +kernel
theorem dX12_howMany_63 : decode cX12_howMany 63 = .ok (.aload_n 0, 1) := by decide +kernel
theorem dX12_howMany_64 : decode cX12_howMany 64 = .ok (.iload_n 1, 1) := by decide +kernel
theorem dX12_howMany_65 : decode cX12_howMany 65 = .ok (.iload 4, 2) := by decide +kernel
theorem dX12_howMany_67 : decode cX12_howMany 67 = .ok (.invokevirtual 241, 3) := by decide +kernel
theorem dX12_howMany_70 : decode cX12_howMany 70 = .ok (.iadd, 1) := by decide +kernel
theorem dX12_howMany_71 : decode cX12_howMany 71 = .ok (.istore 5, 2) := by decide +kernel
theorem dX12_howMany_73 : decode cX12_howMany 73 = .ok (.goto (-21), 3) := by decide +kernel
theorem dX12_howMany_76 : decode cX12_howMany 76 = .ok (.iload 4, 2) := by decide +kernel
theorem dX12_howMany_78 : decode cX12_howMany 78 = .ok (.ireturn, 1) := by decide +kernel
set_option maxHeartbeats 4000000 in
set_option maxRecDepth 100000 in
theorem s_X12_howMany {P : PP} {a0 : Nat} {a1 : Int32} (I : IM P a0) (ha1 : 0 ≤ a1.toInt ∧ a1.toInt ≤ 1) (hf0 : ∀ b, pR P a0 10 = some b → 1 ≤ (pI P b (a1.toInt.toNat)).toInt ∧ (pI P b (a1.toInt.toNat)).toInt ≤ 16) (hW : MW P a0) : CtrI yX12_howMany cX12_howMany 6 (some Jvm.ClassFile.FieldType.int) ({ frames := 2, cells := 0, slots := 0, locals := 128 } : Room) 0 0 P [.ref a0, .int a1] (fun r P2 => IM P2 a0 ∧ EM [] a0 P P2 ∧ MW P2 a0 ∧ (1 ≤ r.toInt ∧ r.toInt ≤ 20) ∧ (∀ b c, pR P2 a0 10 = some b → pR P2 a0 15 = some c → r.toInt ≤ (pI P2 b (a1.toInt.toNat)).toInt + (pI P2 c (a1.toInt.toNat)).toInt)) := by
  refine enI (lv := [(0, .ref a0), (1, .int a1)]) (by decide) (Nat.le_of_ble_eq_true rfl) rfl (fun E D cy C Ci0 ret => ?_)
  have ha0 := I.2.1
  have J52 : ∀ (n52 : Nat) (P52 : PP) (v52_3 : Int32) (v52_4 : Int32) (v52_5 : Int32), (20 - v52_4.toInt).toNat < n52 → (IM P52 a0) → (EM [] a0 P P52) → (MW P52 a0) → (-19979 ≤ v52_3.toInt ∧ v52_3.toInt ≤ 19979) → (1 ≤ v52_4.toInt ∧ v52_4.toInt ≤ 20) → (0 ≤ v52_5.toInt ∧ v52_5.toInt ≤ 19980) → (∀ b, pR P52 a0 10 = some b → 1 ≤ (pI P52 b (a1.toInt.toNat)).toInt ∧ (pI P52 b (a1.toInt.toNat)).toInt ≤ 16) → (∀ b912, pR P52 a0 12 = some b912 → v52_5.toInt = oS (pI P b912) (21 * a1.toInt).toNat (v52_4.toInt : Int).toNat) → (∀ b910 b915, pR P52 a0 10 = some b910 → pR P52 a0 15 = some b915 → 1 ≤ v52_4.toInt ∧ v52_4.toInt ≤ ((pI P b910 (a1.toInt.toNat)).toInt + (pI P b915 (a1.toInt.toNat)).toInt)) → (∀ b910 b912 b915, pR P52 a0 10 = some b910 → pR P52 a0 12 = some b912 → pR P52 a0 15 = some b915 → v52_3.toInt < oS (pI P b912) (21 * a1.toInt).toNat (((pI P b910 (a1.toInt.toNat)).toInt + (pI P b915 (a1.toInt.toNat)).toInt)).toNat) → (0 ≤ v52_5.toInt ∧ v52_5.toInt ≤ 999 * v52_4.toInt) → G E ({ frames := 2, cells := 0, slots := 0, locals := 128 } : Room) D cy 6 P52 0 0 52 [(0, .ref a0), (1, .int a1), (3, .int v52_3), (4, .int v52_4), (5, .int v52_5)] [] := by
    intro n52
    induction n52 with
    | zero => intro P52 v52_3 v52_4 v52_5 hm52 I52 X52 W52 hv52_3 hv52_4 hv52_5 hq52_0 rel52_0 rel52_1 rel52_2 rel52_3; omega
    | succ n52 ih52 =>
      intro P52 v52_3 v52_4 v52_5 hm52 I52 X52 W52 hv52_3 hv52_4 hv52_5 hq52_0 rel52_0 rel52_1 rel52_2 rel52_3
      have h2731 := X52.at ha0
      obtain ⟨b2732, e2733, h2734⟩ := I52.fld (h2731) 10 13 2 rfl
      have hq52_0 := hq52_0 b2732 e2733
      obtain ⟨b2735, e2736, h2737⟩ := I52.fld (h2731) 12 13 63 rfl
      have rel52_0 := rel52_0 b2735 e2736
      obtain ⟨b2738, e2739, h2740⟩ := I52.fld (h2731) 15 13 3 rfl
      have rel52_1 := rel52_1 b2732 b2738 e2733 e2739
      have h2741 := I.arr (EM.refB X52 ha0 e2733) rfl (a1.toInt.toNat)
      have h2742 := I.arr (EM.refB X52 ha0 e2739) rfl (a1.toInt.toNat)
      have rel52_2 := rel52_2 b2732 b2735 b2738 e2733 e2736 e2739
      have h2743 := I.arr (EM.refB X52 ha0 e2733) rfl (a1.toInt.toNat)
      have h2744 := I.arr (EM.refB X52 ha0 e2739) rfl (a1.toInt.toNat)
      refine g_iload C dX12_howMany_52 4 rfl ?_
      refine g_iload_n C dX12_howMany_54 rfl 2 rfl ?_
      refine b_icmp_gt C 76 dX12_howMany_55 (by decide) (fun h2745 => ?_) (fun h2745 => ?_)
      · have h2745 : v52_3.toInt < v52_5.toInt := h2745
        refine g_iload C dX12_howMany_76 3 rfl ?_
        exact ret _ _ _ _ _ _ dX12_howMany_78 rfl (by decide) (by decide) ⟨I52, X52, W52, (by omega), (fun b9 c9 e9 f9 => by rw [e2733] at e9; cases e9; rw [e2739] at f9; cases f9; have k1 := X52.keepA (EM.refB X52 ha0 e2733) (by decide) rfl (a1.toInt.toNat); have k2 := X52.keepA (EM.refB X52 ha0 e2739) (by decide) rfl (a1.toInt.toNat); show v52_4.toInt ≤ (pI P52 b2732 (a1.toInt.toNat)).toInt + (pI P52 b2738 (a1.toInt.toNat)).toInt; omega)⟩
      · have h2745 : v52_5.toInt ≤ v52_3.toInt := h2745
        refine s_iinc (lv0 := [(0, .ref a0), (1, .int a1), (3, .int v52_3), (5, .int v52_5)]) (m := 1) C dX12_howMany_58 3 rfl (by decide) rfl (by decide) (by omega) (fun z2746 h2747 => ?_)
        have h2747 : z2746.toInt = v52_4.toInt + 1 := h2747
        have hd : v52_4.toInt ≠ (pI P b2732 (a1.toInt.toNat)).toInt + (pI P b2738 (a1.toInt.toNat)).toInt := fun h9 => by have h8 := rel52_2; rw [show ((pI P b2732 (a1.toInt.toNat)).toInt + (pI P b2738 (a1.toInt.toNat)).toInt).toNat = v52_4.toInt.toNat by omega] at h8; omega
        refine g_iload C dX12_howMany_61 4 rfl ?_
        refine g_aload_n C dX12_howMany_63 rfl 1 rfl ?_
        refine g_iload_n C dX12_howMany_64 rfl 2 rfl ?_
        refine g_iload C dX12_howMany_65 0 rfl ?_
        refine g_callVI (rest := [.int v52_5]) C mv_X12_241 [.int a1, .int z2746] (s_X12_oddsOf I52 (by omega) (by omega) W52) (h2731).1 (h2731).2 rfl rfl (by decide) (Nat.le_of_ble_eq_true rfl) (by decide) dX12_howMany_67 (fun r2748 Y2749 h2750 => ?_)
        obtain ⟨rfl, h2750⟩ := h2750
        obtain ⟨h2750, hi2751⟩ := h2750
        have hi2751 := hi2751 b2735 e2736
        rw [X52.2.2.2 12 (by decide) rfl b2735 (EM.refB X52 ha0 e2736)] at hi2751
        have hi2751 : r2748.toInt = opos (pI P b2735 (21 * a1.toInt + z2746.toInt).toNat) := hi2751
        have h2750 : 0 ≤ r2748.toInt ∧ r2748.toInt ≤ 999 := h2750
        refine s_iadd C dX12_howMany_70 (by show -2147483648 ≤ v52_5.toInt + r2748.toInt ∧ v52_5.toInt + r2748.toInt ≤ 2147483647; omega) (fun z2752 h2753 => ?_)
        have h2753 : z2752.toInt = v52_5.toInt + r2748.toInt := h2753
        refine g_istore (lv' := [(5, .int z2752), (4, .int z2746), (0, .ref a0), (1, .int a1), (3, .int v52_3)]) C dX12_howMany_71 (by decide) rfl ?_
        have st := oS_step2 (f := pI P b2735) (o := (21 * a1.toInt).toNat) (k := (21 * a1.toInt + z2746.toInt).toNat) (d := v52_4.toInt) (d2 := z2746.toInt) (by omega) (by omega) (by omega)
        refine g_goto C 52 dX12_howMany_73 (by decide) ?_
        refine g_lv (lv' := [(0, .ref a0), (1, .int a1), (3, .int v52_3), (4, .int z2746), (5, .int z2752)]) [2, 3, 4, 1, 0] rfl ?_
        exact ih52 P52 v52_3 z2746 z2752 (by omega) I52 X52 W52 (by omega) (by omega) (by omega) (fun b9 e9 => by rw [e2733] at e9; cases e9; omega) (by intro b912 e912; rw [e2736] at e912; cases e912; show z2752.toInt = oS (pI P b2735) (21 * a1.toInt).toNat (z2746.toInt : Int).toNat; omega) (by intro b910 b915 e910 e915; rw [e2733] at e910; cases e910; rw [e2739] at e915; cases e915; show 1 ≤ z2746.toInt ∧ z2746.toInt ≤ ((pI P b2732 (a1.toInt.toNat)).toInt + (pI P b2738 (a1.toInt.toNat)).toInt); omega) (by intro b910 b912 b915 e910 e912 e915; rw [e2733] at e910; cases e910; rw [e2736] at e912; cases e912; rw [e2739] at e915; cases e915; show v52_3.toInt < oS (pI P b2735) (21 * a1.toInt).toNat (((pI P b2732 (a1.toInt.toNat)).toInt + (pI P b2738 (a1.toInt.toNat)).toInt)).toNat; omega) (by show 0 ≤ z2752.toInt ∧ z2752.toInt ≤ 999 * z2746.toInt; omega)
  have J4 : ∀ (n4 : Nat) (v4_2 : Int32) (v4_3 : Int32), (21 - v4_3.toInt).toNat < n4 → (0 ≤ v4_2.toInt ∧ v4_2.toInt ≤ 19980) → (1 ≤ v4_3.toInt ∧ v4_3.toInt ≤ 21) → (∀ b, pR P a0 10 = some b → 1 ≤ (pI P b (a1.toInt.toNat)).toInt ∧ (pI P b (a1.toInt.toNat)).toInt ≤ 16) → (∀ b912, pR P a0 12 = some b912 → v4_2.toInt = oS (pI P b912) (21 * a1.toInt).toNat (v4_3.toInt - 1 : Int).toNat) → (∀ b910 b915, pR P a0 10 = some b910 → pR P a0 15 = some b915 → v4_3.toInt ≤ ((pI P b910 (a1.toInt.toNat)).toInt + (pI P b915 (a1.toInt.toNat)).toInt) + 1) → (0 ≤ v4_2.toInt ∧ v4_2.toInt ≤ 999 * (v4_3.toInt - 1)) → G E ({ frames := 2, cells := 0, slots := 0, locals := 128 } : Room) D cy 6 P 0 0 4 [(0, .ref a0), (1, .int a1), (2, .int v4_2), (3, .int v4_3)] [] := by
    intro n4
    induction n4 with
    | zero => intro v4_2 v4_3 hm4 hv4_2 hv4_3 hq4_0 rel4_0 rel4_1 rel4_2; omega
    | succ n4 ih4 =>
      intro v4_2 v4_3 hm4 hv4_2 hv4_3 hq4_0 rel4_0 rel4_1 rel4_2
      obtain ⟨b2754, e2755, h2756⟩ := I.fld (ha0) 10 13 2 rfl
      have hq4_0 := hq4_0 b2754 e2755
      obtain ⟨b2757, e2758, h2759⟩ := I.fld (ha0) 12 13 63 rfl
      have rel4_0 := rel4_0 b2757 e2758
      obtain ⟨b2760, e2761, h2762⟩ := I.fld (ha0) 15 13 3 rfl
      have rel4_1 := rel4_1 b2754 b2760 e2755 e2761
      have h2763 := I.arr e2755 rfl (a1.toInt.toNat)
      have h2764 := I.arr e2761 rfl (a1.toInt.toNat)
      refine g_iload_n C dX12_howMany_4 rfl 3 rfl ?_
      refine g_aload_n C dX12_howMany_5 rfl 0 rfl ?_
      refine g_iload_n C dX12_howMany_6 rfl 1 rfl ?_
      refine g_callVI (rest := [.int v4_3]) C mv_X12_238 [.int a1] (s_X12_allOf I (by omega) hW) (ha0).1 (ha0).2 rfl rfl (by decide) (Nat.le_of_ble_eq_true rfl) (by decide) dX12_howMany_7 (fun r2765 Y2766 h2767 => ?_)
      obtain ⟨rfl, h2767⟩ := h2767
      obtain ⟨h2767, hi2768⟩ := h2767
      have hi2768 : (r2765.toInt = 0 ∧ (pI P b2754 (a1.toInt.toNat)).toInt = 0) ∨ r2765.toInt = (pI P b2754 (a1.toInt.toNat)).toInt + (pI P b2760 (a1.toInt.toNat)).toInt := hi2768 b2754 b2760 e2755 e2761
      have h2769 := I.arr e2761 rfl (a1.toInt.toNat)
      have h2767 : 0 ≤ r2765.toInt ∧ r2765.toInt ≤ 20 := h2767
      refine b_icmp_gt C 28 dX12_howMany_10 (by decide) (fun h2770 => ?_) (fun h2770 => ?_)
      · have h2770 : r2765.toInt < v4_3.toInt := h2770
        refine g_iload_n C dX12_howMany_28 rfl 2 rfl ?_
        refine b_if_ne C 34 dX12_howMany_29 (by decide) (fun h2771 => ?_) (fun h2771 => ?_)
        · have h2771 : v4_2.toInt ≠ 0 := ti_ne h2771
          have htot : v4_2.toInt = oS (pI P b2757) (21 * a1.toInt).toNat ((pI P b2754 (a1.toInt.toNat)).toInt + (pI P b2760 (a1.toInt.toNat)).toInt).toNat := by rw [show ((pI P b2754 (a1.toInt.toNat)).toInt + (pI P b2760 (a1.toInt.toNat)).toInt).toNat = (v4_3.toInt - 1).toNat by omega]; omega
          refine g_aload_n C dX12_howMany_34 rfl 0 rfl ?_
          refine g_callVI (rest := []) C mv_X12_244 [] (s_X12_drawn I hW) (ha0).1 (ha0).2 rfl rfl (by decide) (Nat.le_of_ble_eq_true rfl) (by decide) dX12_howMany_35 (fun r2772 Y2773 h2774 => ?_)
          obtain ⟨Iy2775, Xy2776, W2777, h2774⟩ := h2774
          have q2778 := Xy2776.keepA e2755 (by decide) rfl (a1.toInt.toNat)
          have q2779 := Xy2776.keepA e2761 (by decide) rfl (a1.toInt.toNat)
          have Xz2780 : EM [] a0 P Y2773 := Xy2776.mono (by decide)
          have e2781 := Xy2776.ref ha0 (by decide) e2755
          have e2782 := Xy2776.ref ha0 (by decide) e2761
          have h2783 := Xy2776.at ha0
          have h2784 := Xy2776.ar h2756
          have h2785 := Xy2776.ar h2762
          have h2774 : True := h2774
          refine g_iload_n C dX12_howMany_38 rfl 2 rfl ?_
          refine s_irem C dX12_howMany_39 (by show 0 < v4_2.toInt; omega) (fun z2786 h2787 => ?_)
          have h2787 : -v4_2.toInt < z2786.toInt ∧ z2786.toInt < v4_2.toInt := h2787
          refine g_istore_n (lv' := [(3, .int z2786), (0, .ref a0), (1, .int a1), (2, .int v4_2)]) C dX12_howMany_40 rfl (by decide) rfl ?_
          refine g_iconst (v := 1) C dX12_howMany_41 (by decide) ?_
          refine g_istore (lv' := [(4, .int 1), (3, .int z2786), (0, .ref a0), (1, .int a1), (2, .int v4_2)]) C dX12_howMany_42 (by decide) rfl ?_
          refine g_aload_n C dX12_howMany_44 rfl 2 rfl ?_
          refine g_iload_n C dX12_howMany_45 rfl 3 rfl ?_
          refine g_iconst (v := 1) C dX12_howMany_46 (by decide) ?_
          refine g_callVI (rest := []) C mv_X12_241 [.int a1, .int 1] (s_X12_oddsOf Iy2775 (by omega) (by decide) W2777) (h2783).1 (h2783).2 rfl rfl (by decide) (Nat.le_of_ble_eq_true rfl) (by decide) dX12_howMany_47 (fun r2788 Y2789 h2790 => ?_)
          obtain ⟨rfl, h2790⟩ := h2790
          obtain ⟨h2790, hi2791⟩ := h2790
          obtain ⟨b2792, e2793, h2794⟩ := Iy2775.fld (h2783) 12 13 63 rfl
          have hi2791 := hi2791 b2792 e2793
          rw [Xz2780.2.2.2 12 (by decide) rfl b2792 (EM.refB Xz2780 ha0 e2793)] at hi2791
          have hi2791 : r2788.toInt = opos (pI P b2792 (21 * a1.toInt + 1).toNat) := hi2791
          have h2790 : 0 ≤ r2788.toInt ∧ r2788.toInt ≤ 999 := h2790
          have hb9 : b2792 = b2757 := Option.some.inj ((EM.refB Xz2780 ha0 e2793).symm.trans (e2758))
          subst hb9
          have s1 := oS_first (f := pI P b2792) (o := (21 * a1.toInt).toNat) (k := (21 * a1.toInt + 1).toNat) (by omega)
          refine g_istore (lv' := [(5, .int r2788), (4, .int 1), (3, .int z2786), (0, .ref a0), (1, .int a1), (2, .int v4_2)]) C dX12_howMany_50 (by decide) rfl ?_
          refine g_lv (lv' := [(0, .ref a0), (1, .int a1), (3, .int z2786), (4, .int 1), (5, .int r2788)]) [3, 4, 2, 1, 0] rfl ?_
          exact J52 _ Y2773 z2786 1 r2788 (Nat.lt_succ_self _) Iy2775 Xz2780 W2777 (by omega) (by decide) (by omega) (fun b9 e9 => by rw [e2781] at e9; cases e9; omega) (by intro b912 e912; rw [e2793] at e912; cases e912; show r2788.toInt = oS (pI P b2792) (21 * a1.toInt).toNat (1 : Int).toNat; omega) (by intro b910 b915 e910 e915; rw [e2781] at e910; cases e910; rw [e2782] at e915; cases e915; show 1 ≤ 1 ∧ 1 ≤ ((pI P b2754 (a1.toInt.toNat)).toInt + (pI P b2760 (a1.toInt.toNat)).toInt); omega) (by intro b910 b912 b915 e910 e912 e915; rw [e2781] at e910; cases e910; rw [e2793] at e912; cases e912; rw [e2782] at e915; cases e915; show z2786.toInt < oS (pI P b2792) (21 * a1.toInt).toNat (((pI P b2754 (a1.toInt.toNat)).toInt + (pI P b2760 (a1.toInt.toNat)).toInt)).toNat; omega) (by show 0 ≤ r2788.toInt ∧ r2788.toInt ≤ 999 * 1; omega)
        · have h2771 : v4_2.toInt = 0 := congrArg Int32.toInt h2771
          refine g_iconst (v := 1) C dX12_howMany_32 (by decide) ?_
          exact ret _ _ _ _ _ _ dX12_howMany_33 rfl (by decide) (by decide) ⟨I, EM.rf, hW, (by decide), (fun b9 c9 e9 f9 => by rw [e2755] at e9; cases e9; rw [e2761] at f9; cases f9; show (1 : Int) ≤ (pI P b2754 (a1.toInt.toNat)).toInt + (pI P b2760 (a1.toInt.toNat)).toInt; omega)⟩
      · have h2770 : v4_3.toInt ≤ r2765.toInt := h2770
        refine g_iload_n C dX12_howMany_13 rfl 2 rfl ?_
        refine g_aload_n C dX12_howMany_14 rfl 0 rfl ?_
        refine g_iload_n C dX12_howMany_15 rfl 1 rfl ?_
        refine g_iload_n C dX12_howMany_16 rfl 3 rfl ?_
        refine g_callVI (rest := [.int v4_2]) C mv_X12_241 [.int a1, .int v4_3] (s_X12_oddsOf I (by omega) (by omega) hW) (ha0).1 (ha0).2 rfl rfl (by decide) (Nat.le_of_ble_eq_true rfl) (by decide) dX12_howMany_17 (fun r2795 Y2796 h2797 => ?_)
        obtain ⟨rfl, h2797⟩ := h2797
        obtain ⟨h2797, hi2798⟩ := h2797
        have hi2798 := hi2798 b2757 e2758
        have hi2798 : r2795.toInt = opos (pI P b2757 (21 * a1.toInt + v4_3.toInt).toNat) := hi2798
        have h2797 : 0 ≤ r2795.toInt ∧ r2795.toInt ≤ 999 := h2797
        refine s_iadd C dX12_howMany_20 (by show -2147483648 ≤ v4_2.toInt + r2795.toInt ∧ v4_2.toInt + r2795.toInt ≤ 2147483647; omega) (fun z2799 h2800 => ?_)
        have h2800 : z2799.toInt = v4_2.toInt + r2795.toInt := h2800
        refine g_istore_n (lv' := [(2, .int z2799), (0, .ref a0), (1, .int a1), (3, .int v4_3)]) C dX12_howMany_21 rfl (by decide) rfl ?_
        refine s_iinc (lv0 := [(2, .int z2799), (0, .ref a0), (1, .int a1)]) (m := 1) C dX12_howMany_22 3 rfl (by decide) rfl (by decide) (by omega) (fun z2801 h2802 => ?_)
        have h2802 : z2801.toInt = v4_3.toInt + 1 := h2802
        have st := oS_step (f := pI P b2757) (o := (21 * a1.toInt).toNat) (k := (21 * a1.toInt + v4_3.toInt).toNat) (d := v4_3.toInt) (d2 := z2801.toInt) (by omega) (by omega) (by omega)
        refine g_goto C 4 dX12_howMany_25 (by decide) ?_
        refine g_lv (lv' := [(0, .ref a0), (1, .int a1), (2, .int z2799), (3, .int z2801)]) [2, 3, 1, 0] rfl ?_
        exact ih4 z2799 z2801 (by omega) (by omega) (by omega) (fun b9 e9 => by rw [e2755] at e9; cases e9; omega) (by intro b912 e912; rw [e2758] at e912; cases e912; show z2799.toInt = oS (pI P b2757) (21 * a1.toInt).toNat (z2801.toInt - 1 : Int).toNat; omega) (by intro b910 b915 e910 e915; rw [e2755] at e910; cases e910; rw [e2761] at e915; cases e915; show z2801.toInt ≤ ((pI P b2754 (a1.toInt.toNat)).toInt + (pI P b2760 (a1.toInt.toNat)).toInt) + 1; omega) (by show 0 ≤ z2799.toInt ∧ z2799.toInt ≤ 999 * (z2801.toInt - 1); omega)
  obtain ⟨b2803, e2804, h2805⟩ := I.fld (ha0) 10 13 2 rfl
  have hf0 := hf0 b2803 e2804
  have h2806 := I.arr e2804 rfl (a1.toInt.toNat)
  obtain ⟨b2807, e2808, h2809⟩ := I.fld (ha0) 15 13 3 rfl
  have h2810 := I.arr e2808 rfl (a1.toInt.toNat)
  obtain ⟨b2811, e2812, h2813⟩ := I.fld (ha0) 12 13 63 rfl
  have s0 := oS_zero (f := pI P b2811) (o := (21 * a1.toInt).toNat)
  refine g_iconst (v := 0) C dX12_howMany_0 (by decide) ?_
  refine g_istore_n (lv' := [(2, .int 0), (0, .ref a0), (1, .int a1)]) C dX12_howMany_1 rfl (by decide) rfl ?_
  refine g_iconst (v := 1) C dX12_howMany_2 (by decide) ?_
  refine g_istore_n (lv' := [(3, .int 1), (2, .int 0), (0, .ref a0), (1, .int a1)]) C dX12_howMany_3 rfl (by decide) rfl ?_
  refine g_lv (lv' := [(0, .ref a0), (1, .int a1), (2, .int 0), (3, .int 1)]) [2, 3, 1, 0] rfl ?_
  exact J4 _ 0 1 (Nat.lt_succ_self _) (by decide) (by decide) (fun b9 e9 => by rw [e2804] at e9; cases e9; omega) (by intro b912 e912; rw [e2812] at e912; cases e912; show 0 = oS (pI P b2811) (21 * a1.toInt).toNat (1 - 1 : Int).toNat; omega) (by intro b910 b915 e910 e915; rw [e2804] at e910; cases e910; rw [e2808] at e915; cases e915; show 1 ≤ ((pI P b2803 (a1.toInt.toNat)).toInt + (pI P b2807 (a1.toInt.toNat)).toInt) + 1; omega) (by show 0 ≤ 0 ∧ 0 ≤ 999 * (1 - 1); omega)
theorem dX12_setOf_28 : decode cX12_setOf 28 = .ok (.istore_n 3, 1) := by decide +kernel
theorem dX12_setOf_29 : decode cX12_setOf 29 = .ok (.iconst 0, 1) := by decide +kernel
theorem dX12_setOf_30 : decode cX12_setOf 30 = .ok (.istore 4, 2) := by decide +kernel
theorem dX12_setOf_32 : decode cX12_setOf 32 = .ok (.iconst 0, 1) := by decide +kernel
theorem dX12_setOf_33 : decode cX12_setOf 33 = .ok (.istore 5, 2) := by decide +kernel
theorem dX12_setOf_35 : decode cX12_setOf 35 = .ok (.iload 5, 2) := by decide +kernel
theorem dX12_setOf_37 : decode cX12_setOf 37 = .ok (.iload_n 3, 1) := by decide +kernel
theorem dX12_setOf_38 : decode cX12_setOf 38 = .ok (.if_icmp .ge 136, 3) := by decide +kernel
theorem dX12_setOf_41 : decode cX12_setOf 41 = .ok (.iconst 0, 1) := by decide +kernel
theorem dX12_setOf_42 : decode cX12_setOf 42 = .ok (.istore 6, 2) := by decide +kernel
theorem dX12_setOf_44 : decode cX12_setOf 44 = .ok (.iconst 0, 1) := by decide +kernel
theorem dX12_setOf_45 : decode cX12_setOf 45 = .ok (.istore 7, 2) := by decide +kernel
theorem dX12_setOf_47 : decode cX12_setOf 47 = .ok (.iload 7, 2) := by decide +kernel
theorem dX12_setOf_49 : decode cX12_setOf 49 = .ok (.aload_n 0, 1) := by decide +kernel
theorem dX12_setOf_50 : decode cX12_setOf 50 = .ok (.iload_n 1, 1) := by decide +kernel
theorem dX12_setOf_51 : decode cX12_setOf 51 = .ok (.invokevirtual 238, 3) := by decide +kernel
theorem dX12_setOf_54 : decode cX12_setOf 54 = .ok (.if_icmp .ge 35, 3) := by decide +kernel
theorem dX12_setOf_89 : decode cX12_setOf 89 = .ok (.aload_n 0, 1) := by decide +kernel
theorem dX12_setOf_90 : decode cX12_setOf 90 = .ok (.invokevirtual 244, 3) := by decide +kernel
theorem dX12_setOf_93 : decode cX12_setOf 93 = .ok (.iload 6, 2) := by decide +kernel
theorem dX12_setOf_95 : decode cX12_setOf 95 = .ok (.irem, 1) := by decide +kernel
theorem dX12_setOf_96 : decode cX12_setOf 96 = .ok (.istore 7, 2) := by decide +kernel
theorem dX12_setOf_98 : decode cX12_setOf 98 = .ok (.iconst 0, 1) := by decide +kernel
theorem dX12_setOf_99 : decode cX12_setOf 99 = .ok (.istore 8, 2) := by decide +kernel
theorem dX12_setOf_101 : decode cX12_setOf 101 = .ok (.iload 4, 2) := by decide +kernel
theorem dX12_setOf_103 : decode cX12_setOf 103 = .ok (.iconst 1, 1) := by decide +kernel
theorem dX12_setOf_104 : decode cX12_setOf 104 = .ok (.iand, 1) := by decide +kernel
theorem dX12_setOf_105 : decode cX12_setOf 105 = .ok (.ifCond .ne 12, 3) := by decide +kernel
theorem dX12_setOf_108 : decode cX12_setOf 108 = .ok (.aload_n 0, 1) := by decide +kernel
theorem dX12_setOf_109 : decode cX12_setOf 109 = .ok (.iload_n 1, 1) := by decide +kernel
theorem dX12_setOf_110 : decode cX12_setOf 110 = .ok (.iconst 0, 1) := by decide +kernel
theorem dX12_setOf_111 : decode cX12_setOf 111 = .ok (.invokevirtual 255, 3) := by decide +kernel
theorem dX12_setOf_117 : decode cX12_setOf 117 = .ok (.iconst 0, 1) := by decide +kernel
theorem dX12_weightOf_0 : decode cX12_weightOf 0 = .ok (.iload_n 2, 1) := by decide +kernel
theorem dX12_weightOf_1 : decode cX12_weightOf 1 = .ok (.aload_n 0, 1) := by decide +kernel
theorem dX12_weightOf_2 : decode cX12_weightOf 2 = .ok (.getfield 54, 3) := by decide +kernel
theorem dX12_weightOf_5 : decode cX12_weightOf 5 = .ok (.iload_n 1, 1) := by decide +kernel
theorem dX12_weightOf_6 : decode cX12_weightOf 6 = .ok (.iaload, 1) := by decide +kernel
theorem dX12_weightOf_7 : decode cX12_weightOf 7 = .ok (.if_icmp .ge 12, 3) := by decide +kernel
theorem dX12_weightOf_10 : decode cX12_weightOf 10 = .ok (.aload_n 0, 1) := by decide +kernel
theorem dX12_weightOf_11 : decode cX12_weightOf 11 = .ok (.getfield 57, 3) := by decide +kernel
theorem dX12_weightOf_14 : decode cX12_weightOf 14 = .ok (.iload_n 1, 1) := by decide +kernel
theorem dX12_weightOf_15 : decode cX12_weightOf 15 = .ok (.iaload, 1) := by decide +kernel
theorem dX12_weightOf_16 : decode cX12_weightOf 16 = .ok (.goto 4, 3) := by decide +kernel
theorem dX12_weightOf_19 : decode cX12_weightOf 19 = .ok (.iconst 1, 1) := by decide +kernel
theorem dX12_weightOf_20 : decode cX12_weightOf 20 = .ok (.ireturn, 1) := by decide +kernel
set_option maxHeartbeats 4000000 in
set_option maxRecDepth 100000 in
theorem s_X12_weightOf {P : PP} {a0 : Nat} {a1 : Int32} {a2 : Int32} (I : IM P a0) (ha1 : 0 ≤ a1.toInt ∧ a1.toInt ≤ 1) (ha2 : 0 ≤ a2.toInt ∧ a2.toInt ≤ 19) (hW : MW P a0) : CtrI yX12_weightOf cX12_weightOf 3 (some Jvm.ClassFile.FieldType.int) ({ frames := 1, cells := 0, slots := 0, locals := 64 } : Room) 0 0 P [.ref a0, .int a1, .int a2] (fun r P2 => P = P2 ∧ (0 ≤ r.toInt ∧ r.toInt ≤ 9) ∧ (∀ b c, pR P2 a0 13 = some b → pR P2 a0 14 = some c → r.toInt = wt (pI P2 b (a1.toInt.toNat)).toInt (pI P2 c (a1.toInt.toNat)).toInt a2.toInt.toNat)) := by
  refine enI (lv := [(0, .ref a0), (1, .int a1), (2, .int a2)]) (by decide) (Nat.le_of_ble_eq_true rfl) rfl (fun E D cy C Ci0 ret => ?_)
  have ha0 := I.2.1
  refine g_iload_n C dX12_weightOf_0 rfl 2 rfl ?_
  refine g_aload_n C dX12_weightOf_1 rfl 0 rfl ?_
  obtain ⟨b2963, e2964, h2965⟩ := I.fld (ha0) 13 13 3 rfl
  refine g_getR C fi_X12_54 rfl e2964 (ha0).1 (ha0).2 dX12_weightOf_2 ?_
  refine g_iload_n C dX12_weightOf_5 rfl 1 rfl ?_
  refine g_iald (j := (a1.toInt.toNat)) C h2965.1 h2965.2.1 (ix_in h2965.2.2 (by omega)) dX12_weightOf_6 ?_
  have u2967 := ti_rng (pI P b2963 (a1.toInt.toNat))
  refine b_icmp_ge C 19 dX12_weightOf_7 (by decide) (fun h2966 => ?_) (fun h2966 => ?_)
  · have h2966 : (pI P b2963 (a1.toInt.toNat)).toInt ≤ a2.toInt := h2966
    refine g_iconst (v := 1) C dX12_weightOf_19 (by decide) ?_
    obtain ⟨b2968, e2969, h2970⟩ := I.fld (ha0) 14 13 3 rfl
    exact ret _ _ _ _ _ _ dX12_weightOf_20 rfl (by decide) (by decide) ⟨rfl, (by decide), (fun b9 c9 e9 f9 => by rw [e2964] at e9; cases e9; rw [e2969] at f9; cases f9; show (1 : Int) = wt (pI P b2963 (a1.toInt.toNat)).toInt (pI P b2968 (a1.toInt.toNat)).toInt a2.toInt.toNat; unfold wt; split <;> omega)⟩
  · have h2966 : a2.toInt < (pI P b2963 (a1.toInt.toNat)).toInt := h2966
    refine g_aload_n C dX12_weightOf_10 rfl 0 rfl ?_
    obtain ⟨b2971, e2972, h2973⟩ := I.fld (ha0) 14 13 3 rfl
    refine g_getR C fi_X12_57 rfl e2972 (ha0).1 (ha0).2 dX12_weightOf_11 ?_
    refine g_iload_n C dX12_weightOf_14 rfl 1 rfl ?_
    refine g_iald (j := (a1.toInt.toNat)) C h2973.1 h2973.2.1 (ix_in h2973.2.2 (by omega)) dX12_weightOf_15 ?_
    have h2974 := I.arr e2972 rfl (a1.toInt.toNat)
    refine g_goto C 20 dX12_weightOf_16 (by decide) ?_
    exact ret _ _ _ _ _ _ dX12_weightOf_20 rfl (by decide) (by decide) ⟨rfl, (by omega), (fun b9 c9 e9 f9 => by rw [e2964] at e9; cases e9; rw [e2972] at f9; cases f9; show (pI P b2971 (a1.toInt.toNat)).toInt = wt (pI P b2963 (a1.toInt.toNat)).toInt (pI P b2971 (a1.toInt.toNat)).toInt a2.toInt.toNat; unfold wt; split <;> omega)⟩
theorem dX12_setOf_57 : decode cX12_setOf 57 = .ok (.iload 6, 2) := by decide +kernel
theorem dX12_setOf_59 : decode cX12_setOf 59 = .ok (.iload 4, 2) := by decide +kernel
theorem dX12_setOf_61 : decode cX12_setOf 61 = .ok (.iload 7, 2) := by decide +kernel
theorem dX12_setOf_63 : decode cX12_setOf 63 = .ok (.ishr, 1) := by decide +kernel
theorem dX12_setOf_64 : decode cX12_setOf 64 = .ok (.iconst 1, 1) := by decide +kernel
theorem dX12_setOf_65 : decode cX12_setOf 65 = .ok (.iand, 1) := by decide +kernel
theorem dX12_setOf_66 : decode cX12_setOf 66 = .ok (.ifCond .ne 13, 3) := by decide +kernel
theorem dX12_setOf_69 : decode cX12_setOf 69 = .ok (.aload_n 0, 1) := by decide +kernel
theorem dX12_setOf_70 : decode cX12_setOf 70 = .ok (.iload_n 1, 1) := by decide +kernel
theorem dX12_setOf_71 : decode cX12_setOf 71 = .ok (.iload 7, 2) := by decide +kernel
theorem dX12_setOf_73 : decode cX12_setOf 73 = .ok (.invokevirtual 255, 3) := by decide +kernel
theorem dX12_setOf_76 : decode cX12_setOf 76 = .ok (.goto 4, 3) := by decide +kernel
theorem dX12_setOf_79 : decode cX12_setOf 79 = .ok (.iconst 0, 1) := by decide +kernel
theorem dX12_setOf_80 : decode cX12_setOf 80 = .ok (.iadd, 1) := by decide +kernel
theorem dX12_setOf_81 : decode cX12_setOf 81 = .ok (.istore 6, 2) := by decide +kernel
theorem dX12_setOf_83 : decode cX12_setOf 83 = .ok (.iinc 7 1, 3) := by decide +kernel
theorem dX12_setOf_86 : decode cX12_setOf 86 = .ok (.goto (-39), 3) := by decide +kernel
theorem dX12_setOf_114 : decode cX12_setOf 114 = .ok (.goto 4, 3) := by decide +kernel
theorem dX12_setOf_118 : decode cX12_setOf 118 = .ok (.istore 9, 2) := by decide +kernel
theorem dX12_setOf_120 : decode cX12_setOf 120 = .ok (.iload 9, 2) := by decide +kernel
theorem dX12_setOf_122 : decode cX12_setOf 122 = .ok (.iload 7, 2) := by decide +kernel
theorem dX12_setOf_124 : decode cX12_setOf 124 = .ok (.if_icmp .gt 35, 3) := by decide +kernel
theorem dX12_setOf_127 : decode cX12_setOf 127 = .ok (.iinc 8 1, 3) := by decide +kernel
theorem dX12_setOf_130 : decode cX12_setOf 130 = .ok (.iload 9, 2) := by decide +kernel
theorem dX12_setOf_132 : decode cX12_setOf 132 = .ok (.iload 4, 2) := by decide +kernel
theorem dX12_setOf_134 : decode cX12_setOf 134 = .ok (.iload 8, 2) := by decide +kernel
theorem dX12_setOf_136 : decode cX12_setOf 136 = .ok (.ishr, 1) := by decide +kernel
theorem dX12_setOf_137 : decode cX12_setOf 137 = .ok (.iconst 1, 1) := by decide +kernel
theorem dX12_setOf_138 : decode cX12_setOf 138 = .ok (.iand, 1) := by decide +kernel
theorem dX12_setOf_139 : decode cX12_setOf 139 = .ok (.ifCond .ne 13, 3) := by decide +kernel
theorem dX12_setOf_142 : decode cX12_setOf 142 = .ok (.aload_n 0, 1) := by decide +kernel
theorem dX12_setOf_143 : decode cX12_setOf 143 = .ok (.iload_n 1, 1) := by decide +kernel
theorem dX12_setOf_144 : decode cX12_setOf 144 = .ok (.iload 8, 2) := by decide +kernel
theorem dX12_setOf_146 : decode cX12_setOf 146 = .ok (.invokevirtual 255, 3) := by decide +kernel
theorem dX12_setOf_149 : decode cX12_setOf 149 = .ok (.goto 4, 3) := by decide +kernel
theorem dX12_setOf_152 : decode cX12_setOf 152 = .ok (.iconst 0, 1) := by decide +kernel
theorem dX12_setOf_153 : decode cX12_setOf 153 = .ok (.iadd, 1) := by decide +kernel
theorem dX12_setOf_154 : decode cX12_setOf 154 = .ok (.istore 9, 2) := by decide +kernel
theorem dX12_setOf_156 : decode cX12_setOf 156 = .ok (.goto (-36), 3) := by decide +kernel
theorem dX12_setOf_159 : decode cX12_setOf 159 = .ok (.iload 4, 2) := by decide +kernel
theorem dX12_setOf_161 : decode cX12_setOf 161 = .ok (.iconst 1, 1) := by decide +kernel
theorem dX12_setOf_162 : decode cX12_setOf 162 = .ok (.iload 8, 2) := by decide +kernel
theorem dX12_setOf_164 : decode cX12_setOf 164 = .ok (.ishl, 1) := by decide +kernel
theorem dX12_setOf_165 : decode cX12_setOf 165 = .ok (.ior, 1) := by decide +kernel
theorem dX12_setOf_166 : decode cX12_setOf 166 = .ok (.istore 4, 2) := by decide +kernel
theorem dX12_setOf_168 : decode cX12_setOf 168 = .ok (.iinc 5 1, 3) := by decide +kernel
theorem dX12_setOf_171 : decode cX12_setOf 171 = .ok (.goto (-136), 3) := by decide +kernel
theorem dX12_setOf_174 : decode cX12_setOf 174 = .ok (.iload 4, 2) := by decide +kernel
theorem dX12_setOf_176 : decode cX12_setOf 176 = .ok (.ireturn, 1) := by decide +kernel
set_option maxHeartbeats 4000000 in
set_option maxRecDepth 100000 in
theorem s_X12_setOf {P : PP} {a0 : Nat} {a1 : Int32} {a2 : Int32} (I : IM P a0) (ha1 : 0 ≤ a1.toInt ∧ a1.toInt ≤ 1) (hf0 : ∀ b, pR P a0 10 = some b → 1 ≤ (pI P b (a1.toInt.toNat)).toInt ∧ (pI P b (a1.toInt.toNat)).toInt ≤ 16) (hW : MW P a0) : CtrI yX12_setOf cX12_setOf 10 (some Jvm.ClassFile.FieldType.int) ({ frames := 3, cells := 0, slots := 0, locals := 192 } : Room) 0 0 P [.ref a0, .int a1, .int a2] (fun r P2 => IM P2 a0 ∧ EM [] a0 P P2 ∧ MW P2 a0 ∧ (True)) := by
  refine enI (lv := [(0, .ref a0), (1, .int a1), (2, .int a2)]) (by decide) (Nat.le_of_ble_eq_true rfl) rfl (fun E D cy C Ci0 ret => ?_)
  have ha0 := I.2.1
  have J35 : ∀ (n35 : Nat) (P35 : PP) (v35_3 : Int32) (v35_4 : Int32) (v35_5 : Int32), (20 - v35_5.toInt).toNat < n35 → (IM P35 a0) → (EM [] a0 P P35) → (MW P35 a0) → (1 ≤ v35_3.toInt ∧ v35_3.toInt ≤ 20) → (0 ≤ v35_5.toInt ∧ v35_5.toInt ≤ 20) → (∀ b, pR P35 a0 10 = some b → 1 ≤ (pI P35 b (a1.toInt.toNat)).toInt ∧ (pI P35 b (a1.toInt.toNat)).toInt ≤ 16) → (cB v35_4 20 ≤ v35_5.toInt) → (0 ≤ v35_5.toInt) → (∀ b910 b915, pR P35 a0 10 = some b910 → pR P35 a0 15 = some b915 → v35_3.toInt ≤ ((pI P b910 (a1.toInt.toNat)).toInt + (pI P b915 (a1.toInt.toNat)).toInt)) → G E ({ frames := 3, cells := 0, slots := 0, locals := 192 } : Room) D cy 10 P35 0 0 35 [(0, .ref a0), (1, .int a1), (3, .int v35_3), (4, .int v35_4), (5, .int v35_5)] [] := by
    intro n35
    induction n35 with
    | zero => intro P35 v35_3 v35_4 v35_5 hm35 I35 X35 W35 hv35_3 hv35_5 hq35_0 rel35_0 rel35_1 rel35_2; omega
    | succ n35 ih35 =>
      intro P35 v35_3 v35_4 v35_5 hm35 I35 X35 W35 hv35_3 hv35_5 hq35_0 rel35_0 rel35_1 rel35_2
      have h6899 := X35.at ha0
      obtain ⟨b6900, e6901, h6902⟩ := I35.fld (h6899) 10 13 2 rfl
      have hq35_0 := hq35_0 b6900 e6901
      obtain ⟨b6903, e6904, h6905⟩ := I35.fld (h6899) 15 13 3 rfl
      have rel35_2 := rel35_2 b6900 b6903 e6901 e6904
      have h6906 := I.arr (EM.refB X35 ha0 e6901) rfl (a1.toInt.toNat)
      have h6907 := I.arr (EM.refB X35 ha0 e6904) rfl (a1.toInt.toNat)
      have J120 : ∀ (n120 : Nat) (P120 : PP) (v120_7 : Int32) (v120_8 : Int32) (v120_9 : Int32), (20 - v120_8.toInt).toNat < n120 → (IM P120 a0) → (EM [] a0 P P120) → (MW P120 a0) → (0 ≤ v35_5.toInt ∧ v35_5.toInt ≤ 19) → (-179 ≤ v120_7.toInt ∧ v120_7.toInt ≤ 179) → (0 ≤ v120_8.toInt ∧ v120_8.toInt ≤ 19) → (0 ≤ v120_9.toInt ∧ v120_9.toInt ≤ 180) → (∀ b, pR P120 a0 10 = some b → 1 ≤ (pI P120 b (a1.toInt.toNat)).toInt ∧ (pI P120 b (a1.toInt.toNat)).toInt ≤ 16) → (∀ b913 b914, pR P120 a0 13 = some b913 → pR P120 a0 14 = some b914 → v120_9.toInt = cS v35_4 (pI P b913 (a1.toInt.toNat)).toInt (pI P b914 (a1.toInt.toNat)).toInt (v120_8.toInt + 1 : Int).toNat) → (∀ b910 b915, pR P120 a0 10 = some b910 → pR P120 a0 15 = some b915 → 0 ≤ v120_8.toInt ∧ v120_8.toInt < ((pI P b910 (a1.toInt.toNat)).toInt + (pI P b915 (a1.toInt.toNat)).toInt)) → (∀ b910 b913 b914 b915, pR P120 a0 10 = some b910 → pR P120 a0 13 = some b913 → pR P120 a0 14 = some b914 → pR P120 a0 15 = some b915 → v120_7.toInt < cS v35_4 (pI P b913 (a1.toInt.toNat)).toInt (pI P b914 (a1.toInt.toNat)).toInt (((pI P b910 (a1.toInt.toNat)).toInt + (pI P b915 (a1.toInt.toNat)).toInt) : Int).toNat) → (0 ≤ v120_9.toInt ∧ v120_9.toInt ≤ 9 * (v120_8.toInt + 1)) → (∀ b910 b915, pR P120 a0 10 = some b910 → pR P120 a0 15 = some b915 → v35_3.toInt ≤ ((pI P b910 (a1.toInt.toNat)).toInt + (pI P b915 (a1.toInt.toNat)).toInt)) → (v35_5.toInt < v35_3.toInt) → G E ({ frames := 3, cells := 0, slots := 0, locals := 192 } : Room) D cy 10 P120 0 0 120 [(0, .ref a0), (1, .int a1), (3, .int v35_3), (4, .int v35_4), (5, .int v35_5), (7, .int v120_7), (8, .int v120_8), (9, .int v120_9)] [] := by
        intro n120
        induction n120 with
        | zero => intro P120 v120_7 v120_8 v120_9 hm120 I120 X120 W120 hv120_5 hv120_7 hv120_8 hv120_9 hq120_0 rel120_0 rel120_1 rel120_2 rel120_3 rel120_4 rel120_5; omega
        | succ n120 ih120 =>
          intro P120 v120_7 v120_8 v120_9 hm120 I120 X120 W120 hv120_5 hv120_7 hv120_8 hv120_9 hq120_0 rel120_0 rel120_1 rel120_2 rel120_3 rel120_4 rel120_5
          have h6908 := X120.at ha0
          obtain ⟨b6909, e6910, h6911⟩ := I120.fld (h6908) 10 13 2 rfl
          have hq120_0 := hq120_0 b6909 e6910
          obtain ⟨b6912, e6913, h6914⟩ := I120.fld (h6908) 13 13 3 rfl
          obtain ⟨b6915, e6916, h6917⟩ := I120.fld (h6908) 14 13 3 rfl
          have rel120_0 := rel120_0 b6912 b6915 e6913 e6916
          have h6918 := I.arr (EM.refB X120 ha0 e6916) rfl (a1.toInt.toNat)
          obtain ⟨b6919, e6920, h6921⟩ := I120.fld (h6908) 15 13 3 rfl
          have rel120_1 := rel120_1 b6909 b6919 e6910 e6920
          have h6922 := I.arr (EM.refB X120 ha0 e6910) rfl (a1.toInt.toNat)
          have h6923 := I.arr (EM.refB X120 ha0 e6920) rfl (a1.toInt.toNat)
          have rel120_2 := rel120_2 b6909 b6912 b6915 b6919 e6910 e6913 e6916 e6920
          have h6924 := I.arr (EM.refB X120 ha0 e6916) rfl (a1.toInt.toNat)
          have h6925 := I.arr (EM.refB X120 ha0 e6910) rfl (a1.toInt.toNat)
          have h6926 := I.arr (EM.refB X120 ha0 e6920) rfl (a1.toInt.toNat)
          have rel120_4 := rel120_4 b6909 b6919 e6910 e6920
          have h6927 := I.arr (EM.refB X120 ha0 e6910) rfl (a1.toInt.toNat)
          have h6928 := I.arr (EM.refB X120 ha0 e6920) rfl (a1.toInt.toNat)
          have J153 : ∀ (v153_8 : Int32) (v153_s0 : Int32), (0 ≤ v35_5.toInt ∧ v35_5.toInt ≤ 19) → (0 ≤ v120_7.toInt ∧ v120_7.toInt ≤ 179) → (1 ≤ v153_8.toInt ∧ v153_8.toInt ≤ 19) → (0 ≤ v153_s0.toInt ∧ v153_s0.toInt ≤ 9) → (0 ≤ v120_9.toInt ∧ v120_9.toInt ≤ 179) → (∀ b, pR P120 a0 10 = some b → 1 ≤ (pI P120 b (a1.toInt.toNat)).toInt ∧ (pI P120 b (a1.toInt.toNat)).toInt ≤ 16) → (∀ b913 b914, pR P120 a0 13 = some b913 → pR P120 a0 14 = some b914 → v120_9.toInt = cS v35_4 (pI P b913 (a1.toInt.toNat)).toInt (pI P b914 (a1.toInt.toNat)).toInt (v153_8.toInt : Int).toNat) → (∀ b913 b914, pR P120 a0 13 = some b913 → pR P120 a0 14 = some b914 → v153_s0.toInt = fS v35_4 (pI P b913 (a1.toInt.toNat)).toInt (pI P b914 (a1.toInt.toNat)).toInt (v153_8.toInt : Int).toNat) → (∀ b910 b915, pR P120 a0 10 = some b910 → pR P120 a0 15 = some b915 → 0 ≤ v153_8.toInt ∧ v153_8.toInt < ((pI P b910 (a1.toInt.toNat)).toInt + (pI P b915 (a1.toInt.toNat)).toInt)) → (∀ b910 b913 b914 b915, pR P120 a0 10 = some b910 → pR P120 a0 13 = some b913 → pR P120 a0 14 = some b914 → pR P120 a0 15 = some b915 → v120_7.toInt < cS v35_4 (pI P b913 (a1.toInt.toNat)).toInt (pI P b914 (a1.toInt.toNat)).toInt (((pI P b910 (a1.toInt.toNat)).toInt + (pI P b915 (a1.toInt.toNat)).toInt) : Int).toNat) → (0 ≤ v120_9.toInt ∧ v120_9.toInt ≤ 9 * v153_8.toInt) → (v153_8.toInt = v120_8.toInt + 1) → (∀ b910 b915, pR P120 a0 10 = some b910 → pR P120 a0 15 = some b915 → v35_3.toInt ≤ ((pI P b910 (a1.toInt.toNat)).toInt + (pI P b915 (a1.toInt.toNat)).toInt)) → (v35_5.toInt < v35_3.toInt) → G E ({ frames := 3, cells := 0, slots := 0, locals := 192 } : Room) D cy 10 P120 0 0 153 [(0, .ref a0), (1, .int a1), (3, .int v35_3), (4, .int v35_4), (5, .int v35_5), (7, .int v120_7), (8, .int v153_8)] [.int v153_s0, .int v120_9] := by
            intro v153_8 v153_s0 hv153_5 hv153_7 hv153_8 hv153_s0 hv153_s1 hq153_0 rel153_0 rel153_1 rel153_2 rel153_3 rel153_4 rel153_5 rel153_6 rel153_7
            have h6929 := X120.at ha0
            obtain ⟨b6930, e6931, h6932⟩ := I120.fld (h6929) 10 13 2 rfl
            have hq153_0 := hq153_0 b6930 e6931
            obtain ⟨b6933, e6934, h6935⟩ := I120.fld (h6929) 13 13 3 rfl
            obtain ⟨b6936, e6937, h6938⟩ := I120.fld (h6929) 14 13 3 rfl
            have rel153_0 := rel153_0 b6933 b6936 e6934 e6937
            have h6939 := I.arr (EM.refB X120 ha0 e6937) rfl (a1.toInt.toNat)
            have rel153_1 := rel153_1 b6933 b6936 e6934 e6937
            have h6940 := I.arr (EM.refB X120 ha0 e6937) rfl (a1.toInt.toNat)
            obtain ⟨b6941, e6942, h6943⟩ := I120.fld (h6929) 15 13 3 rfl
            have rel153_2 := rel153_2 b6930 b6941 e6931 e6942
            have h6944 := I.arr (EM.refB X120 ha0 e6931) rfl (a1.toInt.toNat)
            have h6945 := I.arr (EM.refB X120 ha0 e6942) rfl (a1.toInt.toNat)
            have rel153_3 := rel153_3 b6930 b6933 b6936 b6941 e6931 e6934 e6937 e6942
            have h6946 := I.arr (EM.refB X120 ha0 e6937) rfl (a1.toInt.toNat)
            have h6947 := I.arr (EM.refB X120 ha0 e6931) rfl (a1.toInt.toNat)
            have h6948 := I.arr (EM.refB X120 ha0 e6942) rfl (a1.toInt.toNat)
            have rel153_6 := rel153_6 b6930 b6941 e6931 e6942
            have h6949 := I.arr (EM.refB X120 ha0 e6931) rfl (a1.toInt.toNat)
            have h6950 := I.arr (EM.refB X120 ha0 e6942) rfl (a1.toInt.toNat)
            have hc := hW.1 b6930 b6936 (EM.refB X120 ha0 (e6931)) (EM.refB X120 ha0 (e6937)) (a1.toInt.toNat) (by omega) (by have h9 := hf0 _ (EM.refB X120 ha0 (e6931)); omega)
            have h6951 := I.arr (EM.refB X120 ha0 (e6931)) rfl (a1.toInt.toNat)
            have h6952 := I.arr (EM.refB X120 ha0 (e6937)) rfl (a1.toInt.toNat)
            have h6953 := I.arr (EM.refB X120 ha0 (e6942)) rfl (a1.toInt.toNat)
            have q6954 := X120.keepA (EM.refB X120 ha0 (e6931)) (by decide) rfl (a1.toInt.toNat)
            have q6955 := X120.keepA (EM.refB X120 ha0 (e6937)) (by decide) rfl (a1.toInt.toNat)
            have q6956 := X120.keepA (EM.refB X120 ha0 (e6942)) (by decide) rfl (a1.toInt.toNat)
            refine s_iadd C dX12_setOf_153 (by show -2147483648 ≤ v120_9.toInt + v153_s0.toInt ∧ v120_9.toInt + v153_s0.toInt ≤ 2147483647; omega) (fun z6957 h6958 => ?_)
            have h6958 : z6957.toInt = v120_9.toInt + v153_s0.toInt := h6958
            refine g_istore (lv' := [(9, .int z6957), (0, .ref a0), (1, .int a1), (3, .int v35_3), (4, .int v35_4), (5, .int v35_5), (7, .int v120_7), (8, .int v153_8)]) C dX12_setOf_154 (by decide) rfl ?_
            have st := cS_step (s := v35_4) (a := (pI P b6933 (a1.toInt.toNat)).toInt) (c := (pI P b6936 (a1.toInt.toNat)).toInt) (d := v153_8.toInt) (d2 := v153_8.toInt + 1) (by omega) (by omega)
            refine g_goto C 120 dX12_setOf_156 (by decide) ?_
            refine g_lv (lv' := [(0, .ref a0), (1, .int a1), (3, .int v35_3), (4, .int v35_4), (5, .int v35_5), (7, .int v120_7), (8, .int v153_8), (9, .int z6957)]) [1, 2, 3, 4, 5, 6, 7, 0] rfl ?_
            exact ih120 P120 v120_7 v153_8 z6957 (by omega) I120 X120 W120 (by omega) (by omega) (by omega) (by omega) (fun b9 e9 => by rw [e6931] at e9; cases e9; omega) (by intro b913 b914 e913 e914; rw [e6934] at e913; cases e913; rw [e6937] at e914; cases e914; show z6957.toInt = cS v35_4 (pI P b6933 (a1.toInt.toNat)).toInt (pI P b6936 (a1.toInt.toNat)).toInt (v153_8.toInt + 1 : Int).toNat; omega) (by intro b910 b915 e910 e915; rw [e6931] at e910; cases e910; rw [e6942] at e915; cases e915; show 0 ≤ v153_8.toInt ∧ v153_8.toInt < ((pI P b6930 (a1.toInt.toNat)).toInt + (pI P b6941 (a1.toInt.toNat)).toInt); omega) (by intro b910 b913 b914 b915 e910 e913 e914 e915; rw [e6931] at e910; cases e910; rw [e6934] at e913; cases e913; rw [e6937] at e914; cases e914; rw [e6942] at e915; cases e915; show v120_7.toInt < cS v35_4 (pI P b6933 (a1.toInt.toNat)).toInt (pI P b6936 (a1.toInt.toNat)).toInt (((pI P b6930 (a1.toInt.toNat)).toInt + (pI P b6941 (a1.toInt.toNat)).toInt) : Int).toNat; omega) (by show 0 ≤ z6957.toInt ∧ z6957.toInt ≤ 9 * (v153_8.toInt + 1); omega) (by intro b910 b915 e910 e915; rw [e6931] at e910; cases e910; rw [e6942] at e915; cases e915; show v35_3.toInt ≤ ((pI P b6930 (a1.toInt.toNat)).toInt + (pI P b6941 (a1.toInt.toNat)).toInt); omega) (by show v35_5.toInt < v35_3.toInt; omega)
          have hc := hW.1 b6909 b6915 (EM.refB X120 ha0 (e6910)) (EM.refB X120 ha0 (e6916)) (a1.toInt.toNat) (by omega) (by have h9 := hf0 _ (EM.refB X120 ha0 (e6910)); omega)
          have h6959 := I.arr (EM.refB X120 ha0 (e6910)) rfl (a1.toInt.toNat)
          have h6960 := I.arr (EM.refB X120 ha0 (e6916)) rfl (a1.toInt.toNat)
          have h6961 := I.arr (EM.refB X120 ha0 (e6920)) rfl (a1.toInt.toNat)
          have q6962 := X120.keepA (EM.refB X120 ha0 (e6910)) (by decide) rfl (a1.toInt.toNat)
          have q6963 := X120.keepA (EM.refB X120 ha0 (e6916)) (by decide) rfl (a1.toInt.toNat)
          have q6964 := X120.keepA (EM.refB X120 ha0 (e6920)) (by decide) rfl (a1.toInt.toNat)
          refine g_iload C dX12_setOf_120 7 rfl ?_
          refine g_iload C dX12_setOf_122 5 rfl ?_
          refine b_icmp_gt C 159 dX12_setOf_124 (by decide) (fun h6965 => ?_) (fun h6965 => ?_)
          · have h6965 : v120_7.toInt < v120_9.toInt := h6965
            refine g_iload C dX12_setOf_159 3 rfl ?_
            refine g_iconst (v := 1) C dX12_setOf_161 (by decide) ?_
            refine g_iload C dX12_setOf_162 6 rfl ?_
            refine g_ishl C dX12_setOf_164 ?_
            refine g_topi (fun z6966 h6967 => ?_)
            refine g_ior C dX12_setOf_165 ?_
            refine g_topi (fun z6968 h6969 => ?_)
            have hcb := set_bit h6967 h6969 (by omega)
            refine g_istore (lv' := [(4, .int z6968), (0, .ref a0), (1, .int a1), (3, .int v35_3), (5, .int v35_5), (7, .int v120_7), (8, .int v120_8), (9, .int v120_9)]) C dX12_setOf_166 (by decide) rfl ?_
            refine s_iinc (lv0 := [(4, .int z6968), (0, .ref a0), (1, .int a1), (3, .int v35_3), (7, .int v120_7), (8, .int v120_8), (9, .int v120_9)]) (m := 1) C dX12_setOf_168 4 rfl (by decide) rfl (by decide) (by omega) (fun z6970 h6971 => ?_)
            have h6971 : z6970.toInt = v35_5.toInt + 1 := h6971
            refine g_goto C 35 dX12_setOf_171 (by decide) ?_
            refine g_lv (lv' := [(0, .ref a0), (1, .int a1), (3, .int v35_3), (4, .int z6968), (5, .int z6970)]) [2, 3, 4, 1, 0] rfl ?_
            exact ih35 P120 v35_3 z6968 z6970 (by omega) I120 X120 W120 (by omega) (by omega) (fun b9 e9 => by rw [e6910] at e9; cases e9; omega) (by show cB z6968 20 ≤ z6970.toInt; omega) (by show 0 ≤ z6970.toInt; omega) (by intro b910 b915 e910 e915; rw [e6910] at e910; cases e910; rw [e6920] at e915; cases e915; show v35_3.toInt ≤ ((pI P b6909 (a1.toInt.toNat)).toInt + (pI P b6919 (a1.toInt.toNat)).toInt); omega)
          · have h6965 : v120_9.toInt ≤ v120_7.toInt := h6965
            have hd : v120_8.toInt + 1 ≠ (pI P b6909 (a1.toInt.toNat)).toInt + (pI P b6919 (a1.toInt.toNat)).toInt := fun h9 => by have h8 := rel120_2; rw [show ((pI P b6909 (a1.toInt.toNat)).toInt + (pI P b6919 (a1.toInt.toNat)).toInt).toNat = (v120_8.toInt + 1).toNat by omega] at h8; omega
            refine s_iinc (lv0 := [(0, .ref a0), (1, .int a1), (3, .int v35_3), (4, .int v35_4), (5, .int v35_5), (7, .int v120_7), (9, .int v120_9)]) (m := 1) C dX12_setOf_127 6 rfl (by decide) rfl (by decide) (by omega) (fun z6972 h6973 => ?_)
            have h6973 : z6972.toInt = v120_8.toInt + 1 := h6973
            have hcz : cS v35_4 ((pI P b6912 (a1.toInt.toNat)).toInt) ((pI P b6915 (a1.toInt.toNat)).toInt) (v120_8.toInt + 1).toNat = cS v35_4 ((pI P b6912 (a1.toInt.toNat)).toInt) ((pI P b6915 (a1.toInt.toNat)).toInt) (z6972.toInt).toNat := by rw [show v120_8.toInt + 1 = z6972.toInt by omega]
            refine g_iload C dX12_setOf_130 7 rfl ?_
            refine g_iload C dX12_setOf_132 4 rfl ?_
            refine g_iload C dX12_setOf_134 0 rfl ?_
            refine g_ishr C dX12_setOf_136 ?_
            refine g_topi (fun z6974 h6975 => ?_)
            refine g_iconst (v := 1) C dX12_setOf_137 (by decide) ?_
            refine g_iand C dX12_setOf_138 ?_
            refine g_topi (fun z6976 h6977 => ?_)
            have hbv := bit_val h6975 h6977 (by omega)
            have hfs := fS_of (p := (z6972.toInt).toNat) ((pI P b6912 (a1.toInt.toNat)).toInt) ((pI P b6915 (a1.toInt.toNat)).toInt) hbv
            have hwr := wt_rg (a := (pI P b6912 (a1.toInt.toNat)).toInt) (z6972.toInt).toNat (show 1 ≤ (pI P b6915 (a1.toInt.toNat)).toInt ∧ (pI P b6915 (a1.toInt.toNat)).toInt ≤ 9 by omega)
            refine b_if_ne C 152 dX12_setOf_139 (by decide) (fun h6978 => ?_) (fun h6978 => ?_)
            · have h6978 : z6976.toInt ≠ 0 := ti_ne h6978
              refine g_iconst (v := 0) C dX12_setOf_152 (by decide) ?_
              refine g_lv (lv' := [(0, .ref a0), (1, .int a1), (3, .int v35_3), (4, .int v35_4), (5, .int v35_5), (7, .int v120_7), (8, .int z6972)]) [1, 2, 3, 4, 5, 6, 0] rfl ?_
              exact J153 z6972 0 (by omega) (by omega) (by omega) (by decide) (by omega) (fun b9 e9 => by rw [e6910] at e9; cases e9; omega) (by intro b913 b914 e913 e914; rw [e6913] at e913; cases e913; rw [e6916] at e914; cases e914; show v120_9.toInt = cS v35_4 (pI P b6912 (a1.toInt.toNat)).toInt (pI P b6915 (a1.toInt.toNat)).toInt (z6972.toInt : Int).toNat; omega) (by intro b913 b914 e913 e914; rw [e6913] at e913; cases e913; rw [e6916] at e914; cases e914; show 0 = fS v35_4 (pI P b6912 (a1.toInt.toNat)).toInt (pI P b6915 (a1.toInt.toNat)).toInt (z6972.toInt : Int).toNat; omega) (by intro b910 b915 e910 e915; rw [e6910] at e910; cases e910; rw [e6920] at e915; cases e915; show 0 ≤ z6972.toInt ∧ z6972.toInt < ((pI P b6909 (a1.toInt.toNat)).toInt + (pI P b6919 (a1.toInt.toNat)).toInt); omega) (by intro b910 b913 b914 b915 e910 e913 e914 e915; rw [e6910] at e910; cases e910; rw [e6913] at e913; cases e913; rw [e6916] at e914; cases e914; rw [e6920] at e915; cases e915; show v120_7.toInt < cS v35_4 (pI P b6912 (a1.toInt.toNat)).toInt (pI P b6915 (a1.toInt.toNat)).toInt (((pI P b6909 (a1.toInt.toNat)).toInt + (pI P b6919 (a1.toInt.toNat)).toInt) : Int).toNat; omega) (by show 0 ≤ v120_9.toInt ∧ v120_9.toInt ≤ 9 * z6972.toInt; omega) (by show z6972.toInt = v120_8.toInt + 1; omega) (by intro b910 b915 e910 e915; rw [e6910] at e910; cases e910; rw [e6920] at e915; cases e915; show v35_3.toInt ≤ ((pI P b6909 (a1.toInt.toNat)).toInt + (pI P b6919 (a1.toInt.toNat)).toInt); omega) (by show v35_5.toInt < v35_3.toInt; omega)
            · have h6978 : z6976.toInt = 0 := congrArg Int32.toInt h6978
              refine g_aload_n C dX12_setOf_142 rfl 1 rfl ?_
              refine g_iload_n C dX12_setOf_143 rfl 2 rfl ?_
              refine g_iload C dX12_setOf_144 0 rfl ?_
              refine g_callVI (rest := [.int v120_9]) C mv_X12_255 [.int a1, .int z6972] (s_X12_weightOf I120 (by omega) (by omega) W120) (h6908).1 (h6908).2 rfl rfl (by decide) (Nat.le_of_ble_eq_true rfl) (by decide) dX12_setOf_146 (fun r6979 Y6980 h6981 => ?_)
              obtain ⟨rfl, h6981⟩ := h6981
              obtain ⟨h6981, hi6982⟩ := h6981
              have hi6982 := hi6982 b6912 b6915 e6913 e6916
              rw [X120.2.2.2 13 (by decide) rfl b6912 (EM.refB X120 ha0 e6913), X120.2.2.2 14 (by decide) rfl b6915 (EM.refB X120 ha0 e6916)] at hi6982
              have hi6982 : r6979.toInt = wt (pI P b6912 (a1.toInt.toNat)).toInt (pI P b6915 (a1.toInt.toNat)).toInt (z6972.toInt).toNat := hi6982
              have h6981 : 0 ≤ r6979.toInt ∧ r6979.toInt ≤ 9 := h6981
              refine g_goto C 153 dX12_setOf_149 (by decide) ?_
              refine g_lv (lv' := [(0, .ref a0), (1, .int a1), (3, .int v35_3), (4, .int v35_4), (5, .int v35_5), (7, .int v120_7), (8, .int z6972)]) [1, 2, 3, 4, 5, 6, 0] rfl ?_
              exact J153 z6972 r6979 (by omega) (by omega) (by omega) (by omega) (by omega) (fun b9 e9 => by rw [e6910] at e9; cases e9; omega) (by intro b913 b914 e913 e914; rw [e6913] at e913; cases e913; rw [e6916] at e914; cases e914; show v120_9.toInt = cS v35_4 (pI P b6912 (a1.toInt.toNat)).toInt (pI P b6915 (a1.toInt.toNat)).toInt (z6972.toInt : Int).toNat; omega) (by intro b913 b914 e913 e914; rw [e6913] at e913; cases e913; rw [e6916] at e914; cases e914; show r6979.toInt = fS v35_4 (pI P b6912 (a1.toInt.toNat)).toInt (pI P b6915 (a1.toInt.toNat)).toInt (z6972.toInt : Int).toNat; omega) (by intro b910 b915 e910 e915; rw [e6910] at e910; cases e910; rw [e6920] at e915; cases e915; show 0 ≤ z6972.toInt ∧ z6972.toInt < ((pI P b6909 (a1.toInt.toNat)).toInt + (pI P b6919 (a1.toInt.toNat)).toInt); omega) (by intro b910 b913 b914 b915 e910 e913 e914 e915; rw [e6910] at e910; cases e910; rw [e6913] at e913; cases e913; rw [e6916] at e914; cases e914; rw [e6920] at e915; cases e915; show v120_7.toInt < cS v35_4 (pI P b6912 (a1.toInt.toNat)).toInt (pI P b6915 (a1.toInt.toNat)).toInt (((pI P b6909 (a1.toInt.toNat)).toInt + (pI P b6919 (a1.toInt.toNat)).toInt) : Int).toNat; omega) (by show 0 ≤ v120_9.toInt ∧ v120_9.toInt ≤ 9 * z6972.toInt; omega) (by show z6972.toInt = v120_8.toInt + 1; omega) (by intro b910 b915 e910 e915; rw [e6910] at e910; cases e910; rw [e6920] at e915; cases e915; show v35_3.toInt ≤ ((pI P b6909 (a1.toInt.toNat)).toInt + (pI P b6919 (a1.toInt.toNat)).toInt); omega) (by show v35_5.toInt < v35_3.toInt; omega)
      have J118 : ∀ (P118 : PP) (v118_7 : Int32) (v118_s0 : Int32), (IM P118 a0) → (EM [] a0 P P118) → (MW P118 a0) → (0 ≤ v35_5.toInt ∧ v35_5.toInt ≤ 19) → (-179 ≤ v118_7.toInt ∧ v118_7.toInt ≤ 179) → (0 ≤ v118_s0.toInt ∧ v118_s0.toInt ≤ 9) → (∀ b, pR P118 a0 10 = some b → 1 ≤ (pI P118 b (a1.toInt.toNat)).toInt ∧ (pI P118 b (a1.toInt.toNat)).toInt ≤ 16) → (∀ b913 b914, pR P118 a0 13 = some b913 → pR P118 a0 14 = some b914 → v118_s0.toInt = fS v35_4 (pI P b913 (a1.toInt.toNat)).toInt (pI P b914 (a1.toInt.toNat)).toInt (0 : Int).toNat) → (∀ b910 b913 b914 b915, pR P118 a0 10 = some b910 → pR P118 a0 13 = some b913 → pR P118 a0 14 = some b914 → pR P118 a0 15 = some b915 → v118_7.toInt < cS v35_4 (pI P b913 (a1.toInt.toNat)).toInt (pI P b914 (a1.toInt.toNat)).toInt (((pI P b910 (a1.toInt.toNat)).toInt + (pI P b915 (a1.toInt.toNat)).toInt) : Int).toNat) → (∀ b910 b915, pR P118 a0 10 = some b910 → pR P118 a0 15 = some b915 → v35_3.toInt ≤ ((pI P b910 (a1.toInt.toNat)).toInt + (pI P b915 (a1.toInt.toNat)).toInt)) → (v35_5.toInt < v35_3.toInt) → G E ({ frames := 3, cells := 0, slots := 0, locals := 192 } : Room) D cy 10 P118 0 0 118 [(0, .ref a0), (1, .int a1), (3, .int v35_3), (4, .int v35_4), (5, .int v35_5), (7, .int v118_7), (8, .int 0)] [.int v118_s0] := by
        intro P118 v118_7 v118_s0 I118 X118 W118 hv118_5 hv118_7 hv118_s0 hq118_0 rel118_0 rel118_1 rel118_2 rel118_3
        have h6983 := X118.at ha0
        obtain ⟨b6984, e6985, h6986⟩ := I118.fld (h6983) 10 13 2 rfl
        have hq118_0 := hq118_0 b6984 e6985
        obtain ⟨b6987, e6988, h6989⟩ := I118.fld (h6983) 13 13 3 rfl
        obtain ⟨b6990, e6991, h6992⟩ := I118.fld (h6983) 14 13 3 rfl
        have rel118_0 := rel118_0 b6987 b6990 e6988 e6991
        have h6993 := I.arr (EM.refB X118 ha0 e6991) rfl (a1.toInt.toNat)
        obtain ⟨b6994, e6995, h6996⟩ := I118.fld (h6983) 15 13 3 rfl
        have rel118_1 := rel118_1 b6984 b6987 b6990 b6994 e6985 e6988 e6991 e6995
        have h6997 := I.arr (EM.refB X118 ha0 e6991) rfl (a1.toInt.toNat)
        have h6998 := I.arr (EM.refB X118 ha0 e6985) rfl (a1.toInt.toNat)
        have h6999 := I.arr (EM.refB X118 ha0 e6995) rfl (a1.toInt.toNat)
        have rel118_2 := rel118_2 b6984 b6994 e6985 e6995
        have h7000 := I.arr (EM.refB X118 ha0 e6985) rfl (a1.toInt.toNat)
        have h7001 := I.arr (EM.refB X118 ha0 e6995) rfl (a1.toInt.toNat)
        have hc := hW.1 b6984 b6990 (EM.refB X118 ha0 (e6985)) (EM.refB X118 ha0 (e6991)) (a1.toInt.toNat) (by omega) (by have h9 := hf0 _ (EM.refB X118 ha0 (e6985)); omega)
        have h7002 := I.arr (EM.refB X118 ha0 (e6985)) rfl (a1.toInt.toNat)
        have h7003 := I.arr (EM.refB X118 ha0 (e6991)) rfl (a1.toInt.toNat)
        have h7004 := I.arr (EM.refB X118 ha0 (e6995)) rfl (a1.toInt.toNat)
        have q7005 := X118.keepA (EM.refB X118 ha0 (e6985)) (by decide) rfl (a1.toInt.toNat)
        have q7006 := X118.keepA (EM.refB X118 ha0 (e6991)) (by decide) rfl (a1.toInt.toNat)
        have q7007 := X118.keepA (EM.refB X118 ha0 (e6995)) (by decide) rfl (a1.toInt.toNat)
        have s1 := cS_one (s := v35_4) (a := (pI P b6987 (a1.toInt.toNat)).toInt) (c := (pI P b6990 (a1.toInt.toNat)).toInt)
        refine g_istore (lv' := [(9, .int v118_s0), (0, .ref a0), (1, .int a1), (3, .int v35_3), (4, .int v35_4), (5, .int v35_5), (7, .int v118_7), (8, .int 0)]) C dX12_setOf_118 (by decide) rfl ?_
        refine g_lv (lv' := [(0, .ref a0), (1, .int a1), (3, .int v35_3), (4, .int v35_4), (5, .int v35_5), (7, .int v118_7), (8, .int 0), (9, .int v118_s0)]) [1, 2, 3, 4, 5, 6, 7, 0] rfl ?_
        exact J120 _ P118 v118_7 0 v118_s0 (Nat.lt_succ_self _) I118 X118 W118 (by omega) (by omega) (by decide) (by omega) (fun b9 e9 => by rw [e6985] at e9; cases e9; omega) (by intro b913 b914 e913 e914; rw [e6988] at e913; cases e913; rw [e6991] at e914; cases e914; show v118_s0.toInt = cS v35_4 (pI P b6987 (a1.toInt.toNat)).toInt (pI P b6990 (a1.toInt.toNat)).toInt (0 + 1 : Int).toNat; omega) (by intro b910 b915 e910 e915; rw [e6985] at e910; cases e910; rw [e6995] at e915; cases e915; show 0 ≤ 0 ∧ 0 < ((pI P b6984 (a1.toInt.toNat)).toInt + (pI P b6994 (a1.toInt.toNat)).toInt); omega) (by intro b910 b913 b914 b915 e910 e913 e914 e915; rw [e6985] at e910; cases e910; rw [e6988] at e913; cases e913; rw [e6991] at e914; cases e914; rw [e6995] at e915; cases e915; show v118_7.toInt < cS v35_4 (pI P b6987 (a1.toInt.toNat)).toInt (pI P b6990 (a1.toInt.toNat)).toInt (((pI P b6984 (a1.toInt.toNat)).toInt + (pI P b6994 (a1.toInt.toNat)).toInt) : Int).toNat; omega) (by show 0 ≤ v118_s0.toInt ∧ v118_s0.toInt ≤ 9 * (0 + 1); omega) (by intro b910 b915 e910 e915; rw [e6985] at e910; cases e910; rw [e6995] at e915; cases e915; show v35_3.toInt ≤ ((pI P b6984 (a1.toInt.toNat)).toInt + (pI P b6994 (a1.toInt.toNat)).toInt); omega) (by show v35_5.toInt < v35_3.toInt; omega)
      have J47 : ∀ (n47 : Nat) (v47_6 : Int32) (v47_7 : Int32), (20 - v47_7.toInt).toNat < n47 → (0 ≤ v35_5.toInt ∧ v35_5.toInt ≤ 19) → (0 ≤ v47_6.toInt ∧ v47_6.toInt ≤ 180) → (0 ≤ v47_7.toInt ∧ v47_7.toInt ≤ 20) → (∀ b, pR P35 a0 10 = some b → 1 ≤ (pI P35 b (a1.toInt.toNat)).toInt ∧ (pI P35 b (a1.toInt.toNat)).toInt ≤ 16) → (∀ b913 b914, pR P35 a0 13 = some b913 → pR P35 a0 14 = some b914 → v47_6.toInt = cS v35_4 (pI P b913 (a1.toInt.toNat)).toInt (pI P b914 (a1.toInt.toNat)).toInt (v47_7.toInt : Int).toNat) → (∀ b910 b915, pR P35 a0 10 = some b910 → pR P35 a0 15 = some b915 → v47_7.toInt ≤ ((pI P b910 (a1.toInt.toNat)).toInt + (pI P b915 (a1.toInt.toNat)).toInt)) → (0 ≤ v47_6.toInt ∧ v47_6.toInt ≤ 9 * v47_7.toInt) → (∀ b910 b915, pR P35 a0 10 = some b910 → pR P35 a0 15 = some b915 → v35_3.toInt ≤ ((pI P b910 (a1.toInt.toNat)).toInt + (pI P b915 (a1.toInt.toNat)).toInt)) → (v35_5.toInt < v35_3.toInt) → G E ({ frames := 3, cells := 0, slots := 0, locals := 192 } : Room) D cy 10 P35 0 0 47 [(0, .ref a0), (1, .int a1), (3, .int v35_3), (4, .int v35_4), (5, .int v35_5), (6, .int v47_6), (7, .int v47_7)] [] := by
        intro n47
        induction n47 with
        | zero => intro v47_6 v47_7 hm47 hv47_5 hv47_6 hv47_7 hq47_0 rel47_0 rel47_1 rel47_2 rel47_3 rel47_4; omega
        | succ n47 ih47 =>
          intro v47_6 v47_7 hm47 hv47_5 hv47_6 hv47_7 hq47_0 rel47_0 rel47_1 rel47_2 rel47_3 rel47_4
          have h7008 := X35.at ha0
          obtain ⟨b7009, e7010, h7011⟩ := I35.fld (h7008) 10 13 2 rfl
          have hq47_0 := hq47_0 b7009 e7010
          obtain ⟨b7012, e7013, h7014⟩ := I35.fld (h7008) 13 13 3 rfl
          obtain ⟨b7015, e7016, h7017⟩ := I35.fld (h7008) 14 13 3 rfl
          have rel47_0 := rel47_0 b7012 b7015 e7013 e7016
          have h7018 := I.arr (EM.refB X35 ha0 e7016) rfl (a1.toInt.toNat)
          obtain ⟨b7019, e7020, h7021⟩ := I35.fld (h7008) 15 13 3 rfl
          have rel47_1 := rel47_1 b7009 b7019 e7010 e7020
          have h7022 := I.arr (EM.refB X35 ha0 e7010) rfl (a1.toInt.toNat)
          have h7023 := I.arr (EM.refB X35 ha0 e7020) rfl (a1.toInt.toNat)
          have rel47_3 := rel47_3 b7009 b7019 e7010 e7020
          have h7024 := I.arr (EM.refB X35 ha0 e7010) rfl (a1.toInt.toNat)
          have h7025 := I.arr (EM.refB X35 ha0 e7020) rfl (a1.toInt.toNat)
          have J80 : ∀ (v80_s0 : Int32), (0 ≤ v35_5.toInt ∧ v35_5.toInt ≤ 19) → (0 ≤ v47_7.toInt ∧ v47_7.toInt ≤ 19) → (0 ≤ v80_s0.toInt ∧ v80_s0.toInt ≤ 9) → (∀ b, pR P35 a0 10 = some b → 1 ≤ (pI P35 b (a1.toInt.toNat)).toInt ∧ (pI P35 b (a1.toInt.toNat)).toInt ≤ 16) → (∀ b913 b914, pR P35 a0 13 = some b913 → pR P35 a0 14 = some b914 → v47_6.toInt = cS v35_4 (pI P b913 (a1.toInt.toNat)).toInt (pI P b914 (a1.toInt.toNat)).toInt (v47_7.toInt : Int).toNat) → (∀ b913 b914, pR P35 a0 13 = some b913 → pR P35 a0 14 = some b914 → v80_s0.toInt = fS v35_4 (pI P b913 (a1.toInt.toNat)).toInt (pI P b914 (a1.toInt.toNat)).toInt (v47_7.toInt : Int).toNat) → (∀ b910 b915, pR P35 a0 10 = some b910 → pR P35 a0 15 = some b915 → 0 ≤ v47_7.toInt ∧ v47_7.toInt < ((pI P b910 (a1.toInt.toNat)).toInt + (pI P b915 (a1.toInt.toNat)).toInt)) → (0 ≤ v47_6.toInt ∧ v47_6.toInt ≤ 9 * v47_7.toInt) → (∀ b910 b915, pR P35 a0 10 = some b910 → pR P35 a0 15 = some b915 → v35_3.toInt ≤ ((pI P b910 (a1.toInt.toNat)).toInt + (pI P b915 (a1.toInt.toNat)).toInt)) → (v35_5.toInt < v35_3.toInt) → G E ({ frames := 3, cells := 0, slots := 0, locals := 192 } : Room) D cy 10 P35 0 0 80 [(0, .ref a0), (1, .int a1), (3, .int v35_3), (4, .int v35_4), (5, .int v35_5), (7, .int v47_7)] [.int v80_s0, .int v47_6] := by
            intro v80_s0 hv80_5 hv80_7 hv80_s0 hq80_0 rel80_0 rel80_1 rel80_2 rel80_3 rel80_4 rel80_5
            have h7026 := X35.at ha0
            obtain ⟨b7027, e7028, h7029⟩ := I35.fld (h7026) 10 13 2 rfl
            have hq80_0 := hq80_0 b7027 e7028
            obtain ⟨b7030, e7031, h7032⟩ := I35.fld (h7026) 13 13 3 rfl
            obtain ⟨b7033, e7034, h7035⟩ := I35.fld (h7026) 14 13 3 rfl
            have rel80_0 := rel80_0 b7030 b7033 e7031 e7034
            have h7036 := I.arr (EM.refB X35 ha0 e7034) rfl (a1.toInt.toNat)
            have rel80_1 := rel80_1 b7030 b7033 e7031 e7034
            have h7037 := I.arr (EM.refB X35 ha0 e7034) rfl (a1.toInt.toNat)
            obtain ⟨b7038, e7039, h7040⟩ := I35.fld (h7026) 15 13 3 rfl
            have rel80_2 := rel80_2 b7027 b7038 e7028 e7039
            have h7041 := I.arr (EM.refB X35 ha0 e7028) rfl (a1.toInt.toNat)
            have h7042 := I.arr (EM.refB X35 ha0 e7039) rfl (a1.toInt.toNat)
            have rel80_4 := rel80_4 b7027 b7038 e7028 e7039
            have h7043 := I.arr (EM.refB X35 ha0 e7028) rfl (a1.toInt.toNat)
            have h7044 := I.arr (EM.refB X35 ha0 e7039) rfl (a1.toInt.toNat)
            have hc := hW.1 b7027 b7033 (EM.refB X35 ha0 (e7028)) (EM.refB X35 ha0 (e7034)) (a1.toInt.toNat) (by omega) (by have h9 := hf0 _ (EM.refB X35 ha0 (e7028)); omega)
            have h7045 := I.arr (EM.refB X35 ha0 (e7028)) rfl (a1.toInt.toNat)
            have h7046 := I.arr (EM.refB X35 ha0 (e7034)) rfl (a1.toInt.toNat)
            have h7047 := I.arr (EM.refB X35 ha0 (e7039)) rfl (a1.toInt.toNat)
            have q7048 := X35.keepA (EM.refB X35 ha0 (e7028)) (by decide) rfl (a1.toInt.toNat)
            have q7049 := X35.keepA (EM.refB X35 ha0 (e7034)) (by decide) rfl (a1.toInt.toNat)
            have q7050 := X35.keepA (EM.refB X35 ha0 (e7039)) (by decide) rfl (a1.toInt.toNat)
            refine s_iadd C dX12_setOf_80 (by show -2147483648 ≤ v47_6.toInt + v80_s0.toInt ∧ v47_6.toInt + v80_s0.toInt ≤ 2147483647; omega) (fun z7051 h7052 => ?_)
            have h7052 : z7051.toInt = v47_6.toInt + v80_s0.toInt := h7052
            refine g_istore (lv' := [(6, .int z7051), (0, .ref a0), (1, .int a1), (3, .int v35_3), (4, .int v35_4), (5, .int v35_5), (7, .int v47_7)]) C dX12_setOf_81 (by decide) rfl ?_
            refine s_iinc (lv0 := [(6, .int z7051), (0, .ref a0), (1, .int a1), (3, .int v35_3), (4, .int v35_4), (5, .int v35_5)]) (m := 1) C dX12_setOf_83 6 rfl (by decide) rfl (by decide) (by omega) (fun z7053 h7054 => ?_)
            have h7054 : z7053.toInt = v47_7.toInt + 1 := h7054
            have st := cS_step (s := v35_4) (a := (pI P b7030 (a1.toInt.toNat)).toInt) (c := (pI P b7033 (a1.toInt.toNat)).toInt) (d := v47_7.toInt) (d2 := z7053.toInt) (by omega) (by omega)
            refine g_goto C 47 dX12_setOf_86 (by decide) ?_
            refine g_lv (lv' := [(0, .ref a0), (1, .int a1), (3, .int v35_3), (4, .int v35_4), (5, .int v35_5), (6, .int z7051), (7, .int z7053)]) [2, 3, 4, 5, 6, 1, 0] rfl ?_
            exact ih47 z7051 z7053 (by omega) (by omega) (by omega) (by omega) (fun b9 e9 => by rw [e7028] at e9; cases e9; omega) (by intro b913 b914 e913 e914; rw [e7031] at e913; cases e913; rw [e7034] at e914; cases e914; show z7051.toInt = cS v35_4 (pI P b7030 (a1.toInt.toNat)).toInt (pI P b7033 (a1.toInt.toNat)).toInt (z7053.toInt : Int).toNat; omega) (by intro b910 b915 e910 e915; rw [e7028] at e910; cases e910; rw [e7039] at e915; cases e915; show z7053.toInt ≤ ((pI P b7027 (a1.toInt.toNat)).toInt + (pI P b7038 (a1.toInt.toNat)).toInt); omega) (by show 0 ≤ z7051.toInt ∧ z7051.toInt ≤ 9 * z7053.toInt; omega) (by intro b910 b915 e910 e915; rw [e7028] at e910; cases e910; rw [e7039] at e915; cases e915; show v35_3.toInt ≤ ((pI P b7027 (a1.toInt.toNat)).toInt + (pI P b7038 (a1.toInt.toNat)).toInt); omega) (by show v35_5.toInt < v35_3.toInt; omega)
          have hc := hW.1 b7009 b7015 (EM.refB X35 ha0 (e7010)) (EM.refB X35 ha0 (e7016)) (a1.toInt.toNat) (by omega) (by have h9 := hf0 _ (EM.refB X35 ha0 (e7010)); omega)
          have h7055 := I.arr (EM.refB X35 ha0 (e7010)) rfl (a1.toInt.toNat)
          have h7056 := I.arr (EM.refB X35 ha0 (e7016)) rfl (a1.toInt.toNat)
          have h7057 := I.arr (EM.refB X35 ha0 (e7020)) rfl (a1.toInt.toNat)
          have q7058 := X35.keepA (EM.refB X35 ha0 (e7010)) (by decide) rfl (a1.toInt.toNat)
          have q7059 := X35.keepA (EM.refB X35 ha0 (e7016)) (by decide) rfl (a1.toInt.toNat)
          have q7060 := X35.keepA (EM.refB X35 ha0 (e7020)) (by decide) rfl (a1.toInt.toNat)
          refine g_iload C dX12_setOf_47 6 rfl ?_
          refine g_aload_n C dX12_setOf_49 rfl 0 rfl ?_
          refine g_iload_n C dX12_setOf_50 rfl 1 rfl ?_
          refine g_callVI (rest := [.int v47_7]) C mv_X12_238 [.int a1] (s_X12_allOf I35 (by omega) W35) (h7008).1 (h7008).2 rfl rfl (by decide) (Nat.le_of_ble_eq_true rfl) (by decide) dX12_setOf_51 (fun r7061 Y7062 h7063 => ?_)
          obtain ⟨rfl, h7063⟩ := h7063
          obtain ⟨h7063, hi7064⟩ := h7063
          have hi7064 : (r7061.toInt = 0 ∧ (pI P35 b7009 (a1.toInt.toNat)).toInt = 0) ∨ r7061.toInt = (pI P35 b7009 (a1.toInt.toNat)).toInt + (pI P35 b7019 (a1.toInt.toNat)).toInt := hi7064 b7009 b7019 e7010 e7020
          have h7063 : 0 ≤ r7061.toInt ∧ r7061.toInt ≤ 20 := h7063
          refine b_icmp_ge C 89 dX12_setOf_54 (by decide) (fun h7065 => ?_) (fun h7065 => ?_)
          · have h7065 : r7061.toInt ≤ v47_7.toInt := h7065
            have htot : v47_6.toInt = cS v35_4 ((pI P b7012 (a1.toInt.toNat)).toInt) ((pI P b7015 (a1.toInt.toNat)).toInt) ((pI P b7009 (a1.toInt.toNat)).toInt + (pI P b7019 (a1.toInt.toNat)).toInt).toNat := by rw [show ((pI P b7009 (a1.toInt.toNat)).toInt + (pI P b7019 (a1.toInt.toNat)).toInt).toNat = v47_7.toInt.toNat by omega]; omega
            have hps := cS_pos (s := v35_4) (a := (pI P b7012 (a1.toInt.toNat)).toInt) (c := (pI P b7015 (a1.toInt.toNat)).toInt) (N := (pI P b7009 (a1.toInt.toNat)).toInt + (pI P b7019 (a1.toInt.toNat)).toInt) (by omega) (by omega) (by omega)
            refine g_aload_n C dX12_setOf_89 rfl 0 rfl ?_
            refine g_callVI (rest := []) C mv_X12_244 [] (s_X12_drawn I35 W35) (h7008).1 (h7008).2 rfl rfl (by decide) (Nat.le_of_ble_eq_true rfl) (by decide) dX12_setOf_90 (fun r7066 Y7067 h7068 => ?_)
            obtain ⟨Iy7069, Xy7070, W7071, h7068⟩ := h7068
            have q7072 := Xy7070.keepA e7010 (by decide) rfl (a1.toInt.toNat)
            have q7073 := Xy7070.keepA e7013 (by decide) rfl (a1.toInt.toNat)
            have q7074 := Xy7070.keepA e7016 (by decide) rfl (a1.toInt.toNat)
            have q7075 := Xy7070.keepA e7020 (by decide) rfl (a1.toInt.toNat)
            have Xz7076 : EM [] a0 P Y7067 := EM.tr ha0 X35 (Xy7070.mono (by decide))
            have e7077 := Xy7070.ref h7008 (by decide) e7010
            have e7078 := Xy7070.ref h7008 (by decide) e7013
            have e7079 := Xy7070.ref h7008 (by decide) e7016
            have e7080 := Xy7070.ref h7008 (by decide) e7020
            have h7081 := Xy7070.at h7008
            have h7082 := Xy7070.ar h7011
            have h7083 := Xy7070.ar h7014
            have h7084 := Xy7070.ar h7017
            have h7085 := Xy7070.ar h7021
            have h7068 : True := h7068
            refine g_iload C dX12_setOf_93 5 rfl ?_
            refine s_irem C dX12_setOf_95 (by show 0 < v47_6.toInt; omega) (fun z7086 h7087 => ?_)
            have h7087 : -v47_6.toInt < z7086.toInt ∧ z7086.toInt < v47_6.toInt := h7087
            refine g_istore (lv' := [(7, .int z7086), (0, .ref a0), (1, .int a1), (3, .int v35_3), (4, .int v35_4), (5, .int v35_5), (6, .int v47_6)]) C dX12_setOf_96 (by decide) rfl ?_
            refine g_iconst (v := 0) C dX12_setOf_98 (by decide) ?_
            refine g_istore (lv' := [(8, .int 0), (7, .int z7086), (0, .ref a0), (1, .int a1), (3, .int v35_3), (4, .int v35_4), (5, .int v35_5), (6, .int v47_6)]) C dX12_setOf_99 (by decide) rfl ?_
            refine g_iload C dX12_setOf_101 5 rfl ?_
            refine g_iconst (v := 1) C dX12_setOf_103 (by decide) ?_
            refine g_iand C dX12_setOf_104 ?_
            refine g_topi (fun z7088 h7089 => ?_)
            have hbv : z7088.toInt = bI v35_4 (0 : Int).toNat := by rw [h7089]; exact and1_val _
            have hfs := fS_of (p := (0 : Int).toNat) ((pI P b7012 (a1.toInt.toNat)).toInt) ((pI P b7015 (a1.toInt.toNat)).toInt) hbv
            have hwr := wt_rg (a := (pI P b7012 (a1.toInt.toNat)).toInt) (0 : Int).toNat (show 1 ≤ (pI P b7015 (a1.toInt.toNat)).toInt ∧ (pI P b7015 (a1.toInt.toNat)).toInt ≤ 9 by omega)
            refine b_if_ne C 117 dX12_setOf_105 (by decide) (fun h7090 => ?_) (fun h7090 => ?_)
            · have h7090 : z7088.toInt ≠ 0 := ti_ne h7090
              refine g_iconst (v := 0) C dX12_setOf_117 (by decide) ?_
              refine g_lv (lv' := [(0, .ref a0), (1, .int a1), (3, .int v35_3), (4, .int v35_4), (5, .int v35_5), (7, .int z7086), (8, .int 0)]) [2, 3, 4, 5, 6, 1, 0] rfl ?_
              exact J118 Y7067 z7086 0 Iy7069 Xz7076 W7071 (by omega) (by omega) (by decide) (fun b9 e9 => by rw [e7077] at e9; cases e9; omega) (by intro b913 b914 e913 e914; rw [e7078] at e913; cases e913; rw [e7079] at e914; cases e914; show 0 = fS v35_4 (pI P b7012 (a1.toInt.toNat)).toInt (pI P b7015 (a1.toInt.toNat)).toInt (0 : Int).toNat; omega) (by intro b910 b913 b914 b915 e910 e913 e914 e915; rw [e7077] at e910; cases e910; rw [e7078] at e913; cases e913; rw [e7079] at e914; cases e914; rw [e7080] at e915; cases e915; show z7086.toInt < cS v35_4 (pI P b7012 (a1.toInt.toNat)).toInt (pI P b7015 (a1.toInt.toNat)).toInt (((pI P b7009 (a1.toInt.toNat)).toInt + (pI P b7019 (a1.toInt.toNat)).toInt) : Int).toNat; omega) (by intro b910 b915 e910 e915; rw [e7077] at e910; cases e910; rw [e7080] at e915; cases e915; show v35_3.toInt ≤ ((pI P b7009 (a1.toInt.toNat)).toInt + (pI P b7019 (a1.toInt.toNat)).toInt); omega) (by show v35_5.toInt < v35_3.toInt; omega)
            · have h7090 : z7088.toInt = 0 := congrArg Int32.toInt h7090
              refine g_aload_n C dX12_setOf_108 rfl 2 rfl ?_
              refine g_iload_n C dX12_setOf_109 rfl 3 rfl ?_
              refine g_iconst (v := 0) C dX12_setOf_110 (by decide) ?_
              refine g_callVI (rest := []) C mv_X12_255 [.int a1, .int 0] (s_X12_weightOf Iy7069 (by omega) (by decide) W7071) (h7081).1 (h7081).2 rfl rfl (by decide) (Nat.le_of_ble_eq_true rfl) (by decide) dX12_setOf_111 (fun r7091 Y7092 h7093 => ?_)
              obtain ⟨rfl, h7093⟩ := h7093
              obtain ⟨h7093, hi7094⟩ := h7093
              have hi7094 := hi7094 b7012 b7015 e7078 e7079
              rw [Xz7076.2.2.2 13 (by decide) rfl b7012 (EM.refB Xz7076 ha0 e7078), Xz7076.2.2.2 14 (by decide) rfl b7015 (EM.refB Xz7076 ha0 e7079)] at hi7094
              have hi7094 : r7091.toInt = wt (pI P b7012 (a1.toInt.toNat)).toInt (pI P b7015 (a1.toInt.toNat)).toInt (0 : Int).toNat := hi7094
              have h7093 : 0 ≤ r7091.toInt ∧ r7091.toInt ≤ 9 := h7093
              refine g_goto C 118 dX12_setOf_114 (by decide) ?_
              refine g_lv (lv' := [(0, .ref a0), (1, .int a1), (3, .int v35_3), (4, .int v35_4), (5, .int v35_5), (7, .int z7086), (8, .int 0)]) [2, 3, 4, 5, 6, 1, 0] rfl ?_
              exact J118 Y7067 z7086 r7091 Iy7069 Xz7076 W7071 (by omega) (by omega) (by omega) (fun b9 e9 => by rw [e7077] at e9; cases e9; omega) (by intro b913 b914 e913 e914; rw [e7078] at e913; cases e913; rw [e7079] at e914; cases e914; show r7091.toInt = fS v35_4 (pI P b7012 (a1.toInt.toNat)).toInt (pI P b7015 (a1.toInt.toNat)).toInt (0 : Int).toNat; omega) (by intro b910 b913 b914 b915 e910 e913 e914 e915; rw [e7077] at e910; cases e910; rw [e7078] at e913; cases e913; rw [e7079] at e914; cases e914; rw [e7080] at e915; cases e915; show z7086.toInt < cS v35_4 (pI P b7012 (a1.toInt.toNat)).toInt (pI P b7015 (a1.toInt.toNat)).toInt (((pI P b7009 (a1.toInt.toNat)).toInt + (pI P b7019 (a1.toInt.toNat)).toInt) : Int).toNat; omega) (by intro b910 b915 e910 e915; rw [e7077] at e910; cases e910; rw [e7080] at e915; cases e915; show v35_3.toInt ≤ ((pI P b7009 (a1.toInt.toNat)).toInt + (pI P b7019 (a1.toInt.toNat)).toInt); omega) (by show v35_5.toInt < v35_3.toInt; omega)
          · have h7065 : v47_7.toInt < r7061.toInt := h7065
            refine g_iload C dX12_setOf_57 5 rfl ?_
            refine g_iload C dX12_setOf_59 3 rfl ?_
            refine g_iload C dX12_setOf_61 6 rfl ?_
            refine g_ishr C dX12_setOf_63 ?_
            refine g_topi (fun z7095 h7096 => ?_)
            refine g_iconst (v := 1) C dX12_setOf_64 (by decide) ?_
            refine g_iand C dX12_setOf_65 ?_
            refine g_topi (fun z7097 h7098 => ?_)
            have hbv := bit_val h7096 h7098 (by omega)
            have hfs := fS_of (p := (v47_7.toInt).toNat) ((pI P b7012 (a1.toInt.toNat)).toInt) ((pI P b7015 (a1.toInt.toNat)).toInt) hbv
            have hwr := wt_rg (a := (pI P b7012 (a1.toInt.toNat)).toInt) (v47_7.toInt).toNat (show 1 ≤ (pI P b7015 (a1.toInt.toNat)).toInt ∧ (pI P b7015 (a1.toInt.toNat)).toInt ≤ 9 by omega)
            refine b_if_ne C 79 dX12_setOf_66 (by decide) (fun h7099 => ?_) (fun h7099 => ?_)
            · have h7099 : z7097.toInt ≠ 0 := ti_ne h7099
              refine g_iconst (v := 0) C dX12_setOf_79 (by decide) ?_
              refine g_lv (lv' := [(0, .ref a0), (1, .int a1), (3, .int v35_3), (4, .int v35_4), (5, .int v35_5), (7, .int v47_7)]) [0, 1, 2, 3, 4, 6] rfl ?_
              exact J80 0 (by omega) (by omega) (by decide) (fun b9 e9 => by rw [e7010] at e9; cases e9; omega) (by intro b913 b914 e913 e914; rw [e7013] at e913; cases e913; rw [e7016] at e914; cases e914; show v47_6.toInt = cS v35_4 (pI P b7012 (a1.toInt.toNat)).toInt (pI P b7015 (a1.toInt.toNat)).toInt (v47_7.toInt : Int).toNat; omega) (by intro b913 b914 e913 e914; rw [e7013] at e913; cases e913; rw [e7016] at e914; cases e914; show 0 = fS v35_4 (pI P b7012 (a1.toInt.toNat)).toInt (pI P b7015 (a1.toInt.toNat)).toInt (v47_7.toInt : Int).toNat; omega) (by intro b910 b915 e910 e915; rw [e7010] at e910; cases e910; rw [e7020] at e915; cases e915; show 0 ≤ v47_7.toInt ∧ v47_7.toInt < ((pI P b7009 (a1.toInt.toNat)).toInt + (pI P b7019 (a1.toInt.toNat)).toInt); omega) (by show 0 ≤ v47_6.toInt ∧ v47_6.toInt ≤ 9 * v47_7.toInt; omega) (by intro b910 b915 e910 e915; rw [e7010] at e910; cases e910; rw [e7020] at e915; cases e915; show v35_3.toInt ≤ ((pI P b7009 (a1.toInt.toNat)).toInt + (pI P b7019 (a1.toInt.toNat)).toInt); omega) (by show v35_5.toInt < v35_3.toInt; omega)
            · have h7099 : z7097.toInt = 0 := congrArg Int32.toInt h7099
              refine g_aload_n C dX12_setOf_69 rfl 0 rfl ?_
              refine g_iload_n C dX12_setOf_70 rfl 1 rfl ?_
              refine g_iload C dX12_setOf_71 6 rfl ?_
              refine g_callVI (rest := [.int v47_6]) C mv_X12_255 [.int a1, .int v47_7] (s_X12_weightOf I35 (by omega) (by omega) W35) (h7008).1 (h7008).2 rfl rfl (by decide) (Nat.le_of_ble_eq_true rfl) (by decide) dX12_setOf_73 (fun r7100 Y7101 h7102 => ?_)
              obtain ⟨rfl, h7102⟩ := h7102
              obtain ⟨h7102, hi7103⟩ := h7102
              have hi7103 := hi7103 b7012 b7015 e7013 e7016
              rw [X35.2.2.2 13 (by decide) rfl b7012 (EM.refB X35 ha0 e7013), X35.2.2.2 14 (by decide) rfl b7015 (EM.refB X35 ha0 e7016)] at hi7103
              have hi7103 : r7100.toInt = wt (pI P b7012 (a1.toInt.toNat)).toInt (pI P b7015 (a1.toInt.toNat)).toInt (v47_7.toInt).toNat := hi7103
              have h7102 : 0 ≤ r7100.toInt ∧ r7100.toInt ≤ 9 := h7102
              refine g_goto C 80 dX12_setOf_76 (by decide) ?_
              refine g_lv (lv' := [(0, .ref a0), (1, .int a1), (3, .int v35_3), (4, .int v35_4), (5, .int v35_5), (7, .int v47_7)]) [0, 1, 2, 3, 4, 6] rfl ?_
              exact J80 r7100 (by omega) (by omega) (by omega) (fun b9 e9 => by rw [e7010] at e9; cases e9; omega) (by intro b913 b914 e913 e914; rw [e7013] at e913; cases e913; rw [e7016] at e914; cases e914; show v47_6.toInt = cS v35_4 (pI P b7012 (a1.toInt.toNat)).toInt (pI P b7015 (a1.toInt.toNat)).toInt (v47_7.toInt : Int).toNat; omega) (by intro b913 b914 e913 e914; rw [e7013] at e913; cases e913; rw [e7016] at e914; cases e914; show r7100.toInt = fS v35_4 (pI P b7012 (a1.toInt.toNat)).toInt (pI P b7015 (a1.toInt.toNat)).toInt (v47_7.toInt : Int).toNat; omega) (by intro b910 b915 e910 e915; rw [e7010] at e910; cases e910; rw [e7020] at e915; cases e915; show 0 ≤ v47_7.toInt ∧ v47_7.toInt < ((pI P b7009 (a1.toInt.toNat)).toInt + (pI P b7019 (a1.toInt.toNat)).toInt); omega) (by show 0 ≤ v47_6.toInt ∧ v47_6.toInt ≤ 9 * v47_7.toInt; omega) (by intro b910 b915 e910 e915; rw [e7010] at e910; cases e910; rw [e7020] at e915; cases e915; show v35_3.toInt ≤ ((pI P b7009 (a1.toInt.toNat)).toInt + (pI P b7019 (a1.toInt.toNat)).toInt); omega) (by show v35_5.toInt < v35_3.toInt; omega)
      obtain ⟨b7104, e7105, h7106⟩ := I35.fld (h6899) 13 13 3 rfl
      obtain ⟨b7107, e7108, h7109⟩ := I35.fld (h6899) 14 13 3 rfl
      have hc := hW.1 b6900 b7107 (EM.refB X35 ha0 (e6901)) (EM.refB X35 ha0 (e7108)) (a1.toInt.toNat) (by omega) (by have h9 := hf0 _ (EM.refB X35 ha0 (e6901)); omega)
      have h7110 := I.arr (EM.refB X35 ha0 (e6901)) rfl (a1.toInt.toNat)
      have h7111 := I.arr (EM.refB X35 ha0 (e7108)) rfl (a1.toInt.toNat)
      have h7112 := I.arr (EM.refB X35 ha0 (e6904)) rfl (a1.toInt.toNat)
      have q7113 := X35.keepA (EM.refB X35 ha0 (e6901)) (by decide) rfl (a1.toInt.toNat)
      have q7114 := X35.keepA (EM.refB X35 ha0 (e7108)) (by decide) rfl (a1.toInt.toNat)
      have q7115 := X35.keepA (EM.refB X35 ha0 (e6904)) (by decide) rfl (a1.toInt.toNat)
      refine g_iload C dX12_setOf_35 4 rfl ?_
      refine g_iload_n C dX12_setOf_37 rfl 2 rfl ?_
      refine b_icmp_ge C 174 dX12_setOf_38 (by decide) (fun h7116 => ?_) (fun h7116 => ?_)
      · have h7116 : v35_3.toInt ≤ v35_5.toInt := h7116
        refine g_iload C dX12_setOf_174 3 rfl ?_
        exact ret _ _ _ _ _ _ dX12_setOf_176 rfl (by decide) (by decide) ⟨I35, X35, W35, trivial⟩
      · have h7116 : v35_5.toInt < v35_3.toInt := h7116
        refine g_iconst (v := 0) C dX12_setOf_41 (by decide) ?_
        refine g_istore (lv' := [(6, .int 0), (0, .ref a0), (1, .int a1), (3, .int v35_3), (4, .int v35_4), (5, .int v35_5)]) C dX12_setOf_42 (by decide) rfl ?_
        have s0 : cS v35_4 ((pI P b7104 (a1.toInt.toNat)).toInt) ((pI P b7107 (a1.toInt.toNat)).toInt) (0 : Int).toNat = 0 := rfl
        refine g_iconst (v := 0) C dX12_setOf_44 (by decide) ?_
        refine g_istore (lv' := [(7, .int 0), (6, .int 0), (0, .ref a0), (1, .int a1), (3, .int v35_3), (4, .int v35_4), (5, .int v35_5)]) C dX12_setOf_45 (by decide) rfl ?_
        refine g_lv (lv' := [(0, .ref a0), (1, .int a1), (3, .int v35_3), (4, .int v35_4), (5, .int v35_5), (6, .int 0), (7, .int 0)]) [2, 3, 4, 5, 6, 1, 0] rfl ?_
        exact J47 _ 0 0 (Nat.lt_succ_self _) (by omega) (by decide) (by decide) (fun b9 e9 => by rw [e6901] at e9; cases e9; omega) (by intro b913 b914 e913 e914; rw [e7105] at e913; cases e913; rw [e7108] at e914; cases e914; show 0 = cS v35_4 (pI P b7104 (a1.toInt.toNat)).toInt (pI P b7107 (a1.toInt.toNat)).toInt (0 : Int).toNat; omega) (by intro b910 b915 e910 e915; rw [e6901] at e910; cases e910; rw [e6904] at e915; cases e915; show 0 ≤ ((pI P b6900 (a1.toInt.toNat)).toInt + (pI P b6903 (a1.toInt.toNat)).toInt); omega) (by show 0 ≤ 0 ∧ 0 ≤ 9 * 0; omega) (by intro b910 b915 e910 e915; rw [e6901] at e910; cases e910; rw [e6904] at e915; cases e915; show v35_3.toInt ≤ ((pI P b6900 (a1.toInt.toNat)).toInt + (pI P b6903 (a1.toInt.toNat)).toInt); omega) (by show v35_5.toInt < v35_3.toInt; omega)
  obtain ⟨b7117, e7118, h7119⟩ := I.fld (ha0) 10 13 2 rfl
  have hf0 := hf0 b7117 e7118
  obtain ⟨b7120, e7121, h7122⟩ := I.fld (ha0) 13 13 3 rfl
  obtain ⟨b7123, e7124, h7125⟩ := I.fld (ha0) 14 13 3 rfl
  obtain ⟨b7126, e7127, h7128⟩ := I.fld (ha0) 15 13 3 rfl
  have hc := hW.1 b7117 b7123 e7118 e7124 (a1.toInt.toNat) (by omega) (by omega)
  have hz9 := cB_zero
  have h7129 := I.arr (e7118) rfl (a1.toInt.toNat)
  have h7130 := I.arr (e7124) rfl (a1.toInt.toNat)
  have h7131 := I.arr (e7127) rfl (a1.toInt.toNat)
  refine g_aload_n C dX12_setOf_0 rfl 0 rfl ?_
  refine g_iload_n C dX12_setOf_1 rfl 2 rfl ?_
  refine a_i2l C dX12_setOf_2 (fun l7132 => ?_)
  refine g_ldc2 (v := 7919) C kl_X12_248 dX12_setOf_3 ?_
  refine g_topl (fun l7133 el7133 => ?_)
  have hz_l7133 : ¬ l7133 = 0 := by rw [el7133]; decide
  refine a_lmul C dX12_setOf_6 (fun l7134 => ?_)
  refine g_iload_n C dX12_setOf_7 rfl 1 rfl ?_
  refine a_i2l C dX12_setOf_8 (fun l7135 => ?_)
  refine g_ldc2 (v := 104729) C kl_X12_250 dX12_setOf_9 ?_
  refine g_topl (fun l7136 el7136 => ?_)
  have hz_l7136 : ¬ l7136 = 0 := by rw [el7136]; decide
  refine a_lmul C dX12_setOf_12 (fun l7137 => ?_)
  refine a_ladd C dX12_setOf_13 (fun l7138 => ?_)
  refine g_lconst (v := 1) C dX12_setOf_14 (by decide) ?_
  refine a_ladd C dX12_setOf_15 (fun l7139 => ?_)
  refine g_ldc2 (v := 2147483648) C kl_X12_234 dX12_setOf_16 ?_
  refine g_topl (fun l7140 el7140 => ?_)
  have hz_l7140 : ¬ l7140 = 0 := by rw [el7140]; decide
  refine a_lrem C dX12_setOf_19 hz_l7140 (fun l7141 => ?_)
  refine g_putJ C fi_X12_226 rfl (ha0).1 (ha0).2 dX12_setOf_20 ?_
  refine gq (ks := []) (I.setJ) (EM.setJ) (fun Y7142 Iy7143 Xy7144 => ?_)
  have q7145 := Xy7144.keepA e7118 (by decide) rfl (a1.toInt.toNat)
  have q7146 := Xy7144.keepA e7121 (by decide) rfl (a1.toInt.toNat)
  have q7147 := Xy7144.keepA e7124 (by decide) rfl (a1.toInt.toNat)
  have q7148 := Xy7144.keepA e7127 (by decide) rfl (a1.toInt.toNat)
  have W7149 := hW.keep I Xy7144 (by decide) (by decide) (by decide)
  have Xz7150 : EM [] a0 P Y7142 := Xy7144.mono (by decide)
  have e7151 := Xy7144.ref ha0 (by decide) e7118
  have e7152 := Xy7144.ref ha0 (by decide) e7121
  have e7153 := Xy7144.ref ha0 (by decide) e7124
  have e7154 := Xy7144.ref ha0 (by decide) e7127
  have h7155 := Xy7144.at ha0
  have h7156 := Xy7144.ar h7119
  have h7157 := Xy7144.ar h7122
  have h7158 := Xy7144.ar h7125
  have h7159 := Xy7144.ar h7128
  refine g_aload_n C dX12_setOf_23 rfl 0 rfl ?_
  refine g_iload_n C dX12_setOf_24 rfl 1 rfl ?_
  refine g_callVI (rest := []) C mv_X12_252 [.int a1] (s_X12_howMany Iy7143 (by omega) (fun b9 e9 => by rw [e7151] at e9; cases e9; show 1 ≤ (pI Y7142 b7117 (a1.toInt.toNat)).toInt ∧ (pI Y7142 b7117 (a1.toInt.toNat)).toInt ≤ 16; omega) W7149) (h7155).1 (h7155).2 rfl rfl (by decide) (Nat.le_of_ble_eq_true rfl) (by decide) dX12_setOf_25 (fun r7160 Y7161 h7162 => ?_)
  obtain ⟨Iy7163, Xy7164, W7165, h7162⟩ := h7162
  have q7166 := Xy7164.keepA e7151 (by decide) rfl (a1.toInt.toNat)
  have q7167 := Xy7164.keepA e7152 (by decide) rfl (a1.toInt.toNat)
  have q7168 := Xy7164.keepA e7153 (by decide) rfl (a1.toInt.toNat)
  have q7169 := Xy7164.keepA e7154 (by decide) rfl (a1.toInt.toNat)
  have Xz7170 : EM [] a0 P Y7161 := EM.tr ha0 Xz7150 (Xy7164.mono (by decide))
  have e7171 := Xy7164.ref h7155 (by decide) e7151
  have e7172 := Xy7164.ref h7155 (by decide) e7152
  have e7173 := Xy7164.ref h7155 (by decide) e7153
  have e7174 := Xy7164.ref h7155 (by decide) e7154
  have h7175 := Xy7164.at h7155
  have h7176 := Xy7164.ar h7156
  have h7177 := Xy7164.ar h7157
  have h7178 := Xy7164.ar h7158
  have h7179 := Xy7164.ar h7159
  obtain ⟨h7162, hi7180⟩ := h7162
  have hi7180 : r7160.toInt ≤ (pI Y7161 b7117 (a1.toInt.toNat)).toInt + (pI Y7161 b7126 (a1.toInt.toNat)).toInt := hi7180 b7117 b7126 e7171 e7174
  have h7162 : 1 ≤ r7160.toInt ∧ r7160.toInt ≤ 20 := h7162
  refine g_istore_n (lv' := [(3, .int r7160), (0, .ref a0), (1, .int a1), (2, .int a2)]) C dX12_setOf_28 rfl (by decide) rfl ?_
  refine g_iconst (v := 0) C dX12_setOf_29 (by decide) ?_
  refine g_istore (lv' := [(4, .int 0), (3, .int r7160), (0, .ref a0), (1, .int a1), (2, .int a2)]) C dX12_setOf_30 (by decide) rfl ?_
  refine g_iconst (v := 0) C dX12_setOf_32 (by decide) ?_
  refine g_istore (lv' := [(5, .int 0), (4, .int 0), (3, .int r7160), (0, .ref a0), (1, .int a1), (2, .int a2)]) C dX12_setOf_33 (by decide) rfl ?_
  refine g_lv (lv' := [(0, .ref a0), (1, .int a1), (3, .int r7160), (4, .int 0), (5, .int 0)]) [3, 4, 2, 1, 0] rfl ?_
  exact J35 _ Y7161 r7160 0 0 (Nat.lt_succ_self _) Iy7163 Xz7170 W7165 (by omega) (by decide) (fun b9 e9 => by rw [e7171] at e9; cases e9; omega) (by show cB 0 20 ≤ 0; omega) (by show 0 ≤ 0; omega) (by intro b910 b915 e910 e915; rw [e7171] at e910; cases e910; rw [e7174] at e915; cases e915; show r7160.toInt ≤ ((pI P b7117 (a1.toInt.toNat)).toInt + (pI P b7126 (a1.toInt.toNat)).toInt); omega)
theorem dX12_gathers_73 : decode cX12_gathers 73 = .ok (.aload_n 0, 1) := by decide +kernel
theorem dX12_gathers_74 : decode cX12_gathers 74 = .ok (.getfield 78, 3) := by decide +kernel
theorem dX12_gathers_77 : decode cX12_gathers 77 = .ok (.iload 6, 2) := by decide +kernel
theorem dX12_gathers_79 : decode cX12_gathers 79 = .ok (.iaload, 1) := by decide +kernel
theorem dX12_gathers_80 : decode cX12_gathers 80 = .ok (.iload_n 3, 1) := by decide +kernel
theorem dX12_gathers_81 : decode cX12_gathers 81 = .ok (.invokestatic 315, 3) := by decide +kernel
theorem dX12_byteOf_0 : decode cX12_byteOf 0 = .ok (.iload_n 0, 1) := by decide +kernel
theorem dX12_byteOf_1 : decode cX12_byteOf 1 = .ok (.bipush 8, 2) := by decide +kernel
theorem dX12_byteOf_3 : decode cX12_byteOf 3 = .ok (.iload_n 1, 1) := by decide +kernel
theorem dX12_byteOf_4 : decode cX12_byteOf 4 = .ok (.imul, 1) := by decide +kernel
theorem dX12_byteOf_5 : decode cX12_byteOf 5 = .ok (.ishr, 1) := by decide +kernel
theorem dX12_byteOf_6 : decode cX12_byteOf 6 = .ok (.sipush 255, 3) := by decide +kernel
theorem dX12_byteOf_9 : decode cX12_byteOf 9 = .ok (.iand, 1) := by decide +kernel
theorem dX12_byteOf_10 : decode cX12_byteOf 10 = .ok (.ireturn, 1) := by decide +kernel
set_option maxHeartbeats 4000000 in
set_option maxRecDepth 100000 in
theorem s_X12_byteOf {P : PP} {a0 : Int32} {a1 : Int32} (I : IV P) : CtrI yX12_byteOf cX12_byteOf 2 (some Jvm.ClassFile.FieldType.int) ({ frames := 1, cells := 0, slots := 0, locals := 64 } : Room) 0 0 P [.int a0, .int a1] (fun r P2 => P = P2 ∧ (0 ≤ r.toInt ∧ r.toInt ≤ 255)) := by
  refine enI (lv := [(0, .int a0), (1, .int a1)]) (by decide) (Nat.le_of_ble_eq_true rfl) rfl (fun E D cy C Ci0 ret => ?_)
  refine g_iload_n C dX12_byteOf_0 rfl 0 rfl ?_
  refine g_bipush (v := 8) C dX12_byteOf_1 (by decide) ?_
  refine g_iload_n C dX12_byteOf_3 rfl 1 rfl ?_
  refine a_imul C dX12_byteOf_4 (fun z7258 => ?_)
  refine a_ishr C dX12_byteOf_5 (fun z7260 => ?_)
  refine g_sipush (v := 255) C dX12_byteOf_6 (by decide) ?_
  refine s_iand C dX12_byteOf_9 (by show 0 ≤ 255; omega) (fun z7262 h7263 => ?_)
  have h7263 : 0 ≤ z7262.toInt ∧ z7262.toInt ≤ 255 := h7263
  exact ret _ _ _ _ _ _ dX12_byteOf_10 rfl (by decide) (by decide) ⟨rfl, (by omega)⟩
theorem dX12_gathers_84 : decode cX12_gathers 84 = .ok (.iload 5, 2) := by decide +kernel
theorem dX12_gathers_86 : decode cX12_gathers 86 = .ok (.invokevirtual 308, 3) := by decide +kernel
theorem dX12_gathers_89 : decode cX12_gathers 89 = .ok (.iinc 5 1, 3) := by decide +kernel
theorem dX12_gathers_92 : decode cX12_gathers 92 = .ok (.goto (-84), 3) := by decide +kernel
set_option maxHeartbeats 4000000 in
set_option maxRecDepth 100000 in
theorem s_X12_gathers {P : PP} {a0 : Nat} {a1 : Int32} {a2 : Int32} {a3 : Int32} {a4 : Int32} (I : IM P a0) (ha1 : 0 ≤ a1.toInt ∧ a1.toInt ≤ 3) (ha2 : 0 ≤ a2.toInt ∧ a2.toInt ≤ 1) (ha4 : 0 ≤ a4.toInt ∧ a4.toInt ≤ 40) (hf0 : ∀ b, pR P a0 10 = some b → 1 ≤ (pI P b (a2.toInt.toNat)).toInt ∧ (pI P b (a2.toInt.toNat)).toInt ≤ 16) (hW : MW P a0) : CtrV yX12_gathers cX12_gathers 7 none ({ frames := 4, cells := 0, slots := 0, locals := 256 } : Room) 0 0 P [.ref a0, .int a1, .int a2, .int a3, .int a4] (fun P2 => IM P2 a0 ∧ EM [28, 29, 30, 31] a0 P P2 ∧ MW P2 a0 ∧ ((pI P2 a0 28).toInt ≤ 4 + a4.toInt) ∧ (∀ b, pR P2 a0 22 = some b → (pI P2 a0 28).toInt ≤ 4 + kC (pI P2 b) (40 * a1.toInt).toNat a2.toInt a4.toInt.toNat)) := by
  refine enV (lv := [(0, .ref a0), (1, .int a1), (2, .int a2), (3, .int a3), (4, .int a4)]) (by decide) (Nat.le_of_ble_eq_true rfl) rfl (fun E D cy C Ci0 ret => ?_)
  have ha0 := I.2.1
  have J8 : ∀ (n8 : Nat) (P8 : PP) (v8_5 : Int32), (40 - v8_5.toInt).toNat < n8 → (IM P8 a0) → (EM [28, 29, 30, 31] a0 P P8) → (MW P8 a0) → (0 ≤ v8_5.toInt ∧ v8_5.toInt ≤ 40) → (∀ b, pR P8 a0 10 = some b → 1 ≤ (pI P8 b (a2.toInt.toNat)).toInt ∧ (pI P8 b (a2.toInt.toNat)).toInt ≤ 16) → ((pI P8 a0 28).toInt ≤ 4 + v8_5.toInt) → (v8_5.toInt ≤ a4.toInt) → (∀ b922, pR P8 a0 22 = some b922 → (pI P8 a0 28).toInt ≤ 4 + kC (pI P b922) (40 * a1.toInt).toNat a2.toInt (v8_5.toInt : Int).toNat) → G E ({ frames := 4, cells := 0, slots := 0, locals := 256 } : Room) D cy 7 P8 0 0 8 [(0, .ref a0), (1, .int a1), (2, .int a2), (3, .int a3), (4, .int a4), (5, .int v8_5)] [] := by
    intro n8
    induction n8 with
    | zero => intro P8 v8_5 hm8 I8 X8 W8 hv8_5 hq8_0 rel8_0 rel8_1 rel8_2; omega
    | succ n8 ih8 =>
      intro P8 v8_5 hm8 I8 X8 W8 hv8_5 hq8_0 rel8_0 rel8_1 rel8_2
      have h8853 := X8.at ha0
      obtain ⟨b8854, e8855, h8856⟩ := I8.fld (h8853) 10 13 2 rfl
      have hq8_0 := hq8_0 b8854 e8855
      have h8857 := I8.rg h8853 28 rfl
      obtain ⟨b8858, e8859, h8860⟩ := I8.fld (h8853) 22 13 800 rfl
      have rel8_2 := rel8_2 b8858 e8859
      have J89 : ∀ (P89 : PP), (IM P89 a0) → (EM [28, 29, 30, 31] a0 P P89) → (MW P89 a0) → (1 ≤ a4.toInt ∧ a4.toInt ≤ 40) → (0 ≤ v8_5.toInt ∧ v8_5.toInt ≤ 39) → (∀ b, pR P89 a0 10 = some b → 1 ≤ (pI P89 b (a2.toInt.toNat)).toInt ∧ (pI P89 b (a2.toInt.toNat)).toInt ≤ 16) → ((pI P89 a0 28).toInt ≤ 5 + v8_5.toInt) → (v8_5.toInt < a4.toInt) → (∀ b922, pR P89 a0 22 = some b922 → (pI P89 a0 28).toInt ≤ 4 + kC (pI P b922) (40 * a1.toInt).toNat a2.toInt (v8_5.toInt + 1 : Int).toNat) → G E ({ frames := 4, cells := 0, slots := 0, locals := 256 } : Room) D cy 7 P89 0 0 89 [(0, .ref a0), (1, .int a1), (2, .int a2), (3, .int a3), (4, .int a4), (5, .int v8_5)] [] := by
        intro P89 I89 X89 W89 hv89_4 hv89_5 hq89_0 rel89_0 rel89_1 rel89_2
        have h8861 := X89.at ha0
        obtain ⟨b8862, e8863, h8864⟩ := I89.fld (h8861) 10 13 2 rfl
        have hq89_0 := hq89_0 b8862 e8863
        have h8865 := I89.rg h8861 28 rfl
        obtain ⟨b8866, e8867, h8868⟩ := I89.fld (h8861) 22 13 800 rfl
        have rel89_2 := rel89_2 b8866 e8867
        refine s_iinc (lv0 := [(0, .ref a0), (1, .int a1), (2, .int a2), (3, .int a3), (4, .int a4)]) (m := 1) C dX12_gathers_89 5 rfl (by decide) rfl (by decide) (by omega) (fun z8869 h8870 => ?_)
        have h8870 : z8869.toInt = v8_5.toInt + 1 := h8870
        have hz : kC (pI P b8866) (40 * a1.toInt).toNat a2.toInt (v8_5.toInt + 1).toNat = kC (pI P b8866) (40 * a1.toInt).toNat a2.toInt (z8869.toInt).toNat := by rw [show v8_5.toInt + 1 = z8869.toInt by omega]
        refine g_goto C 8 dX12_gathers_92 (by decide) ?_
        refine g_lv (lv' := [(0, .ref a0), (1, .int a1), (2, .int a2), (3, .int a3), (4, .int a4), (5, .int z8869)]) [1, 2, 3, 4, 5, 0] rfl ?_
        exact ih8 P89 z8869 (by omega) I89 X89 W89 (by omega) (fun b9 e9 => by rw [e8863] at e9; cases e9; omega) (by show (pI P89 a0 28).toInt ≤ 4 + z8869.toInt; omega) (by show z8869.toInt ≤ a4.toInt; omega) (by intro b922 e922; rw [e8867] at e922; cases e922; show (pI P89 a0 28).toInt ≤ 4 + kC (pI P b8866) (40 * a1.toInt).toNat a2.toInt (z8869.toInt : Int).toNat; omega)
      refine g_iload C dX12_gathers_8 5 rfl ?_
      refine g_iload C dX12_gathers_10 4 rfl ?_
      refine b_icmp_ge C 95 dX12_gathers_12 (by decide) (fun h8871 => ?_) (fun h8871 => ?_)
      · have h8871 : a4.toInt ≤ v8_5.toInt := h8871
        exact ret _ _ _ _ _ dX12_gathers_95 (by decide) (by decide) ⟨I8, X8, W8, (by show (pI P8 a0 28).toInt ≤ 4 + a4.toInt; omega), (fun b9 e9 => by rw [e8859] at e9; cases e9; have h8 : kC (pI P b8858) (40 * a1.toInt).toNat a2.toInt v8_5.toInt.toNat = kC (pI P b8858) (40 * a1.toInt).toNat a2.toInt a4.toInt.toNat := by { rw [show v8_5.toInt.toNat = a4.toInt.toNat by omega] }; rw [X8.2.2.2 22 (by decide) rfl b8858 (EM.refB X8 ha0 e8859)]; omega)⟩
      · have h8871 : v8_5.toInt < a4.toInt := h8871
        refine g_bipush (v := 40) C dX12_gathers_15 (by decide) ?_
        refine g_iload_n C dX12_gathers_17 rfl 1 rfl ?_
        refine s_imul C dX12_gathers_18 (by show -2147483648 ≤ 40 * a1.toInt ∧ 40 * a1.toInt ≤ 2147483647; omega) (fun z8872 h8873 => ?_)
        have h8873 : z8872.toInt = 40 * a1.toInt := h8873
        refine g_iload C dX12_gathers_19 5 rfl ?_
        refine s_iadd C dX12_gathers_21 (by show -2147483648 ≤ z8872.toInt + v8_5.toInt ∧ z8872.toInt + v8_5.toInt ≤ 2147483647; omega) (fun z8874 h8875 => ?_)
        have h8875 : z8874.toInt = z8872.toInt + v8_5.toInt := h8875
        refine g_istore (lv' := [(6, .int z8874), (0, .ref a0), (1, .int a1), (2, .int a2), (3, .int a3), (4, .int a4), (5, .int v8_5)]) C dX12_gathers_22 (by decide) rfl ?_
        refine g_aload_n C dX12_gathers_24 rfl 1 rfl ?_
        refine g_getR C fi_X12_75 rfl e8859 (h8853).1 (h8853).2 dX12_gathers_25 ?_
        refine g_iload C dX12_gathers_28 0 rfl ?_
        refine g_iald (j := (z8874.toInt.toNat)) C h8860.1 h8860.2.1 (ix_in h8860.2.2 (by omega)) dX12_gathers_30 ?_
        have h8876 := I8.arr e8859 rfl (z8874.toInt.toNat)
        refine g_iload_n C dX12_gathers_31 rfl 3 rfl ?_
        have q8877 := X8.keepA (EM.refB X8 ha0 e8859) (by decide) rfl (z8874.toInt.toNat)
        have st := kC_step (f := pI P b8858) (o := (40 * a1.toInt).toNat) (b := a2.toInt) (k := (z8874.toInt.toNat)) (d := v8_5.toInt) (d2 := v8_5.toInt + 1) (by omega) (by omega) (by omega)
        have ko := kO_or (pI P b8858 (z8874.toInt.toNat)) a2.toInt
        refine b_icmp_ne C 89 dX12_gathers_32 (by decide) (fun h8878 => ?_) (fun h8878 => ?_)
        · have h8878 : (pI P8 b8858 (z8874.toInt.toNat)).toInt ≠ a2.toInt := ti_ne h8878
          refine g_lv (lv' := [(0, .ref a0), (1, .int a1), (2, .int a2), (3, .int a3), (4, .int a4), (5, .int v8_5)]) [1, 2, 3, 4, 5, 6] rfl ?_
          exact J89 P8 I8 X8 W8 (by omega) (by omega) (fun b9 e9 => by rw [e8855] at e9; cases e9; omega) (by show (pI P8 a0 28).toInt ≤ 5 + v8_5.toInt; omega) (by show v8_5.toInt < a4.toInt; omega) (by intro b922 e922; rw [e8859] at e922; cases e922; show (pI P8 a0 28).toInt ≤ 4 + kC (pI P b8858) (40 * a1.toInt).toNat a2.toInt (v8_5.toInt + 1 : Int).toNat; omega)
        · have h8878 : (pI P8 b8858 (z8874.toInt.toNat)).toInt = a2.toInt := congrArg Int32.toInt h8878
          refine g_aload_n C dX12_gathers_35 rfl 1 rfl ?_
          obtain ⟨b8879, e8880, h8881⟩ := I8.fld (h8853) 24 13 800 rfl
          refine g_getR C fi_X12_81 rfl e8880 (h8853).1 (h8853).2 dX12_gathers_36 ?_
          refine g_iload C dX12_gathers_39 0 rfl ?_
          refine g_iald (j := (z8874.toInt.toNat)) C h8881.1 h8881.2.1 (ix_in h8881.2.2 (by omega)) dX12_gathers_41 ?_
          refine g_iload_n C dX12_gathers_42 rfl 4 rfl ?_
          refine a_ishr C dX12_gathers_43 (fun z8882 => ?_)
          refine g_iconst (v := 1) C dX12_gathers_44 (by decide) ?_
          refine s_iand C dX12_gathers_45 (by show 0 ≤ 1; omega) (fun z8884 h8885 => ?_)
          have h8885 : 0 ≤ z8884.toInt ∧ z8884.toInt ≤ 1 := h8885
          refine g_iconst (v := 1) C dX12_gathers_46 (by decide) ?_
          refine b_icmp_ne C 89 dX12_gathers_47 (by decide) (fun h8886 => ?_) (fun h8886 => ?_)
          · have h8886 : z8884.toInt ≠ 1 := ti_ne h8886
            refine g_lv (lv' := [(0, .ref a0), (1, .int a1), (2, .int a2), (3, .int a3), (4, .int a4), (5, .int v8_5)]) [1, 2, 3, 4, 5, 6] rfl ?_
            exact J89 P8 I8 X8 W8 (by omega) (by omega) (fun b9 e9 => by rw [e8855] at e9; cases e9; omega) (by show (pI P8 a0 28).toInt ≤ 5 + v8_5.toInt; omega) (by show v8_5.toInt < a4.toInt; omega) (by intro b922 e922; rw [e8859] at e922; cases e922; show (pI P8 a0 28).toInt ≤ 4 + kC (pI P b8858) (40 * a1.toInt).toNat a2.toInt (v8_5.toInt + 1 : Int).toNat; omega)
          · have h8886 : z8884.toInt = 1 := congrArg Int32.toInt h8886
            refine g_aload_n C dX12_gathers_50 rfl 1 rfl ?_
            obtain ⟨b8887, e8888, h8889⟩ := I8.fld (h8853) 32 15 40 rfl
            refine g_getR C fi_X12_100 rfl e8888 (h8853).1 (h8853).2 dX12_gathers_51 ?_
            refine g_iload C dX12_gathers_54 6 rfl ?_
            refine g_zald (j := (v8_5.toInt.toNat)) C h8889.1 h8889.2.1 (ix_in h8889.2.2 (by omega)) dX12_gathers_56 ?_
            have u8891 := ti_rng (pI P8 b8887 (v8_5.toInt.toNat))
            refine b_if_ne C 89 dX12_gathers_57 (by decide) (fun h8890 => ?_) (fun h8890 => ?_)
            · have h8890 : (pI P8 b8887 (v8_5.toInt.toNat)).toInt ≠ 0 := ti_ne h8890
              refine g_lv (lv' := [(0, .ref a0), (1, .int a1), (2, .int a2), (3, .int a3), (4, .int a4), (5, .int v8_5)]) [1, 2, 3, 4, 5, 6] rfl ?_
              exact J89 P8 I8 X8 W8 (by omega) (by omega) (fun b9 e9 => by rw [e8855] at e9; cases e9; omega) (by show (pI P8 a0 28).toInt ≤ 5 + v8_5.toInt; omega) (by show v8_5.toInt < a4.toInt; omega) (by intro b922 e922; rw [e8859] at e922; cases e922; show (pI P8 a0 28).toInt ≤ 4 + kC (pI P b8858) (40 * a1.toInt).toNat a2.toInt (v8_5.toInt + 1 : Int).toNat; omega)
            · have h8890 : (pI P8 b8887 (v8_5.toInt.toNat)).toInt = 0 := congrArg Int32.toInt h8890
              refine g_aload_n C dX12_gathers_60 rfl 1 rfl ?_
              refine g_aload_n C dX12_gathers_61 rfl 1 rfl ?_
              refine g_iload_n C dX12_gathers_62 rfl 3 rfl ?_
              refine g_aload_n C dX12_gathers_63 rfl 1 rfl ?_
              obtain ⟨b8892, e8893, h8894⟩ := I8.fld (h8853) 21 13 800 rfl
              refine g_getR C fi_X12_72 rfl e8893 (h8853).1 (h8853).2 dX12_gathers_64 ?_
              refine g_iload C dX12_gathers_67 0 rfl ?_
              refine g_iald (j := (z8874.toInt.toNat)) C h8894.1 h8894.2.1 (ix_in h8894.2.2 (by omega)) dX12_gathers_69 ?_
              refine g_callVI (rest := [.ref a0]) C mv_X12_261 [.int a2, .int (pI P8 b8892 (z8874.toInt.toNat))] (s_X12_setOf I8 (by omega) (fun b9 e9 => by rw [e8855] at e9; cases e9; show 1 ≤ (pI P8 b8854 (a2.toInt.toNat)).toInt ∧ (pI P8 b8854 (a2.toInt.toNat)).toInt ≤ 16; omega) W8) (h8853).1 (h8853).2 rfl rfl (by decide) (Nat.le_of_ble_eq_true rfl) (by decide) dX12_gathers_70 (fun r8895 Y8896 h8897 => ?_)
              obtain ⟨Iy8898, Xy8899, W8900, h8897⟩ := h8897
              have q8901 := Xy8899.keepA e8855 (by decide) rfl (a2.toInt.toNat)
              have q8902 := Xy8899.keepF 28 (by decide)
              have q8903 := Xy8899.keepA e8859 (by decide) rfl (z8874.toInt.toNat)
              have q8904 := Xy8899.keepA e8888 (by decide) rfl (v8_5.toInt.toNat)
              have Xz8905 : EM [28, 29, 30, 31] a0 P Y8896 := EM.tr ha0 X8 (Xy8899.mono (by decide))
              have e8906 := Xy8899.ref h8853 (by decide) e8855
              have e8907 := Xy8899.ref h8853 (by decide) e8859
              have e8908 := Xy8899.ref h8853 (by decide) e8888
              have h8909 := Xy8899.at h8853
              have h8910 := Xy8899.ar h8856
              have h8911 := Xy8899.ar h8860
              have h8912 := Xy8899.ar h8889
              have h8897 : True := h8897
              refine g_aload_n C dX12_gathers_73 rfl 1 rfl ?_
              obtain ⟨b8913, e8914, h8915⟩ := Iy8898.fld (h8909) 23 13 800 rfl
              refine g_getR C fi_X12_78 rfl e8914 (h8909).1 (h8909).2 dX12_gathers_74 ?_
              refine g_iload C dX12_gathers_77 0 rfl ?_
              refine g_iald (j := (z8874.toInt.toNat)) C h8915.1 h8915.2.1 (ix_in h8915.2.2 (by omega)) dX12_gathers_79 ?_
              refine g_iload_n C dX12_gathers_80 rfl 4 rfl ?_
              refine g_callSI (b := 0) (ci := 0) (rest := [.int r8895, .ref a0]) C ms_X12_315 [.int (pI Y8896 b8913 (z8874.toInt.toNat)), .int a3] (s_X12_byteOf Iy8898.1) rfl rfl (by decide) (Nat.le_of_ble_eq_true rfl) (by decide) dX12_gathers_81 (fun r8916 Y8917 h8918 => ?_)
              obtain ⟨rfl, h8918⟩ := h8918
              have h8918 : 0 ≤ r8916.toInt ∧ r8916.toInt ≤ 255 := h8918
              refine g_iload C dX12_gathers_84 6 rfl ?_
              refine g_callVV (rest := []) C mv_X12_308 [.int r8895, .int r8916, .int v8_5] (s_X12_adds Iy8898 (by omega) W8900) (h8909).1 (h8909).2 rfl rfl (by decide) (Nat.le_of_ble_eq_true rfl) (by decide) dX12_gathers_86 (fun Y8920 h8921 => ?_)
              obtain ⟨Iy8922, Xy8923, W8924, p8925⟩ := h8921
              have p8925 : (pI Y8920 a0 28).toInt = (pI Y8896 a0 28).toInt + 1 := p8925
              have q8926 := Xy8923.keepA e8906 (by decide) rfl (a2.toInt.toNat)
              have q8927 := Xy8923.keepA e8907 (by decide) rfl (z8874.toInt.toNat)
              have q8928 := Xy8923.keepA e8908 (by decide) rfl (v8_5.toInt.toNat)
              have Xz8929 : EM [28, 29, 30, 31] a0 P Y8920 := EM.tr ha0 Xz8905 (Xy8923.mono (by decide))
              have e8930 := Xy8923.ref h8909 (by decide) e8906
              have e8931 := Xy8923.ref h8909 (by decide) e8907
              have e8932 := Xy8923.ref h8909 (by decide) e8908
              have h8933 := Xy8923.at h8909
              have h8934 := Xy8923.ar h8910
              have h8935 := Xy8923.ar h8911
              have h8936 := Xy8923.ar h8912
              have h8937 := Iy8922.rg h8933 28 rfl
              refine g_lv (lv' := [(0, .ref a0), (1, .int a1), (2, .int a2), (3, .int a3), (4, .int a4), (5, .int v8_5)]) [1, 2, 3, 4, 5, 6] rfl ?_
              exact J89 Y8920 Iy8922 Xz8929 W8924 (by omega) (by omega) (fun b9 e9 => by rw [e8930] at e9; cases e9; omega) (by show (pI Y8920 a0 28).toInt ≤ 5 + v8_5.toInt; omega) (by show v8_5.toInt < a4.toInt; omega) (by intro b922 e922; rw [e8931] at e922; cases e922; show (pI Y8920 a0 28).toInt ≤ 4 + kC (pI P b8858) (40 * a1.toInt).toNat a2.toInt (v8_5.toInt + 1 : Int).toNat; omega)
  obtain ⟨b8938, e8939, h8940⟩ := I.fld (ha0) 10 13 2 rfl
  have hf0 := hf0 b8938 e8939
  refine g_aload_n C dX12_gathers_0 rfl 0 rfl ?_
  refine g_iload_n C dX12_gathers_1 rfl 2 rfl ?_
  refine g_callVV (rest := []) C mv_X12_312 [.int a2] (s_X12_begins I (by omega) hW) (ha0).1 (ha0).2 rfl rfl (by decide) (Nat.le_of_ble_eq_true rfl) (by decide) dX12_gathers_2 (fun Y8942 h8943 => ?_)
  obtain ⟨Iy8944, Xy8945, W8946, p8947⟩ := h8943
  have p8947 : (pI Y8942 a0 28).toInt ≤ 4 := p8947
  have q8948 := Xy8945.keepA e8939 (by decide) rfl (a2.toInt.toNat)
  have Xz8949 : EM [28, 29, 30, 31] a0 P Y8942 := Xy8945.mono (by decide)
  have e8950 := Xy8945.ref ha0 (by decide) e8939
  have h8951 := Xy8945.at ha0
  have h8952 := Xy8945.ar h8940
  have h8953 := Iy8944.rg h8951 28 rfl
  refine g_iconst (v := 0) C dX12_gathers_5 (by decide) ?_
  obtain ⟨b8954, e8955, h8956⟩ := Iy8944.fld (h8951) 22 13 800 rfl
  have k0 : kC (pI P b8954) (40 * a1.toInt).toNat a2.toInt (0 : Int).toNat = 0 := rfl
  refine g_istore (lv' := [(5, .int 0), (0, .ref a0), (1, .int a1), (2, .int a2), (3, .int a3), (4, .int a4)]) C dX12_gathers_6 (by decide) rfl ?_
  refine g_lv (lv' := [(0, .ref a0), (1, .int a1), (2, .int a2), (3, .int a3), (4, .int a4), (5, .int 0)]) [1, 2, 3, 4, 5, 0] rfl ?_
  exact J8 _ Y8942 0 (Nat.lt_succ_self _) Iy8944 Xz8949 W8946 (by decide) (fun b9 e9 => by rw [e8950] at e9; cases e9; omega) (by show (pI Y8942 a0 28).toInt ≤ 4 + 0; omega) (by show 0 ≤ a4.toInt; omega) (by intro b922 e922; rw [e8955] at e922; cases e922; show (pI Y8942 a0 28).toInt ≤ 4 + kC (pI P b8954) (40 * a1.toInt).toNat a2.toInt (0 : Int).toNat; omega)
theorem dX12_agreesBy_23 : decode cX12_agreesBy 23 = .ok (.iconst 0, 1) := by decide +kernel
theorem dX12_agreesBy_24 : decode cX12_agreesBy 24 = .ok (.istore 5, 2) := by decide +kernel
theorem dX12_agreesBy_26 : decode cX12_agreesBy 26 = .ok (.iconst 0, 1) := by decide +kernel
theorem dX12_agreesBy_27 : decode cX12_agreesBy 27 = .ok (.istore 6, 2) := by decide +kernel
theorem dX12_agreesBy_29 : decode cX12_agreesBy 29 = .ok (.iload 6, 2) := by decide +kernel
theorem dX12_agreesBy_31 : decode cX12_agreesBy 31 = .ok (.aload_n 0, 1) := by decide +kernel
theorem dX12_agreesBy_32 : decode cX12_agreesBy 32 = .ok (.getfield 69, 3) := by decide +kernel
theorem dX12_agreesBy_35 : decode cX12_agreesBy 35 = .ok (.iload_n 1, 1) := by decide +kernel
theorem dX12_agreesBy_36 : decode cX12_agreesBy 36 = .ok (.iaload, 1) := by decide +kernel
theorem dX12_agreesBy_37 : decode cX12_agreesBy 37 = .ok (.if_icmp .ge 71, 3) := by decide +kernel
theorem dX12_agreesBy_108 : decode cX12_agreesBy 108 = .ok (.aload_n 0, 1) := by decide +kernel
theorem dX12_agreesBy_109 : decode cX12_agreesBy 109 = .ok (.invokevirtual 346, 3) := by decide +kernel
theorem dX12_findSolved_0 : decode cX12_findSolved 0 = .ok (.aload_n 0, 1) := by decide +kernel
theorem dX12_findSolved_1 : decode cX12_findSolved 1 = .ok (.iconst 0, 1) := by decide +kernel
theorem dX12_findSolved_2 : decode cX12_findSolved 2 = .ok (.putfield 324, 3) := by decide +kernel
theorem dX12_findSolved_5 : decode cX12_findSolved 5 = .ok (.aload_n 0, 1) := by decide +kernel
theorem dX12_findSolved_6 : decode cX12_findSolved 6 = .ok (.iconst 1, 1) := by decide +kernel
theorem dX12_findSolved_7 : decode cX12_findSolved 7 = .ok (.putfield 326, 3) := by decide +kernel
theorem dX12_findSolved_10 : decode cX12_findSolved 10 = .ok (.iconst 0, 1) := by decide +kernel
theorem dX12_findSolved_11 : decode cX12_findSolved 11 = .ok (.istore_n 1, 1) := by decide +kernel
theorem dX12_findSolved_12 : decode cX12_findSolved 12 = .ok (.iload_n 1, 1) := by decide +kernel
theorem dX12_findSolved_13 : decode cX12_findSolved 13 = .ok (.bipush 20, 2) := by decide +kernel
theorem dX12_findSolved_15 : decode cX12_findSolved 15 = .ok (.if_icmp .ge 16, 3) := by decide +kernel
theorem dX12_findSolved_18 : decode cX12_findSolved 18 = .ok (.aload_n 0, 1) := by decide +kernel
theorem dX12_findSolved_19 : decode cX12_findSolved 19 = .ok (.getfield 106, 3) := by decide +kernel
theorem dX12_findSolved_22 : decode cX12_findSolved 22 = .ok (.iload_n 1, 1) := by decide +kernel
theorem dX12_findSolved_23 : decode cX12_findSolved 23 = .ok (.iconst 0, 1) := by decide +kernel
theorem dX12_findSolved_24 : decode cX12_findSolved 24 = .ok (.iastore, 1) := by decide +kernel
theorem dX12_findSolved_25 : decode cX12_findSolved 25 = .ok (.iinc 1 1, 3) := by decide +kernel
theorem dX12_findSolved_28 : decode cX12_findSolved 28 = .ok (.goto (-16), 3) := by decide +kernel
theorem dX12_findSolved_31 : decode cX12_findSolved 31 = .ok (.iconst 0, 1) := by decide +kernel
theorem dX12_findSolved_32 : decode cX12_findSolved 32 = .ok (.istore_n 1, 1) := by decide +kernel
theorem dX12_findSolved_33 : decode cX12_findSolved 33 = .ok (.iload_n 1, 1) := by decide +kernel
theorem dX12_findSolved_34 : decode cX12_findSolved 34 = .ok (.aload_n 0, 1) := by decide +kernel
theorem dX12_findSolved_35 : decode cX12_findSolved 35 = .ok (.getfield 305, 3) := by decide +kernel
theorem dX12_findSolved_38 : decode cX12_findSolved 38 = .ok (.if_icmp .ge 224, 3) := by decide +kernel
theorem dX12_findSolved_41 : decode cX12_findSolved 41 = .ok (.aload_n 0, 1) := by decide +kernel
theorem dX12_findSolved_42 : decode cX12_findSolved 42 = .ok (.getfield 91, 3) := by decide +kernel
theorem dX12_findSolved_45 : decode cX12_findSolved 45 = .ok (.iload_n 1, 1) := by decide +kernel
theorem dX12_findSolved_46 : decode cX12_findSolved 46 = .ok (.iaload, 1) := by decide +kernel
theorem dX12_findSolved_47 : decode cX12_findSolved 47 = .ok (.istore_n 2, 1) := by decide +kernel
theorem dX12_findSolved_48 : decode cX12_findSolved 48 = .ok (.aload_n 0, 1) := by decide +kernel
theorem dX12_findSolved_49 : decode cX12_findSolved 49 = .ok (.getfield 94, 3) := by decide +kernel
theorem dX12_findSolved_52 : decode cX12_findSolved 52 = .ok (.iload_n 1, 1) := by decide +kernel
theorem dX12_findSolved_53 : decode cX12_findSolved 53 = .ok (.iaload, 1) := by decide +kernel
theorem dX12_findSolved_54 : decode cX12_findSolved 54 = .ok (.istore_n 3, 1) := by decide +kernel
theorem dX12_findSolved_55 : decode cX12_findSolved 55 = .ok (.iconst 0, 1) := by decide +kernel
theorem dX12_findSolved_56 : decode cX12_findSolved 56 = .ok (.istore 4, 2) := by decide +kernel
theorem dX12_findSolved_58 : decode cX12_findSolved 58 = .ok (.iload 4, 2) := by decide +kernel
theorem dX12_findSolved_60 : decode cX12_findSolved 60 = .ok (.bipush 20, 2) := by decide +kernel
theorem dX12_findSolved_62 : decode cX12_findSolved 62 = .ok (.if_icmp .ge 49, 3) := by decide +kernel
theorem dX12_findSolved_65 : decode cX12_findSolved 65 = .ok (.iload_n 2, 1) := by decide +kernel
theorem dX12_findSolved_66 : decode cX12_findSolved 66 = .ok (.iload 4, 2) := by decide +kernel
theorem dX12_findSolved_68 : decode cX12_findSolved 68 = .ok (.ishr, 1) := by decide +kernel
theorem dX12_findSolved_69 : decode cX12_findSolved 69 = .ok (.iconst 1, 1) := by decide +kernel
theorem dX12_findSolved_70 : decode cX12_findSolved 70 = .ok (.iand, 1) := by decide +kernel
theorem dX12_findSolved_71 : decode cX12_findSolved 71 = .ok (.iconst 1, 1) := by decide +kernel
theorem dX12_findSolved_72 : decode cX12_findSolved 72 = .ok (.if_icmp .ne 33, 3) := by decide +kernel
theorem dX12_findSolved_75 : decode cX12_findSolved 75 = .ok (.aload_n 0, 1) := by decide +kernel
theorem dX12_findSolved_76 : decode cX12_findSolved 76 = .ok (.getfield 106, 3) := by decide +kernel
theorem dX12_findSolved_79 : decode cX12_findSolved 79 = .ok (.iload 4, 2) := by decide +kernel
theorem dX12_findSolved_81 : decode cX12_findSolved 81 = .ok (.iaload, 1) := by decide +kernel
theorem dX12_findSolved_82 : decode cX12_findSolved 82 = .ok (.ifCond .eq 23, 3) := by decide +kernel
theorem dX12_findSolved_85 : decode cX12_findSolved 85 = .ok (.iload_n 2, 1) := by decide +kernel
theorem dX12_findSolved_86 : decode cX12_findSolved 86 = .ok (.aload_n 0, 1) := by decide +kernel
theorem dX12_findSolved_87 : decode cX12_findSolved 87 = .ok (.getfield 106, 3) := by decide +kernel
theorem dX12_findSolved_90 : decode cX12_findSolved 90 = .ok (.iload 4, 2) := by decide +kernel
theorem dX12_findSolved_92 : decode cX12_findSolved 92 = .ok (.iaload, 1) := by decide +kernel
theorem dX12_findSolved_93 : decode cX12_findSolved 93 = .ok (.ixor, 1) := by decide +kernel
theorem dX12_findSolved_94 : decode cX12_findSolved 94 = .ok (.istore_n 2, 1) := by decide +kernel
theorem dX12_findSolved_95 : decode cX12_findSolved 95 = .ok (.iload_n 3, 1) := by decide +kernel
theorem dX12_findSolved_96 : decode cX12_findSolved 96 = .ok (.aload_n 0, 1) := by decide +kernel
theorem dX12_findSolved_97 : decode cX12_findSolved 97 = .ok (.getfield 109, 3) := by decide +kernel
theorem dX12_findSolved_100 : decode cX12_findSolved 100 = .ok (.iload 4, 2) := by decide +kernel
theorem dX12_findSolved_102 : decode cX12_findSolved 102 = .ok (.iaload, 1) := by decide +kernel
theorem dX12_findSolved_103 : decode cX12_findSolved 103 = .ok (.ixor, 1) := by decide +kernel
theorem dX12_findSolved_104 : decode cX12_findSolved 104 = .ok (.istore_n 3, 1) := by decide +kernel
theorem dX12_findSolved_105 : decode cX12_findSolved 105 = .ok (.iinc 4 1, 3) := by decide +kernel
theorem dX12_findSolved_108 : decode cX12_findSolved 108 = .ok (.goto (-50), 3) := by decide +kernel
theorem dX12_findSolved_111 : decode cX12_findSolved 111 = .ok (.iconst (-1), 1) := by decide +kernel
theorem dX12_findSolved_112 : decode cX12_findSolved 112 = .ok (.istore 4, 2) := by decide +kernel
theorem dX12_findSolved_114 : decode cX12_findSolved 114 = .ok (.bipush 19, 2) := by decide +kernel
theorem dX12_findSolved_116 : decode cX12_findSolved 116 = .ok (.istore 5, 2) := by decide +kernel
theorem dX12_findSolved_118 : decode cX12_findSolved 118 = .ok (.iload 5, 2) := by decide +kernel
theorem dX12_findSolved_120 : decode cX12_findSolved 120 = .ok (.ifCond .lt 28, 3) := by decide +kernel
theorem dX12_findSolved_123 : decode cX12_findSolved 123 = .ok (.iload_n 2, 1) := by decide +kernel
theorem dX12_findSolved_124 : decode cX12_findSolved 124 = .ok (.iload 5, 2) := by decide +kernel
theorem dX12_findSolved_126 : decode cX12_findSolved 126 = .ok (.ishr, 1) := by decide +kernel
theorem dX12_findSolved_127 : decode cX12_findSolved 127 = .ok (.iconst 1, 1) := by decide +kernel
theorem dX12_findSolved_128 : decode cX12_findSolved 128 = .ok (.iand, 1) := by decide +kernel
theorem dX12_findSolved_129 : decode cX12_findSolved 129 = .ok (.iconst 1, 1) := by decide +kernel
theorem dX12_findSolved_130 : decode cX12_findSolved 130 = .ok (.if_icmp .ne 8, 3) := by decide +kernel
theorem dX12_findSolved_133 : decode cX12_findSolved 133 = .ok (.iload 5, 2) := by decide +kernel
theorem dX12_findSolved_135 : decode cX12_findSolved 135 = .ok (.goto 5, 3) := by decide +kernel
theorem dX12_findSolved_138 : decode cX12_findSolved 138 = .ok (.iload 4, 2) := by decide +kernel
theorem dX12_findSolved_140 : decode cX12_findSolved 140 = .ok (.istore 4, 2) := by decide +kernel
theorem dX12_findSolved_142 : decode cX12_findSolved 142 = .ok (.iinc 5 (-1), 3) := by decide +kernel
theorem dX12_findSolved_145 : decode cX12_findSolved 145 = .ok (.goto (-27), 3) := by decide +kernel
theorem dX12_findSolved_148 : decode cX12_findSolved 148 = .ok (.iload 4, 2) := by decide +kernel
theorem dX12_findSolved_150 : decode cX12_findSolved 150 = .ok (.ifCond .ge 26, 3) := by decide +kernel
theorem dX12_findSolved_153 : decode cX12_findSolved 153 = .ok (.aload_n 0, 1) := by decide +kernel
theorem dX12_findSolved_154 : decode cX12_findSolved 154 = .ok (.aload_n 0, 1) := by decide +kernel
theorem dX12_findSolved_155 : decode cX12_findSolved 155 = .ok (.getfield 326, 3) := by decide +kernel
theorem dX12_findSolved_158 : decode cX12_findSolved 158 = .ok (.ifCond .eq 11, 3) := by decide +kernel
theorem dX12_findSolved_161 : decode cX12_findSolved 161 = .ok (.iload_n 3, 1) := by decide +kernel
theorem dX12_findSolved_162 : decode cX12_findSolved 162 = .ok (.ifCond .ne 7, 3) := by decide +kernel
theorem dX12_findSolved_165 : decode cX12_findSolved 165 = .ok (.iconst 1, 1) := by decide +kernel
theorem dX12_findSolved_166 : decode cX12_findSolved 166 = .ok (.goto 4, 3) := by decide +kernel
theorem dX12_findSolved_169 : decode cX12_findSolved 169 = .ok (.iconst 0, 1) := by decide +kernel
theorem dX12_findSolved_170 : decode cX12_findSolved 170 = .ok (.putfield 326, 3) := by decide +kernel
theorem dX12_findSolved_173 : decode cX12_findSolved 173 = .ok (.goto 83, 3) := by decide +kernel
theorem dX12_findSolved_176 : decode cX12_findSolved 176 = .ok (.iconst 0, 1) := by decide +kernel
theorem dX12_findSolved_177 : decode cX12_findSolved 177 = .ok (.istore 5, 2) := by decide +kernel
theorem dX12_findSolved_179 : decode cX12_findSolved 179 = .ok (.iload 5, 2) := by decide +kernel
theorem dX12_findSolved_181 : decode cX12_findSolved 181 = .ok (.bipush 20, 2) := by decide +kernel
theorem dX12_findSolved_183 : decode cX12_findSolved 183 = .ok (.if_icmp .ge 47, 3) := by decide +kernel
theorem dX12_findSolved_186 : decode cX12_findSolved 186 = .ok (.aload_n 0, 1) := by decide +kernel
theorem dX12_findSolved_187 : decode cX12_findSolved 187 = .ok (.getfield 106, 3) := by decide +kernel
theorem dX12_findSolved_190 : decode cX12_findSolved 190 = .ok (.iload 5, 2) := by decide +kernel
theorem dX12_findSolved_192 : decode cX12_findSolved 192 = .ok (.iaload, 1) := by decide +kernel
theorem dX12_findSolved_193 : decode cX12_findSolved 193 = .ok (.iload 4, 2) := by decide +kernel
theorem dX12_findSolved_195 : decode cX12_findSolved 195 = .ok (.ishr, 1) := by decide +kernel
theorem dX12_findSolved_196 : decode cX12_findSolved 196 = .ok (.iconst 1, 1) := by decide +kernel
theorem dX12_findSolved_197 : decode cX12_findSolved 197 = .ok (.iand, 1) := by decide +kernel
theorem dX12_findSolved_198 : decode cX12_findSolved 198 = .ok (.iconst 1, 1) := by decide +kernel
theorem dX12_findSolved_199 : decode cX12_findSolved 199 = .ok (.if_icmp .ne 25, 3) := by decide +kernel
theorem dX12_findSolved_202 : decode cX12_findSolved 202 = .ok (.aload_n 0, 1) := by decide +kernel
theorem dX12_findSolved_203 : decode cX12_findSolved 203 = .ok (.getfield 106, 3) := by decide +kernel
theorem dX12_findSolved_206 : decode cX12_findSolved 206 = .ok (.iload 5, 2) := by decide +kernel
theorem dX12_findSolved_208 : decode cX12_findSolved 208 = .ok (.dup2, 1) := by decide +kernel
theorem dX12_findSolved_209 : decode cX12_findSolved 209 = .ok (.iaload, 1) := by decide +kernel
theorem dX12_findSolved_210 : decode cX12_findSolved 210 = .ok (.iload_n 2, 1) := by decide +kernel
theorem dX12_findSolved_211 : decode cX12_findSolved 211 = .ok (.ixor, 1) := by decide +kernel
theorem dX12_findSolved_212 : decode cX12_findSolved 212 = .ok (.iastore, 1) := by decide +kernel
theorem dX12_findSolved_213 : decode cX12_findSolved 213 = .ok (.aload_n 0, 1) := by decide +kernel
theorem dX12_findSolved_214 : decode cX12_findSolved 214 = .ok (.getfield 109, 3) := by decide +kernel
theorem dX12_findSolved_217 : decode cX12_findSolved 217 = .ok (.iload 5, 2) := by decide +kernel
theorem dX12_findSolved_219 : decode cX12_findSolved 219 = .ok (.dup2, 1) := by decide +kernel
theorem dX12_findSolved_220 : decode cX12_findSolved 220 = .ok (.iaload, 1) := by decide +kernel
theorem dX12_findSolved_221 : decode cX12_findSolved 221 = .ok (.iload_n 3, 1) := by decide +kernel
theorem dX12_findSolved_222 : decode cX12_findSolved 222 = .ok (.ixor, 1) := by decide +kernel
theorem dX12_findSolved_223 : decode cX12_findSolved 223 = .ok (.iastore, 1) := by decide +kernel
theorem dX12_findSolved_224 : decode cX12_findSolved 224 = .ok (.iinc 5 1, 3) := by decide +kernel
theorem dX12_findSolved_227 : decode cX12_findSolved 227 = .ok (.goto (-48), 3) := by decide +kernel
theorem dX12_findSolved_230 : decode cX12_findSolved 230 = .ok (.aload_n 0, 1) := by decide +kernel
theorem dX12_findSolved_231 : decode cX12_findSolved 231 = .ok (.getfield 106, 3) := by decide +kernel
theorem dX12_findSolved_234 : decode cX12_findSolved 234 = .ok (.iload 4, 2) := by decide +kernel
theorem dX12_findSolved_236 : decode cX12_findSolved 236 = .ok (.iload_n 2, 1) := by decide +kernel
theorem dX12_findSolved_237 : decode cX12_findSolved 237 = .ok (.iastore, 1) := by decide +kernel
theorem dX12_findSolved_238 : decode cX12_findSolved 238 = .ok (.aload_n 0, 1) := by decide +kernel
theorem dX12_findSolved_239 : decode cX12_findSolved 239 = .ok (.getfield 109, 3) := by decide +kernel
theorem dX12_findSolved_242 : decode cX12_findSolved 242 = .ok (.iload 4, 2) := by decide +kernel
theorem dX12_findSolved_244 : decode cX12_findSolved 244 = .ok (.iload_n 3, 1) := by decide +kernel
theorem dX12_findSolved_245 : decode cX12_findSolved 245 = .ok (.iastore, 1) := by decide +kernel
theorem dX12_findSolved_246 : decode cX12_findSolved 246 = .ok (.aload_n 0, 1) := by decide +kernel
theorem dX12_findSolved_247 : decode cX12_findSolved 247 = .ok (.dup, 1) := by decide +kernel
theorem dX12_findSolved_248 : decode cX12_findSolved 248 = .ok (.getfield 324, 3) := by decide +kernel
theorem dX12_findSolved_251 : decode cX12_findSolved 251 = .ok (.iconst 1, 1) := by decide +kernel
theorem dX12_findSolved_252 : decode cX12_findSolved 252 = .ok (.iadd, 1) := by decide +kernel
theorem dX12_findSolved_253 : decode cX12_findSolved 253 = .ok (.putfield 324, 3) := by decide +kernel
theorem dX12_findSolved_256 : decode cX12_findSolved 256 = .ok (.iinc 1 1, 3) := by decide +kernel
theorem dX12_findSolved_259 : decode cX12_findSolved 259 = .ok (.goto (-226), 3) := by decide +kernel
theorem dX12_findSolved_262 : decode cX12_findSolved 262 = .ok (.return_, 1) := by decide +kernel
set_option maxHeartbeats 4000000 in
set_option maxRecDepth 100000 in
theorem s_X12_findSolved {P : PP} {a0 : Nat} (I : IM P a0) (hW : MW P a0) : CtrV yX12_findSolved cX12_findSolved 6 none ({ frames := 1, cells := 0, slots := 0, locals := 64 } : Room) 0 0 P [.ref a0] (fun P2 => IM P2 a0 ∧ EM [35, 36, 37, 38] a0 P P2 ∧ MW P2 a0) := by
  refine enV (lv := [(0, .ref a0)]) (by decide) (Nat.le_of_ble_eq_true rfl) rfl (fun E D cy C Ci0 ret => ?_)
  have ha0 := I.2.1
  have J33 : ∀ (n33 : Nat) (P33 : PP) (v33_1 : Int32), (64 - v33_1.toInt).toNat < n33 → (IM P33 a0) → (EM [35, 36, 37, 38] a0 P P33) → (MW P33 a0) → (0 ≤ v33_1.toInt ∧ v33_1.toInt ≤ 64) → G E ({ frames := 1, cells := 0, slots := 0, locals := 64 } : Room) D cy 6 P33 0 0 33 [(0, .ref a0), (1, .int v33_1)] [] := by
    intro n33
    induction n33 with
    | zero => intro P33 v33_1 hm33 I33 X33 W33 hv33_1; omega
    | succ n33 ih33 =>
      intro P33 v33_1 hm33 I33 X33 W33 hv33_1
      have h15752 := X33.at ha0
      have J256 : ∀ (P256 : PP), (IM P256 a0) → (EM [35, 36, 37, 38] a0 P P256) → (MW P256 a0) → (0 ≤ v33_1.toInt ∧ v33_1.toInt ≤ 63) → (1 ≤ (pI P256 a0 28).toInt ∧ (pI P256 a0 28).toInt ≤ 64) → G E ({ frames := 1, cells := 0, slots := 0, locals := 64 } : Room) D cy 6 P256 0 0 256 [(0, .ref a0), (1, .int v33_1)] [] := by
        intro P256 I256 X256 W256 hv256_1 hq256_0
        have h15753 := X256.at ha0
        refine s_iinc (lv0 := [(0, .ref a0)]) (m := 1) C dX12_findSolved_256 1 rfl (by decide) rfl (by decide) (by omega) (fun z15754 h15755 => ?_)
        have h15755 : z15754.toInt = v33_1.toInt + 1 := h15755
        refine g_goto C 33 dX12_findSolved_259 (by decide) ?_
        refine g_lv (lv' := [(0, .ref a0), (1, .int z15754)]) [1, 0] rfl ?_
        exact ih33 P256 z15754 (by omega) I256 X256 W256 (by omega)
      have J179 : ∀ (n179 : Nat) (P179 : PP) (v179_2 : Int32) (v179_3 : Int32) (v179_4 : Int32) (v179_5 : Int32), (20 - v179_5.toInt).toNat < n179 → (IM P179 a0) → (EM [35, 36, 37, 38] a0 P P179) → (MW P179 a0) → (0 ≤ v33_1.toInt ∧ v33_1.toInt ≤ 63) → (0 ≤ v179_4.toInt ∧ v179_4.toInt ≤ 19) → (0 ≤ v179_5.toInt ∧ v179_5.toInt ≤ 20) → (1 ≤ (pI P179 a0 28).toInt ∧ (pI P179 a0 28).toInt ≤ 64) → G E ({ frames := 1, cells := 0, slots := 0, locals := 64 } : Room) D cy 6 P179 0 0 179 [(0, .ref a0), (1, .int v33_1), (2, .int v179_2), (3, .int v179_3), (4, .int v179_4), (5, .int v179_5)] [] := by
        intro n179
        induction n179 with
        | zero => intro P179 v179_2 v179_3 v179_4 v179_5 hm179 I179 X179 W179 hv179_1 hv179_4 hv179_5 hq179_0; omega
        | succ n179 ih179 =>
          intro P179 v179_2 v179_3 v179_4 v179_5 hm179 I179 X179 W179 hv179_1 hv179_4 hv179_5 hq179_0
          have h15756 := X179.at ha0
          have J224 : ∀ (P224 : PP), (IM P224 a0) → (EM [35, 36, 37, 38] a0 P P224) → (MW P224 a0) → (0 ≤ v33_1.toInt ∧ v33_1.toInt ≤ 63) → (0 ≤ v179_5.toInt ∧ v179_5.toInt ≤ 19) → (1 ≤ (pI P224 a0 28).toInt ∧ (pI P224 a0 28).toInt ≤ 64) → G E ({ frames := 1, cells := 0, slots := 0, locals := 64 } : Room) D cy 6 P224 0 0 224 [(0, .ref a0), (1, .int v33_1), (2, .int v179_2), (3, .int v179_3), (4, .int v179_4), (5, .int v179_5)] [] := by
            intro P224 I224 X224 W224 hv224_1 hv224_5 hq224_0
            have h15757 := X224.at ha0
            refine s_iinc (lv0 := [(0, .ref a0), (1, .int v33_1), (2, .int v179_2), (3, .int v179_3), (4, .int v179_4)]) (m := 1) C dX12_findSolved_224 5 rfl (by decide) rfl (by decide) (by omega) (fun z15758 h15759 => ?_)
            have h15759 : z15758.toInt = v179_5.toInt + 1 := h15759
            refine g_goto C 179 dX12_findSolved_227 (by decide) ?_
            refine g_lv (lv' := [(0, .ref a0), (1, .int v33_1), (2, .int v179_2), (3, .int v179_3), (4, .int v179_4), (5, .int z15758)]) [1, 2, 3, 4, 5, 0] rfl ?_
            exact ih179 P224 v179_2 v179_3 v179_4 z15758 (by omega) I224 X224 W224 (by omega) (by omega) (by omega) (by omega)
          refine g_iload C dX12_findSolved_179 5 rfl ?_
          refine g_bipush (v := 20) C dX12_findSolved_181 (by decide) ?_
          refine b_icmp_ge C 230 dX12_findSolved_183 (by decide) (fun h15760 => ?_) (fun h15760 => ?_)
          · have h15760 : 20 ≤ v179_5.toInt := h15760
            refine g_aload_n C dX12_findSolved_230 rfl 0 rfl ?_
            obtain ⟨b15761, e15762, h15763⟩ := I179.fld (h15756) 37 13 20 rfl
            refine g_getR C fi_X12_106 rfl e15762 (h15756).1 (h15756).2 dX12_findSolved_231 ?_
            refine g_iload C dX12_findSolved_234 4 rfl ?_
            refine g_iload_n C dX12_findSolved_236 rfl 2 rfl ?_
            refine g_iast (j := (v179_4.toInt.toNat)) C h15763.1 h15763.2.1 (ix_in h15763.2.2 (by omega)) dX12_findSolved_237 ?_
            refine gqW (ks := [37]) (I179.setA e15762 h15763 (by decide) (arOk.none rfl)) (EM.setA I179 e15762 rfl (by decide)) (fun Y15764 Iy15765 Xy15766 w15767 => ?_)
            have w15767 : (pI Y15764 b15761 (v179_4.toInt.toNat)).toInt = v179_2.toInt := w15767
            have q15768 := Xy15766.keepF 28 (by decide)
            have W15769 := W179.keep I179 Xy15766 (by decide) (by decide) (by decide)
            have Xz15770 : EM [35, 36, 37, 38] a0 P Y15764 := EM.tr ha0 X179 (Xy15766.mono (by decide))
            have e15771 := Xy15766.ref h15756 (by decide) e15762
            have h15772 := Xy15766.at h15756
            have h15773 := Xy15766.ar h15763
            refine g_aload_n C dX12_findSolved_238 rfl 0 rfl ?_
            obtain ⟨b15774, e15775, h15776⟩ := Iy15765.fld (h15772) 38 13 20 rfl
            refine g_getR C fi_X12_109 rfl e15775 (h15772).1 (h15772).2 dX12_findSolved_239 ?_
            refine g_iload C dX12_findSolved_242 4 rfl ?_
            refine g_iload_n C dX12_findSolved_244 rfl 3 rfl ?_
            refine g_iast (j := (v179_4.toInt.toNat)) C h15776.1 h15776.2.1 (ix_in h15776.2.2 (by omega)) dX12_findSolved_245 ?_
            refine gqW (ks := [38]) (Iy15765.setA e15775 h15776 (by decide) (arOk.none rfl)) (EM.setA Iy15765 e15775 rfl (by decide)) (fun Y15777 Iy15778 Xy15779 w15780 => ?_)
            have w15780 : (pI Y15777 b15774 (v179_4.toInt.toNat)).toInt = v179_3.toInt := w15780
            have q15781 := Xy15779.keepF 28 (by decide)
            have q15782 := Xy15779.keepA e15771 (by decide) rfl (v179_4.toInt.toNat)
            have W15783 := W15769.keep Iy15765 Xy15779 (by decide) (by decide) (by decide)
            have Xz15784 : EM [35, 36, 37, 38] a0 P Y15777 := EM.tr ha0 Xz15770 (Xy15779.mono (by decide))
            have e15785 := Xy15779.ref h15772 (by decide) e15771
            have e15786 := Xy15779.ref h15772 (by decide) e15775
            have h15787 := Xy15779.at h15772
            have h15788 := Xy15779.ar h15773
            have h15789 := Xy15779.ar h15776
            refine g_aload_n C dX12_findSolved_246 rfl 0 rfl ?_
            refine g_dup C dX12_findSolved_247 rfl ?_
            refine g_getI C fi_X12_324 (by decide) (h15787).1 (h15787).2 dX12_findSolved_248 ?_
            refine g_iconst (v := 1) C dX12_findSolved_251 (by decide) ?_
            refine a_iadd C dX12_findSolved_252 (fun z15790 => ?_)
            refine g_putI C fi_X12_324 rfl (h15787).1 (h15787).2 dX12_findSolved_253 ?_
            refine gqW (ks := [35]) (Iy15778.setI (rgOk.none rfl)) (EM.setI Iy15778 (by decide)) (fun Y15792 Iy15793 Xy15794 w15795 => ?_)
            have w15795 : (pI Y15792 a0 35).toInt = z15790.toInt := w15795
            have q15796 := Xy15794.keepF 28 (by decide)
            have q15797 := Xy15794.keepA e15785 (by decide) rfl (v179_4.toInt.toNat)
            have q15798 := Xy15794.keepA e15786 (by decide) rfl (v179_4.toInt.toNat)
            have W15799 := W15783.keep Iy15778 Xy15794 (by decide) (by decide) (by decide)
            have Xz15800 : EM [35, 36, 37, 38] a0 P Y15792 := EM.tr ha0 Xz15784 (Xy15794.mono (by decide))
            have e15801 := Xy15794.ref h15787 (by decide) e15785
            have e15802 := Xy15794.ref h15787 (by decide) e15786
            have h15803 := Xy15794.at h15787
            have h15804 := Xy15794.ar h15788
            have h15805 := Xy15794.ar h15789
            refine g_lv (lv' := [(0, .ref a0), (1, .int v33_1)]) [0, 1] rfl ?_
            exact J256 Y15792 Iy15793 Xz15800 W15799 (by omega) (by omega)
          · have h15760 : v179_5.toInt < 20 := h15760
            refine g_aload_n C dX12_findSolved_186 rfl 0 rfl ?_
            obtain ⟨b15806, e15807, h15808⟩ := I179.fld (h15756) 37 13 20 rfl
            refine g_getR C fi_X12_106 rfl e15807 (h15756).1 (h15756).2 dX12_findSolved_187 ?_
            refine g_iload C dX12_findSolved_190 5 rfl ?_
            refine g_iald (j := (v179_5.toInt.toNat)) C h15808.1 h15808.2.1 (ix_in h15808.2.2 (by omega)) dX12_findSolved_192 ?_
            refine g_iload C dX12_findSolved_193 4 rfl ?_
            refine a_ishr C dX12_findSolved_195 (fun z15809 => ?_)
            refine g_iconst (v := 1) C dX12_findSolved_196 (by decide) ?_
            refine s_iand C dX12_findSolved_197 (by show 0 ≤ 1; omega) (fun z15811 h15812 => ?_)
            have h15812 : 0 ≤ z15811.toInt ∧ z15811.toInt ≤ 1 := h15812
            refine g_iconst (v := 1) C dX12_findSolved_198 (by decide) ?_
            refine b_icmp_ne C 224 dX12_findSolved_199 (by decide) (fun h15813 => ?_) (fun h15813 => ?_)
            · have h15813 : z15811.toInt ≠ 1 := ti_ne h15813
              exact J224 P179 I179 X179 W179 (by omega) (by omega) (by omega)
            · have h15813 : z15811.toInt = 1 := congrArg Int32.toInt h15813
              refine g_aload_n C dX12_findSolved_202 rfl 0 rfl ?_
              refine g_getR C fi_X12_106 rfl e15807 (h15756).1 (h15756).2 dX12_findSolved_203 ?_
              refine g_iload C dX12_findSolved_206 5 rfl ?_
              refine g_dup2_11 C dX12_findSolved_208 rfl rfl ?_
              refine g_iald (j := (v179_5.toInt.toNat)) C h15808.1 h15808.2.1 (ix_in h15808.2.2 (by omega)) dX12_findSolved_209 ?_
              refine g_iload_n C dX12_findSolved_210 rfl 2 rfl ?_
              refine a_ixor C dX12_findSolved_211 (fun z15814 => ?_)
              refine g_iast (j := (v179_5.toInt.toNat)) C h15808.1 h15808.2.1 (ix_in h15808.2.2 (by omega)) dX12_findSolved_212 ?_
              refine gqW (ks := [37]) (I179.setA e15807 h15808 (by decide) (arOk.none rfl)) (EM.setA I179 e15807 rfl (by decide)) (fun Y15816 Iy15817 Xy15818 w15819 => ?_)
              have w15819 : (pI Y15816 b15806 (v179_5.toInt.toNat)).toInt = z15814.toInt := w15819
              have q15820 := Xy15818.keepF 28 (by decide)
              have W15821 := W179.keep I179 Xy15818 (by decide) (by decide) (by decide)
              have Xz15822 : EM [35, 36, 37, 38] a0 P Y15816 := EM.tr ha0 X179 (Xy15818.mono (by decide))
              have e15823 := Xy15818.ref h15756 (by decide) e15807
              have h15824 := Xy15818.at h15756
              have h15825 := Xy15818.ar h15808
              refine g_aload_n C dX12_findSolved_213 rfl 0 rfl ?_
              obtain ⟨b15826, e15827, h15828⟩ := Iy15817.fld (h15824) 38 13 20 rfl
              refine g_getR C fi_X12_109 rfl e15827 (h15824).1 (h15824).2 dX12_findSolved_214 ?_
              refine g_iload C dX12_findSolved_217 5 rfl ?_
              refine g_dup2_11 C dX12_findSolved_219 rfl rfl ?_
              refine g_iald (j := (v179_5.toInt.toNat)) C h15828.1 h15828.2.1 (ix_in h15828.2.2 (by omega)) dX12_findSolved_220 ?_
              refine g_iload_n C dX12_findSolved_221 rfl 3 rfl ?_
              refine a_ixor C dX12_findSolved_222 (fun z15829 => ?_)
              refine g_iast (j := (v179_5.toInt.toNat)) C h15828.1 h15828.2.1 (ix_in h15828.2.2 (by omega)) dX12_findSolved_223 ?_
              refine gqW (ks := [38]) (Iy15817.setA e15827 h15828 (by decide) (arOk.none rfl)) (EM.setA Iy15817 e15827 rfl (by decide)) (fun Y15831 Iy15832 Xy15833 w15834 => ?_)
              have w15834 : (pI Y15831 b15826 (v179_5.toInt.toNat)).toInt = z15829.toInt := w15834
              have q15835 := Xy15833.keepF 28 (by decide)
              have q15836 := Xy15833.keepA e15823 (by decide) rfl (v179_5.toInt.toNat)
              have W15837 := W15821.keep Iy15817 Xy15833 (by decide) (by decide) (by decide)
              have Xz15838 : EM [35, 36, 37, 38] a0 P Y15831 := EM.tr ha0 Xz15822 (Xy15833.mono (by decide))
              have e15839 := Xy15833.ref h15824 (by decide) e15823
              have e15840 := Xy15833.ref h15824 (by decide) e15827
              have h15841 := Xy15833.at h15824
              have h15842 := Xy15833.ar h15825
              have h15843 := Xy15833.ar h15828
              exact J224 Y15831 Iy15832 Xz15838 W15837 (by omega) (by omega) (by omega)
      have J170 : ∀ (v170_s0 : Int32), (0 ≤ v33_1.toInt ∧ v33_1.toInt ≤ 63) → (0 ≤ v170_s0.toInt ∧ v170_s0.toInt ≤ 1) → (1 ≤ (pI P33 a0 28).toInt ∧ (pI P33 a0 28).toInt ≤ 64) → G E ({ frames := 1, cells := 0, slots := 0, locals := 64 } : Room) D cy 6 P33 0 0 170 [(0, .ref a0), (1, .int v33_1)] [.int v170_s0, .ref a0] := by
        intro v170_s0 hv170_1 hv170_s0 hq170_0
        have h15844 := X33.at ha0
        refine g_putZ C fi_X12_326 rfl (b01 (by omega)) (h15844).1 (h15844).2 dX12_findSolved_170 ?_
        refine gqW (ks := [36]) (I33.setI (rgOk.of rfl (by omega))) (EM.setI I33 (by decide)) (fun Y15845 Iy15846 Xy15847 w15848 => ?_)
        have w15848 : (pI Y15845 a0 36).toInt = v170_s0.toInt := w15848
        have q15849 := Xy15847.keepF 28 (by decide)
        have W15850 := W33.keep I33 Xy15847 (by decide) (by decide) (by decide)
        have Xz15851 : EM [35, 36, 37, 38] a0 P Y15845 := EM.tr ha0 X33 (Xy15847.mono (by decide))
        have h15852 := Xy15847.at h15844
        refine g_goto C 256 dX12_findSolved_173 (by decide) ?_
        exact J256 Y15845 Iy15846 Xz15851 W15850 (by omega) (by omega)
      have J169 : (0 ≤ v33_1.toInt ∧ v33_1.toInt ≤ 63) → (1 ≤ (pI P33 a0 28).toInt ∧ (pI P33 a0 28).toInt ≤ 64) → (0 ≤ (pI P33 a0 36).toInt ∧ (pI P33 a0 36).toInt ≤ 1) → G E ({ frames := 1, cells := 0, slots := 0, locals := 64 } : Room) D cy 6 P33 0 0 169 [(0, .ref a0), (1, .int v33_1)] [.ref a0] := by
        intro hv169_1 hq169_0 hq169_1
        have h15853 := X33.at ha0
        refine g_iconst (v := 0) C dX12_findSolved_169 (by decide) ?_
        exact J170 0 (by omega) (by decide) (by omega)
      have J118 : ∀ (n118 : Nat) (v118_2 : Int32) (v118_3 : Int32) (v118_4 : Int32) (v118_5 : Int32), (v118_5.toInt - (-1)).toNat < n118 → (0 ≤ v33_1.toInt ∧ v33_1.toInt ≤ 63) → (-1 ≤ v118_4.toInt ∧ v118_4.toInt ≤ 19) → (-1 ≤ v118_5.toInt ∧ v118_5.toInt ≤ 19) → (1 ≤ (pI P33 a0 28).toInt ∧ (pI P33 a0 28).toInt ≤ 64) → G E ({ frames := 1, cells := 0, slots := 0, locals := 64 } : Room) D cy 6 P33 0 0 118 [(0, .ref a0), (1, .int v33_1), (2, .int v118_2), (3, .int v118_3), (4, .int v118_4), (5, .int v118_5)] [] := by
        intro n118
        induction n118 with
        | zero => intro v118_2 v118_3 v118_4 v118_5 hm118 hv118_1 hv118_4 hv118_5 hq118_0; omega
        | succ n118 ih118 =>
          intro v118_2 v118_3 v118_4 v118_5 hm118 hv118_1 hv118_4 hv118_5 hq118_0
          have h15854 := X33.at ha0
          have J140 : ∀ (v140_s0 : Int32), (0 ≤ v33_1.toInt ∧ v33_1.toInt ≤ 63) → (0 ≤ v118_5.toInt ∧ v118_5.toInt ≤ 19) → (-1 ≤ v140_s0.toInt ∧ v140_s0.toInt ≤ 19) → (1 ≤ (pI P33 a0 28).toInt ∧ (pI P33 a0 28).toInt ≤ 64) → G E ({ frames := 1, cells := 0, slots := 0, locals := 64 } : Room) D cy 6 P33 0 0 140 [(0, .ref a0), (1, .int v33_1), (2, .int v118_2), (3, .int v118_3), (5, .int v118_5)] [.int v140_s0] := by
            intro v140_s0 hv140_1 hv140_5 hv140_s0 hq140_0
            have h15855 := X33.at ha0
            refine g_istore (lv' := [(4, .int v140_s0), (0, .ref a0), (1, .int v33_1), (2, .int v118_2), (3, .int v118_3), (5, .int v118_5)]) C dX12_findSolved_140 (by decide) rfl ?_
            refine s_iinc (lv0 := [(4, .int v140_s0), (0, .ref a0), (1, .int v33_1), (2, .int v118_2), (3, .int v118_3)]) (m := -1) C dX12_findSolved_142 5 rfl (by decide) rfl (by decide) (by omega) (fun z15856 h15857 => ?_)
            have h15857 : z15856.toInt = v118_5.toInt + (-1) := h15857
            refine g_goto C 118 dX12_findSolved_145 (by decide) ?_
            refine g_lv (lv' := [(0, .ref a0), (1, .int v33_1), (2, .int v118_2), (3, .int v118_3), (4, .int v140_s0), (5, .int z15856)]) [2, 3, 4, 5, 1, 0] rfl ?_
            exact ih118 v118_2 v118_3 v140_s0 z15856 (by omega) (by omega) (by omega) (by omega) (by omega)
          refine g_iload C dX12_findSolved_118 5 rfl ?_
          refine b_if_lt C 148 dX12_findSolved_120 (by decide) (fun h15858 => ?_) (fun h15858 => ?_)
          · have h15858 : v118_5.toInt < 0 := h15858
            refine g_iload C dX12_findSolved_148 4 rfl ?_
            refine b_if_ge C 176 dX12_findSolved_150 (by decide) (fun h15859 => ?_) (fun h15859 => ?_)
            · have h15859 : 0 ≤ v118_4.toInt := h15859
              refine g_iconst (v := 0) C dX12_findSolved_176 (by decide) ?_
              refine g_istore (lv' := [(5, .int 0), (0, .ref a0), (1, .int v33_1), (2, .int v118_2), (3, .int v118_3), (4, .int v118_4)]) C dX12_findSolved_177 (by decide) rfl ?_
              refine g_lv (lv' := [(0, .ref a0), (1, .int v33_1), (2, .int v118_2), (3, .int v118_3), (4, .int v118_4), (5, .int 0)]) [1, 2, 3, 4, 5, 0] rfl ?_
              exact J179 _ P33 v118_2 v118_3 v118_4 0 (Nat.lt_succ_self _) I33 X33 W33 (by omega) (by omega) (by decide) (by omega)
            · have h15859 : v118_4.toInt < 0 := h15859
              refine g_aload_n C dX12_findSolved_153 rfl 0 rfl ?_
              refine g_aload_n C dX12_findSolved_154 rfl 0 rfl ?_
              refine g_getI C fi_X12_326 (by decide) (h15854).1 (h15854).2 dX12_findSolved_155 ?_
              have h15860 := I33.rg (h15854) 36 rfl
              refine b_if_eq C 169 dX12_findSolved_158 (by decide) (fun h15861 => ?_) (fun h15861 => ?_)
              · have h15861 : (pI P33 a0 36).toInt = 0 := congrArg Int32.toInt h15861
                refine g_lv (lv' := [(0, .ref a0), (1, .int v33_1)]) [0, 1] rfl ?_
                exact J169 (by omega) (by omega) (by omega)
              · have h15861 : (pI P33 a0 36).toInt ≠ 0 := ti_ne h15861
                refine g_iload_n C dX12_findSolved_161 rfl 3 rfl ?_
                have u15863 := ti_rng v118_3
                refine b_if_ne C 169 dX12_findSolved_162 (by decide) (fun h15862 => ?_) (fun h15862 => ?_)
                · have h15862 : v118_3.toInt ≠ 0 := ti_ne h15862
                  refine g_lv (lv' := [(0, .ref a0), (1, .int v33_1)]) [0, 1] rfl ?_
                  exact J169 (by omega) (by omega) (by omega)
                · have h15862 : v118_3.toInt = 0 := congrArg Int32.toInt h15862
                  refine g_iconst (v := 1) C dX12_findSolved_165 (by decide) ?_
                  refine g_goto C 170 dX12_findSolved_166 (by decide) ?_
                  refine g_lv (lv' := [(0, .ref a0), (1, .int v33_1)]) [0, 1] rfl ?_
                  exact J170 1 (by omega) (by decide) (by omega)
          · have h15858 : 0 ≤ v118_5.toInt := h15858
            refine g_iload_n C dX12_findSolved_123 rfl 2 rfl ?_
            refine g_iload C dX12_findSolved_124 5 rfl ?_
            refine a_ishr C dX12_findSolved_126 (fun z15864 => ?_)
            refine g_iconst (v := 1) C dX12_findSolved_127 (by decide) ?_
            refine s_iand C dX12_findSolved_128 (by show 0 ≤ 1; omega) (fun z15866 h15867 => ?_)
            have h15867 : 0 ≤ z15866.toInt ∧ z15866.toInt ≤ 1 := h15867
            refine g_iconst (v := 1) C dX12_findSolved_129 (by decide) ?_
            refine b_icmp_ne C 138 dX12_findSolved_130 (by decide) (fun h15868 => ?_) (fun h15868 => ?_)
            · have h15868 : z15866.toInt ≠ 1 := ti_ne h15868
              refine g_iload C dX12_findSolved_138 4 rfl ?_
              refine g_lv (lv' := [(0, .ref a0), (1, .int v33_1), (2, .int v118_2), (3, .int v118_3), (5, .int v118_5)]) [0, 1, 2, 3, 5] rfl ?_
              exact J140 v118_4 (by omega) (by omega) (by omega) (by omega)
            · have h15868 : z15866.toInt = 1 := congrArg Int32.toInt h15868
              refine g_iload C dX12_findSolved_133 5 rfl ?_
              refine g_goto C 140 dX12_findSolved_135 (by decide) ?_
              refine g_lv (lv' := [(0, .ref a0), (1, .int v33_1), (2, .int v118_2), (3, .int v118_3), (5, .int v118_5)]) [0, 1, 2, 3, 5] rfl ?_
              exact J140 v118_5 (by omega) (by omega) (by omega) (by omega)
      have J58 : ∀ (n58 : Nat) (v58_2 : Int32) (v58_3 : Int32) (v58_4 : Int32), (20 - v58_4.toInt).toNat < n58 → (0 ≤ v33_1.toInt ∧ v33_1.toInt ≤ 63) → (0 ≤ v58_4.toInt ∧ v58_4.toInt ≤ 20) → (1 ≤ (pI P33 a0 28).toInt ∧ (pI P33 a0 28).toInt ≤ 64) → G E ({ frames := 1, cells := 0, slots := 0, locals := 64 } : Room) D cy 6 P33 0 0 58 [(0, .ref a0), (1, .int v33_1), (2, .int v58_2), (3, .int v58_3), (4, .int v58_4)] [] := by
        intro n58
        induction n58 with
        | zero => intro v58_2 v58_3 v58_4 hm58 hv58_1 hv58_4 hq58_0; omega
        | succ n58 ih58 =>
          intro v58_2 v58_3 v58_4 hm58 hv58_1 hv58_4 hq58_0
          have h15869 := X33.at ha0
          have J105 : ∀ (v105_2 : Int32) (v105_3 : Int32), (0 ≤ v33_1.toInt ∧ v33_1.toInt ≤ 63) → (0 ≤ v58_4.toInt ∧ v58_4.toInt ≤ 19) → (1 ≤ (pI P33 a0 28).toInt ∧ (pI P33 a0 28).toInt ≤ 64) → G E ({ frames := 1, cells := 0, slots := 0, locals := 64 } : Room) D cy 6 P33 0 0 105 [(0, .ref a0), (1, .int v33_1), (2, .int v105_2), (3, .int v105_3), (4, .int v58_4)] [] := by
            intro v105_2 v105_3 hv105_1 hv105_4 hq105_0
            have h15870 := X33.at ha0
            refine s_iinc (lv0 := [(0, .ref a0), (1, .int v33_1), (2, .int v105_2), (3, .int v105_3)]) (m := 1) C dX12_findSolved_105 4 rfl (by decide) rfl (by decide) (by omega) (fun z15871 h15872 => ?_)
            have h15872 : z15871.toInt = v58_4.toInt + 1 := h15872
            refine g_goto C 58 dX12_findSolved_108 (by decide) ?_
            refine g_lv (lv' := [(0, .ref a0), (1, .int v33_1), (2, .int v105_2), (3, .int v105_3), (4, .int z15871)]) [1, 2, 3, 4, 0] rfl ?_
            exact ih58 v105_2 v105_3 z15871 (by omega) (by omega) (by omega) (by omega)
          refine g_iload C dX12_findSolved_58 4 rfl ?_
          refine g_bipush (v := 20) C dX12_findSolved_60 (by decide) ?_
          refine b_icmp_ge C 111 dX12_findSolved_62 (by decide) (fun h15873 => ?_) (fun h15873 => ?_)
          · have h15873 : 20 ≤ v58_4.toInt := h15873
            refine g_iconst (v := (-1)) C dX12_findSolved_111 (by decide) ?_
            refine g_istore (lv' := [(4, .int (-1)), (0, .ref a0), (1, .int v33_1), (2, .int v58_2), (3, .int v58_3)]) C dX12_findSolved_112 (by decide) rfl ?_
            refine g_bipush (v := 19) C dX12_findSolved_114 (by decide) ?_
            refine g_istore (lv' := [(5, .int 19), (4, .int (-1)), (0, .ref a0), (1, .int v33_1), (2, .int v58_2), (3, .int v58_3)]) C dX12_findSolved_116 (by decide) rfl ?_
            refine g_lv (lv' := [(0, .ref a0), (1, .int v33_1), (2, .int v58_2), (3, .int v58_3), (4, .int (-1)), (5, .int 19)]) [2, 3, 4, 5, 1, 0] rfl ?_
            exact J118 _ v58_2 v58_3 (-1) 19 (Nat.lt_succ_self _) (by omega) (by decide) (by decide) (by omega)
          · have h15873 : v58_4.toInt < 20 := h15873
            refine g_iload_n C dX12_findSolved_65 rfl 2 rfl ?_
            refine g_iload C dX12_findSolved_66 4 rfl ?_
            refine a_ishr C dX12_findSolved_68 (fun z15874 => ?_)
            refine g_iconst (v := 1) C dX12_findSolved_69 (by decide) ?_
            refine s_iand C dX12_findSolved_70 (by show 0 ≤ 1; omega) (fun z15876 h15877 => ?_)
            have h15877 : 0 ≤ z15876.toInt ∧ z15876.toInt ≤ 1 := h15877
            refine g_iconst (v := 1) C dX12_findSolved_71 (by decide) ?_
            refine b_icmp_ne C 105 dX12_findSolved_72 (by decide) (fun h15878 => ?_) (fun h15878 => ?_)
            · have h15878 : z15876.toInt ≠ 1 := ti_ne h15878
              exact J105 v58_2 v58_3 (by omega) (by omega) (by omega)
            · have h15878 : z15876.toInt = 1 := congrArg Int32.toInt h15878
              refine g_aload_n C dX12_findSolved_75 rfl 0 rfl ?_
              obtain ⟨b15879, e15880, h15881⟩ := I33.fld (h15869) 37 13 20 rfl
              refine g_getR C fi_X12_106 rfl e15880 (h15869).1 (h15869).2 dX12_findSolved_76 ?_
              refine g_iload C dX12_findSolved_79 4 rfl ?_
              refine g_iald (j := (v58_4.toInt.toNat)) C h15881.1 h15881.2.1 (ix_in h15881.2.2 (by omega)) dX12_findSolved_81 ?_
              have u15883 := ti_rng (pI P33 b15879 (v58_4.toInt.toNat))
              refine b_if_eq C 105 dX12_findSolved_82 (by decide) (fun h15882 => ?_) (fun h15882 => ?_)
              · have h15882 : (pI P33 b15879 (v58_4.toInt.toNat)).toInt = 0 := congrArg Int32.toInt h15882
                exact J105 v58_2 v58_3 (by omega) (by omega) (by omega)
              · have h15882 : (pI P33 b15879 (v58_4.toInt.toNat)).toInt ≠ 0 := ti_ne h15882
                refine g_iload_n C dX12_findSolved_85 rfl 2 rfl ?_
                refine g_aload_n C dX12_findSolved_86 rfl 0 rfl ?_
                refine g_getR C fi_X12_106 rfl e15880 (h15869).1 (h15869).2 dX12_findSolved_87 ?_
                refine g_iload C dX12_findSolved_90 4 rfl ?_
                refine g_iald (j := (v58_4.toInt.toNat)) C h15881.1 h15881.2.1 (ix_in h15881.2.2 (by omega)) dX12_findSolved_92 ?_
                refine a_ixor C dX12_findSolved_93 (fun z15884 => ?_)
                refine g_istore_n (lv' := [(2, .int z15884), (0, .ref a0), (1, .int v33_1), (3, .int v58_3), (4, .int v58_4)]) C dX12_findSolved_94 rfl (by decide) rfl ?_
                refine g_iload_n C dX12_findSolved_95 rfl 3 rfl ?_
                refine g_aload_n C dX12_findSolved_96 rfl 1 rfl ?_
                obtain ⟨b15886, e15887, h15888⟩ := I33.fld (h15869) 38 13 20 rfl
                refine g_getR C fi_X12_109 rfl e15887 (h15869).1 (h15869).2 dX12_findSolved_97 ?_
                refine g_iload C dX12_findSolved_100 4 rfl ?_
                refine g_iald (j := (v58_4.toInt.toNat)) C h15888.1 h15888.2.1 (ix_in h15888.2.2 (by omega)) dX12_findSolved_102 ?_
                refine a_ixor C dX12_findSolved_103 (fun z15889 => ?_)
                refine g_istore_n (lv' := [(3, .int z15889), (2, .int z15884), (0, .ref a0), (1, .int v33_1), (4, .int v58_4)]) C dX12_findSolved_104 rfl (by decide) rfl ?_
                refine g_lv (lv' := [(0, .ref a0), (1, .int v33_1), (2, .int z15884), (3, .int z15889), (4, .int v58_4)]) [2, 3, 1, 0, 4] rfl ?_
                exact J105 z15884 z15889 (by omega) (by omega) (by omega)
      refine g_iload_n C dX12_findSolved_33 rfl 1 rfl ?_
      refine g_aload_n C dX12_findSolved_34 rfl 0 rfl ?_
      refine g_getI C fi_X12_305 (by decide) (h15752).1 (h15752).2 dX12_findSolved_35 ?_
      have h15891 := I33.rg (h15752) 28 rfl
      refine b_icmp_ge C 262 dX12_findSolved_38 (by decide) (fun h15892 => ?_) (fun h15892 => ?_)
      · have h15892 : (pI P33 a0 28).toInt ≤ v33_1.toInt := h15892
        exact ret _ _ _ _ _ dX12_findSolved_262 (by decide) (by decide) ⟨I33, X33, W33⟩
      · have h15892 : v33_1.toInt < (pI P33 a0 28).toInt := h15892
        refine g_aload_n C dX12_findSolved_41 rfl 0 rfl ?_
        obtain ⟨b15893, e15894, h15895⟩ := I33.fld (h15752) 29 13 64 rfl
        refine g_getR C fi_X12_91 rfl e15894 (h15752).1 (h15752).2 dX12_findSolved_42 ?_
        refine g_iload_n C dX12_findSolved_45 rfl 1 rfl ?_
        refine g_iald (j := (v33_1.toInt.toNat)) C h15895.1 h15895.2.1 (ix_in h15895.2.2 (by omega)) dX12_findSolved_46 ?_
        refine g_topi (fun z15896 h15897 => ?_)
        have h15897 : z15896.toInt = (pI P33 b15893 (v33_1.toInt.toNat)).toInt := congrArg Int32.toInt h15897
        refine g_istore_n (lv' := [(2, .int z15896), (0, .ref a0), (1, .int v33_1)]) C dX12_findSolved_47 rfl (by decide) rfl ?_
        refine g_aload_n C dX12_findSolved_48 rfl 1 rfl ?_
        obtain ⟨b15898, e15899, h15900⟩ := I33.fld (h15752) 30 13 64 rfl
        refine g_getR C fi_X12_94 rfl e15899 (h15752).1 (h15752).2 dX12_findSolved_49 ?_
        refine g_iload_n C dX12_findSolved_52 rfl 2 rfl ?_
        refine g_iald (j := (v33_1.toInt.toNat)) C h15900.1 h15900.2.1 (ix_in h15900.2.2 (by omega)) dX12_findSolved_53 ?_
        refine g_topi (fun z15901 h15902 => ?_)
        have h15902 : z15901.toInt = (pI P33 b15898 (v33_1.toInt.toNat)).toInt := congrArg Int32.toInt h15902
        refine g_istore_n (lv' := [(3, .int z15901), (2, .int z15896), (0, .ref a0), (1, .int v33_1)]) C dX12_findSolved_54 rfl (by decide) rfl ?_
        refine g_iconst (v := 0) C dX12_findSolved_55 (by decide) ?_
        refine g_istore (lv' := [(4, .int 0), (3, .int z15901), (2, .int z15896), (0, .ref a0), (1, .int v33_1)]) C dX12_findSolved_56 (by decide) rfl ?_
        refine g_lv (lv' := [(0, .ref a0), (1, .int v33_1), (2, .int z15896), (3, .int z15901), (4, .int 0)]) [3, 4, 2, 1, 0] rfl ?_
        exact J58 _ z15896 z15901 0 (Nat.lt_succ_self _) (by omega) (by decide) (by omega)
  have J12 : ∀ (n12 : Nat) (P12 : PP) (v12_1 : Int32), (20 - v12_1.toInt).toNat < n12 → (IM P12 a0) → (EM [35, 36, 37, 38] a0 P P12) → (MW P12 a0) → (0 ≤ v12_1.toInt ∧ v12_1.toInt ≤ 20) → (0 ≤ (pI P12 a0 35).toInt ∧ (pI P12 a0 35).toInt ≤ 0) → (1 ≤ (pI P12 a0 36).toInt ∧ (pI P12 a0 36).toInt ≤ 1) → G E ({ frames := 1, cells := 0, slots := 0, locals := 64 } : Room) D cy 6 P12 0 0 12 [(0, .ref a0), (1, .int v12_1)] [] := by
    intro n12
    induction n12 with
    | zero => intro P12 v12_1 hm12 I12 X12 W12 hv12_1 hq12_0 hq12_1; omega
    | succ n12 ih12 =>
      intro P12 v12_1 hm12 I12 X12 W12 hv12_1 hq12_0 hq12_1
      have h15903 := X12.at ha0
      refine g_iload_n C dX12_findSolved_12 rfl 1 rfl ?_
      refine g_bipush (v := 20) C dX12_findSolved_13 (by decide) ?_
      refine b_icmp_ge C 31 dX12_findSolved_15 (by decide) (fun h15904 => ?_) (fun h15904 => ?_)
      · have h15904 : 20 ≤ v12_1.toInt := h15904
        refine g_iconst (v := 0) C dX12_findSolved_31 (by decide) ?_
        refine g_istore_n (lv' := [(1, .int 0), (0, .ref a0)]) C dX12_findSolved_32 rfl (by decide) rfl ?_
        refine g_lv (lv' := [(0, .ref a0), (1, .int 0)]) [1, 0] rfl ?_
        exact J33 _ P12 0 (Nat.lt_succ_self _) I12 X12 W12 (by decide)
      · have h15904 : v12_1.toInt < 20 := h15904
        refine g_aload_n C dX12_findSolved_18 rfl 0 rfl ?_
        obtain ⟨b15905, e15906, h15907⟩ := I12.fld (h15903) 37 13 20 rfl
        refine g_getR C fi_X12_106 rfl e15906 (h15903).1 (h15903).2 dX12_findSolved_19 ?_
        refine g_iload_n C dX12_findSolved_22 rfl 1 rfl ?_
        refine g_iconst (v := 0) C dX12_findSolved_23 (by decide) ?_
        refine g_iast (j := (v12_1.toInt.toNat)) C h15907.1 h15907.2.1 (ix_in h15907.2.2 (by omega)) dX12_findSolved_24 ?_
        refine gqW (ks := [37]) (I12.setA e15906 h15907 (by decide) (arOk.none rfl)) (EM.setA I12 e15906 rfl (by decide)) (fun Y15908 Iy15909 Xy15910 w15911 => ?_)
        have w15911 : (pI Y15908 b15905 (v12_1.toInt.toNat)).toInt = 0 := w15911
        have q15912 := Xy15910.keepF 35 (by decide)
        have q15913 := Xy15910.keepF 36 (by decide)
        have W15914 := W12.keep I12 Xy15910 (by decide) (by decide) (by decide)
        have Xz15915 : EM [35, 36, 37, 38] a0 P Y15908 := EM.tr ha0 X12 (Xy15910.mono (by decide))
        have e15916 := Xy15910.ref h15903 (by decide) e15906
        have h15917 := Xy15910.at h15903
        have h15918 := Xy15910.ar h15907
        refine s_iinc (lv0 := [(0, .ref a0)]) (m := 1) C dX12_findSolved_25 1 rfl (by decide) rfl (by decide) (by omega) (fun z15919 h15920 => ?_)
        have h15920 : z15919.toInt = v12_1.toInt + 1 := h15920
        refine g_goto C 12 dX12_findSolved_28 (by decide) ?_
        refine g_lv (lv' := [(0, .ref a0), (1, .int z15919)]) [1, 0] rfl ?_
        exact ih12 Y15908 z15919 (by omega) Iy15909 Xz15915 W15914 (by omega) (by omega) (by omega)
  refine g_aload_n C dX12_findSolved_0 rfl 0 rfl ?_
  refine g_iconst (v := 0) C dX12_findSolved_1 (by decide) ?_
  refine g_putI C fi_X12_324 rfl (ha0).1 (ha0).2 dX12_findSolved_2 ?_
  refine gqW (ks := [35]) (I.setI (rgOk.none rfl)) (EM.setI I (by decide)) (fun Y15921 Iy15922 Xy15923 w15924 => ?_)
  have w15924 : (pI Y15921 a0 35).toInt = 0 := w15924
  have W15925 := hW.keep I Xy15923 (by decide) (by decide) (by decide)
  have Xz15926 : EM [35, 36, 37, 38] a0 P Y15921 := Xy15923.mono (by decide)
  have h15927 := Xy15923.at ha0
  refine g_aload_n C dX12_findSolved_5 rfl 0 rfl ?_
  refine g_iconst (v := 1) C dX12_findSolved_6 (by decide) ?_
  refine g_putZ C fi_X12_326 rfl (Or.inr rfl) (h15927).1 (h15927).2 dX12_findSolved_7 ?_
  refine gqW (ks := [36]) (Iy15922.setI (rgOk.of rfl (by decide))) (EM.setI Iy15922 (by decide)) (fun Y15928 Iy15929 Xy15930 w15931 => ?_)
  have w15931 : (pI Y15928 a0 36).toInt = 1 := w15931
  have q15932 := Xy15930.keepF 35 (by decide)
  have W15933 := W15925.keep Iy15922 Xy15930 (by decide) (by decide) (by decide)
  have Xz15934 : EM [35, 36, 37, 38] a0 P Y15928 := EM.tr ha0 Xz15926 (Xy15930.mono (by decide))
  have h15935 := Xy15930.at h15927
  refine g_iconst (v := 0) C dX12_findSolved_10 (by decide) ?_
  refine g_istore_n (lv' := [(1, .int 0), (0, .ref a0)]) C dX12_findSolved_11 rfl (by decide) rfl ?_
  refine g_lv (lv' := [(0, .ref a0), (1, .int 0)]) [1, 0] rfl ?_
  exact J12 _ Y15928 0 (Nat.lt_succ_self _) Iy15929 Xz15934 W15933 (by decide) (by omega) (by omega)
theorem dX12_agreesBy_40 : decode cX12_agreesBy 40 = .ok (.bipush 40, 2) := by decide +kernel
theorem dX12_agreesBy_42 : decode cX12_agreesBy 42 = .ok (.iload_n 1, 1) := by decide +kernel
theorem dX12_agreesBy_43 : decode cX12_agreesBy 43 = .ok (.imul, 1) := by decide +kernel
theorem dX12_agreesBy_44 : decode cX12_agreesBy 44 = .ok (.iload 6, 2) := by decide +kernel
theorem dX12_agreesBy_46 : decode cX12_agreesBy 46 = .ok (.iadd, 1) := by decide +kernel
theorem dX12_agreesBy_47 : decode cX12_agreesBy 47 = .ok (.istore 7, 2) := by decide +kernel
theorem dX12_agreesBy_49 : decode cX12_agreesBy 49 = .ok (.aload_n 0, 1) := by decide +kernel
theorem dX12_agreesBy_50 : decode cX12_agreesBy 50 = .ok (.getfield 75, 3) := by decide +kernel
theorem dX12_agreesBy_53 : decode cX12_agreesBy 53 = .ok (.iload 7, 2) := by decide +kernel
theorem dX12_agreesBy_55 : decode cX12_agreesBy 55 = .ok (.iaload, 1) := by decide +kernel
theorem dX12_agreesBy_56 : decode cX12_agreesBy 56 = .ok (.ifCond .ge 46, 3) := by decide +kernel
theorem dX12_agreesBy_59 : decode cX12_agreesBy 59 = .ok (.iload_n 3, 1) := by decide +kernel
theorem dX12_agreesBy_60 : decode cX12_agreesBy 60 = .ok (.iload 5, 2) := by decide +kernel
theorem dX12_agreesBy_62 : decode cX12_agreesBy 62 = .ok (.ishr, 1) := by decide +kernel
theorem dX12_agreesBy_63 : decode cX12_agreesBy 63 = .ok (.iconst 1, 1) := by decide +kernel
theorem dX12_agreesBy_64 : decode cX12_agreesBy 64 = .ok (.iand, 1) := by decide +kernel
theorem dX12_agreesBy_65 : decode cX12_agreesBy 65 = .ok (.iload_n 2, 1) := by decide +kernel
theorem dX12_agreesBy_66 : decode cX12_agreesBy 66 = .ok (.if_icmp .ne 33, 3) := by decide +kernel
theorem dX12_agreesBy_69 : decode cX12_agreesBy 69 = .ok (.aload_n 0, 1) := by decide +kernel
theorem dX12_agreesBy_70 : decode cX12_agreesBy 70 = .ok (.aload_n 0, 1) := by decide +kernel
theorem dX12_agreesBy_71 : decode cX12_agreesBy 71 = .ok (.iload_n 2, 1) := by decide +kernel
theorem dX12_agreesBy_72 : decode cX12_agreesBy 72 = .ok (.aload_n 0, 1) := by decide +kernel
theorem dX12_agreesBy_73 : decode cX12_agreesBy 73 = .ok (.getfield 72, 3) := by decide +kernel
theorem dX12_agreesBy_76 : decode cX12_agreesBy 76 = .ok (.iload 7, 2) := by decide +kernel
theorem dX12_agreesBy_78 : decode cX12_agreesBy 78 = .ok (.iaload, 1) := by decide +kernel
theorem dX12_agreesBy_79 : decode cX12_agreesBy 79 = .ok (.invokevirtual 261, 3) := by decide +kernel
theorem dX12_agreesBy_82 : decode cX12_agreesBy 82 = .ok (.aload_n 0, 1) := by decide +kernel
theorem dX12_agreesBy_83 : decode cX12_agreesBy 83 = .ok (.getfield 78, 3) := by decide +kernel
theorem dX12_agreesBy_86 : decode cX12_agreesBy 86 = .ok (.iload 7, 2) := by decide +kernel
theorem dX12_agreesBy_88 : decode cX12_agreesBy 88 = .ok (.iaload, 1) := by decide +kernel
theorem dX12_agreesBy_89 : decode cX12_agreesBy 89 = .ok (.iload 4, 2) := by decide +kernel
theorem dX12_agreesBy_91 : decode cX12_agreesBy 91 = .ok (.invokestatic 315, 3) := by decide +kernel
theorem dX12_agreesBy_94 : decode cX12_agreesBy 94 = .ok (.iload 6, 2) := by decide +kernel
theorem dX12_agreesBy_96 : decode cX12_agreesBy 96 = .ok (.invokevirtual 308, 3) := by decide +kernel
theorem dX12_agreesBy_99 : decode cX12_agreesBy 99 = .ok (.iinc 5 1, 3) := by decide +kernel
theorem dX12_agreesBy_102 : decode cX12_agreesBy 102 = .ok (.iinc 6 1, 3) := by decide +kernel
theorem dX12_agreesBy_105 : decode cX12_agreesBy 105 = .ok (.goto (-76), 3) := by decide +kernel
theorem dX12_agreesBy_112 : decode cX12_agreesBy 112 = .ok (.aload_n 0, 1) := by decide +kernel
theorem dX12_agreesBy_113 : decode cX12_agreesBy 113 = .ok (.getfield 326, 3) := by decide +kernel
theorem dX12_agreesBy_116 : decode cX12_agreesBy 116 = .ok (.ifCond .ne 5, 3) := by decide +kernel
theorem dX12_agreesBy_119 : decode cX12_agreesBy 119 = .ok (.iconst 0, 1) := by decide +kernel
theorem dX12_agreesBy_120 : decode cX12_agreesBy 120 = .ok (.ireturn, 1) := by decide +kernel
theorem dX12_agreesBy_121 : decode cX12_agreesBy 121 = .ok (.iinc 4 1, 3) := by decide +kernel
theorem dX12_agreesBy_124 : decode cX12_agreesBy 124 = .ok (.goto (-121), 3) := by decide +kernel
theorem dX12_agreesBy_127 : decode cX12_agreesBy 127 = .ok (.iconst 1, 1) := by decide +kernel
theorem dX12_agreesBy_128 : decode cX12_agreesBy 128 = .ok (.ireturn, 1) := by decide +kernel
set_option maxHeartbeats 4000000 in
set_option maxRecDepth 100000 in
theorem s_X12_agreesBy {P : PP} {a0 : Nat} {a1 : Int32} {a2 : Int32} {a3 : Int32} (I : IM P a0) (ha1 : 0 ≤ a1.toInt ∧ a1.toInt ≤ 3) (ha2 : 0 ≤ a2.toInt ∧ a2.toInt ≤ 1) (hf0 : ∀ b, pR P a0 10 = some b → 1 ≤ (pI P b (a2.toInt.toNat)).toInt ∧ (pI P b (a2.toInt.toNat)).toInt ≤ 16) (hW : MW P a0) : CtrI yX12_agreesBy cX12_agreesBy 8 (some Jvm.ClassFile.FieldType.boolean) ({ frames := 5, cells := 0, slots := 0, locals := 320 } : Room) 0 0 P [.ref a0, .int a1, .int a2, .int a3] (fun r P2 => IM P2 a0 ∧ EM [28, 29, 30, 31, 35, 36, 37, 38] a0 P P2 ∧ MW P2 a0 ∧ (0 ≤ r.toInt ∧ r.toInt ≤ 1)) := by
  refine enI (lv := [(0, .ref a0), (1, .int a1), (2, .int a2), (3, .int a3)]) (by decide) (Nat.le_of_ble_eq_true rfl) rfl (fun E D cy C Ci0 ret => ?_)
  have ha0 := I.2.1
  have J3 : ∀ (n3 : Nat) (P3 : PP) (v3_4 : Int32), (2 - v3_4.toInt).toNat < n3 → (IM P3 a0) → (EM [28, 29, 30, 31, 35, 36, 37, 38] a0 P P3) → (MW P3 a0) → (0 ≤ v3_4.toInt ∧ v3_4.toInt ≤ 2) → (∀ b, pR P3 a0 10 = some b → 1 ≤ (pI P3 b (a2.toInt.toNat)).toInt ∧ (pI P3 b (a2.toInt.toNat)).toInt ≤ 16) → G E ({ frames := 5, cells := 0, slots := 0, locals := 320 } : Room) D cy 8 P3 0 0 3 [(0, .ref a0), (1, .int a1), (2, .int a2), (3, .int a3), (4, .int v3_4)] [] := by
    intro n3
    induction n3 with
    | zero => intro P3 v3_4 hm3 I3 X3 W3 hv3_4 hq3_0; omega
    | succ n3 ih3 =>
      intro P3 v3_4 hm3 I3 X3 W3 hv3_4 hq3_0
      have h21502 := X3.at ha0
      obtain ⟨b21503, e21504, h21505⟩ := I3.fld (h21502) 10 13 2 rfl
      have hq3_0 := hq3_0 b21503 e21504
      have J29 : ∀ (n29 : Nat) (P29 : PP) (v29_5 : Int32) (v29_6 : Int32), (40 - v29_6.toInt).toNat < n29 → (IM P29 a0) → (EM [28, 29, 30, 31, 35, 36, 37, 38] a0 P P29) → (MW P29 a0) → (0 ≤ v3_4.toInt ∧ v3_4.toInt ≤ 1) → (0 ≤ v29_6.toInt ∧ v29_6.toInt ≤ 40) → (∀ b, pR P29 a0 10 = some b → 1 ≤ (pI P29 b (a2.toInt.toNat)).toInt ∧ (pI P29 b (a2.toInt.toNat)).toInt ≤ 16) → (∀ b920 b922, pR P29 a0 20 = some b920 → pR P29 a0 22 = some b922 → (pI P29 a0 28).toInt ≤ 4 + kC (pI P b922) (40 * a1.toInt).toNat a2.toInt ((pI P b920 (a1.toInt.toNat)).toInt : Int).toNat + nC (pI P b922) (40 * a1.toInt).toNat (v29_6.toInt : Int).toNat) → (∀ b920, pR P29 a0 20 = some b920 → 0 ≤ v29_6.toInt ∧ v29_6.toInt ≤ (pI P b920 (a1.toInt.toNat)).toInt) → G E ({ frames := 5, cells := 0, slots := 0, locals := 320 } : Room) D cy 8 P29 0 0 29 [(0, .ref a0), (1, .int a1), (2, .int a2), (3, .int a3), (4, .int v3_4), (5, .int v29_5), (6, .int v29_6)] [] := by
        intro n29
        induction n29 with
        | zero => intro P29 v29_5 v29_6 hm29 I29 X29 W29 hv29_4 hv29_6 hq29_0 rel29_0 rel29_1; omega
        | succ n29 ih29 =>
          intro P29 v29_5 v29_6 hm29 I29 X29 W29 hv29_4 hv29_6 hq29_0 rel29_0 rel29_1
          have h21506 := X29.at ha0
          obtain ⟨b21507, e21508, h21509⟩ := I29.fld (h21506) 10 13 2 rfl
          have hq29_0 := hq29_0 b21507 e21508
          have h21510 := I29.rg h21506 28 rfl
          obtain ⟨b21511, e21512, h21513⟩ := I29.fld (h21506) 20 13 20 rfl
          obtain ⟨b21514, e21515, h21516⟩ := I29.fld (h21506) 22 13 800 rfl
          have rel29_0 := rel29_0 b21511 b21514 e21512 e21515
          have h21517 := I.arr (EM.refB X29 ha0 e21512) rfl (a1.toInt.toNat)
          have rel29_1 := rel29_1 b21511 e21512
          have h21518 := I.arr (EM.refB X29 ha0 e21512) rfl (a1.toInt.toNat)
          have J102 : ∀ (P102 : PP) (v102_5 : Int32), (IM P102 a0) → (EM [28, 29, 30, 31, 35, 36, 37, 38] a0 P P102) → (MW P102 a0) → (0 ≤ v3_4.toInt ∧ v3_4.toInt ≤ 1) → (0 ≤ v29_6.toInt ∧ v29_6.toInt ≤ 39) → (∀ b, pR P102 a0 10 = some b → 1 ≤ (pI P102 b (a2.toInt.toNat)).toInt ∧ (pI P102 b (a2.toInt.toNat)).toInt ≤ 16) → (∀ b, pR P102 a0 20 = some b → 1 ≤ (pI P102 b (a1.toInt.toNat)).toInt ∧ (pI P102 b (a1.toInt.toNat)).toInt ≤ 40) → (∀ b920 b922, pR P102 a0 20 = some b920 → pR P102 a0 22 = some b922 → (pI P102 a0 28).toInt ≤ 4 + kC (pI P b922) (40 * a1.toInt).toNat a2.toInt ((pI P b920 (a1.toInt.toNat)).toInt : Int).toNat + nC (pI P b922) (40 * a1.toInt).toNat (v29_6.toInt + 1 : Int).toNat) → (∀ b920, pR P102 a0 20 = some b920 → 0 ≤ v29_6.toInt ∧ v29_6.toInt < (pI P b920 (a1.toInt.toNat)).toInt) → G E ({ frames := 5, cells := 0, slots := 0, locals := 320 } : Room) D cy 8 P102 0 0 102 [(0, .ref a0), (1, .int a1), (2, .int a2), (3, .int a3), (4, .int v3_4), (5, .int v102_5), (6, .int v29_6)] [] := by
            intro P102 v102_5 I102 X102 W102 hv102_4 hv102_6 hq102_0 hq102_1 rel102_0 rel102_1
            have h21519 := X102.at ha0
            obtain ⟨b21520, e21521, h21522⟩ := I102.fld (h21519) 10 13 2 rfl
            have hq102_0 := hq102_0 b21520 e21521
            obtain ⟨b21523, e21524, h21525⟩ := I102.fld (h21519) 20 13 20 rfl
            have hq102_1 := hq102_1 b21523 e21524
            have h21526 := I102.rg h21519 28 rfl
            obtain ⟨b21527, e21528, h21529⟩ := I102.fld (h21519) 22 13 800 rfl
            have rel102_0 := rel102_0 b21523 b21527 e21524 e21528
            have h21530 := I.arr (EM.refB X102 ha0 e21524) rfl (a1.toInt.toNat)
            have rel102_1 := rel102_1 b21523 e21524
            have h21531 := I.arr (EM.refB X102 ha0 e21524) rfl (a1.toInt.toNat)
            have q21532 := X102.keepA (EM.refB X102 ha0 e21524) (by decide) rfl (a1.toInt.toNat)
            have h21533 := I.arr (EM.refB X102 ha0 e21524) rfl (a1.toInt.toNat)
            refine s_iinc (lv0 := [(0, .ref a0), (1, .int a1), (2, .int a2), (3, .int a3), (4, .int v3_4), (5, .int v102_5)]) (m := 1) C dX12_agreesBy_102 6 rfl (by decide) rfl (by decide) (by omega) (fun z21534 h21535 => ?_)
            have h21535 : z21534.toInt = v29_6.toInt + 1 := h21535
            have hz : nC (pI P b21527) (40 * a1.toInt).toNat (v29_6.toInt + 1).toNat = nC (pI P b21527) (40 * a1.toInt).toNat (z21534.toInt).toNat := by rw [show v29_6.toInt + 1 = z21534.toInt by omega]
            refine g_goto C 29 dX12_agreesBy_105 (by decide) ?_
            refine g_lv (lv' := [(0, .ref a0), (1, .int a1), (2, .int a2), (3, .int a3), (4, .int v3_4), (5, .int v102_5), (6, .int z21534)]) [1, 2, 3, 4, 5, 6, 0] rfl ?_
            exact ih29 P102 v102_5 z21534 (by omega) I102 X102 W102 (by omega) (by omega) (fun b9 e9 => by rw [e21521] at e9; cases e9; omega) (by intro b920 b922 e920 e922; rw [e21524] at e920; cases e920; rw [e21528] at e922; cases e922; show (pI P102 a0 28).toInt ≤ 4 + kC (pI P b21527) (40 * a1.toInt).toNat a2.toInt ((pI P b21523 (a1.toInt.toNat)).toInt : Int).toNat + nC (pI P b21527) (40 * a1.toInt).toNat (z21534.toInt : Int).toNat; omega) (by intro b920 e920; rw [e21524] at e920; cases e920; show 0 ≤ z21534.toInt ∧ z21534.toInt ≤ (pI P b21523 (a1.toInt.toNat)).toInt; omega)
          have J99 : ∀ (P99 : PP), (IM P99 a0) → (EM [28, 29, 30, 31, 35, 36, 37, 38] a0 P P99) → (MW P99 a0) → (0 ≤ v3_4.toInt ∧ v3_4.toInt ≤ 1) → (0 ≤ v29_6.toInt ∧ v29_6.toInt ≤ 39) → (∀ b, pR P99 a0 10 = some b → 1 ≤ (pI P99 b (a2.toInt.toNat)).toInt ∧ (pI P99 b (a2.toInt.toNat)).toInt ≤ 16) → (∀ b, pR P99 a0 20 = some b → 1 ≤ (pI P99 b (a1.toInt.toNat)).toInt ∧ (pI P99 b (a1.toInt.toNat)).toInt ≤ 40) → (∀ b920 b922, pR P99 a0 20 = some b920 → pR P99 a0 22 = some b922 → (pI P99 a0 28).toInt ≤ 4 + kC (pI P b922) (40 * a1.toInt).toNat a2.toInt ((pI P b920 (a1.toInt.toNat)).toInt : Int).toNat + nC (pI P b922) (40 * a1.toInt).toNat (v29_6.toInt + 1 : Int).toNat) → (∀ b920, pR P99 a0 20 = some b920 → 0 ≤ v29_6.toInt ∧ v29_6.toInt < (pI P b920 (a1.toInt.toNat)).toInt) → G E ({ frames := 5, cells := 0, slots := 0, locals := 320 } : Room) D cy 8 P99 0 0 99 [(0, .ref a0), (1, .int a1), (2, .int a2), (3, .int a3), (4, .int v3_4), (5, .int v29_5), (6, .int v29_6)] [] := by
            intro P99 I99 X99 W99 hv99_4 hv99_6 hq99_0 hq99_1 rel99_0 rel99_1
            have h21536 := X99.at ha0
            obtain ⟨b21537, e21538, h21539⟩ := I99.fld (h21536) 10 13 2 rfl
            have hq99_0 := hq99_0 b21537 e21538
            obtain ⟨b21540, e21541, h21542⟩ := I99.fld (h21536) 20 13 20 rfl
            have hq99_1 := hq99_1 b21540 e21541
            have h21543 := I99.rg h21536 28 rfl
            obtain ⟨b21544, e21545, h21546⟩ := I99.fld (h21536) 22 13 800 rfl
            have rel99_0 := rel99_0 b21540 b21544 e21541 e21545
            have h21547 := I.arr (EM.refB X99 ha0 e21541) rfl (a1.toInt.toNat)
            have rel99_1 := rel99_1 b21540 e21541
            have h21548 := I.arr (EM.refB X99 ha0 e21541) rfl (a1.toInt.toNat)
            have q21549 := X99.keepA (EM.refB X99 ha0 e21541) (by decide) rfl (a1.toInt.toNat)
            have h21550 := I.arr (EM.refB X99 ha0 e21541) rfl (a1.toInt.toNat)
            refine a_iinc (lv0 := [(0, .ref a0), (1, .int a1), (2, .int a2), (3, .int a3), (4, .int v3_4), (6, .int v29_6)]) C dX12_agreesBy_99 5 rfl (by decide) rfl (fun z21551 => ?_)
            refine g_lv (lv' := [(0, .ref a0), (1, .int a1), (2, .int a2), (3, .int a3), (4, .int v3_4), (5, .int z21551), (6, .int v29_6)]) [1, 2, 3, 4, 5, 0, 6] rfl ?_
            exact J102 P99 z21551 I99 X99 W99 (by omega) (by omega) (fun b9 e9 => by rw [e21538] at e9; cases e9; omega) (fun b9 e9 => by rw [e21541] at e9; cases e9; omega) (by intro b920 b922 e920 e922; rw [e21541] at e920; cases e920; rw [e21545] at e922; cases e922; show (pI P99 a0 28).toInt ≤ 4 + kC (pI P b21544) (40 * a1.toInt).toNat a2.toInt ((pI P b21540 (a1.toInt.toNat)).toInt : Int).toNat + nC (pI P b21544) (40 * a1.toInt).toNat (v29_6.toInt + 1 : Int).toNat; omega) (by intro b920 e920; rw [e21541] at e920; cases e920; show 0 ≤ v29_6.toInt ∧ v29_6.toInt < (pI P b21540 (a1.toInt.toNat)).toInt; omega)
          have q21553 := X29.keepA (EM.refB X29 ha0 e21512) (by decide) rfl (a1.toInt.toNat)
          have h21554 := I.arr (EM.refB X29 ha0 e21512) rfl (a1.toInt.toNat)
          refine g_iload C dX12_agreesBy_29 6 rfl ?_
          refine g_aload_n C dX12_agreesBy_31 rfl 0 rfl ?_
          refine g_getR C fi_X12_69 rfl e21512 (h21506).1 (h21506).2 dX12_agreesBy_32 ?_
          refine g_iload_n C dX12_agreesBy_35 rfl 1 rfl ?_
          refine g_iald (j := (a1.toInt.toNat)) C h21513.1 h21513.2.1 (ix_in h21513.2.2 (by omega)) dX12_agreesBy_36 ?_
          have h21555 := I29.arr e21512 rfl (a1.toInt.toNat)
          refine b_icmp_ge C 108 dX12_agreesBy_37 (by decide) (fun h21556 => ?_) (fun h21556 => ?_)
          · have h21556 : (pI P29 b21511 (a1.toInt.toNat)).toInt ≤ v29_6.toInt := h21556
            refine g_aload_n C dX12_agreesBy_108 rfl 0 rfl ?_
            refine g_callVV (rest := []) C mv_X12_346 [] (s_X12_findSolved I29 W29) (h21506).1 (h21506).2 rfl rfl (by decide) (Nat.le_of_ble_eq_true rfl) (by decide) dX12_agreesBy_109 (fun Y21558 h21559 => ?_)
            obtain ⟨Iy21560, Xy21561, W21562⟩ := h21559
            have q21563 := Xy21561.keepA e21508 (by decide) rfl (a2.toInt.toNat)
            have q21564 := Xy21561.keepF 28 (by decide)
            have q21565 := Xy21561.keepA e21512 (by decide) rfl (a1.toInt.toNat)
            have Xz21566 : EM [28, 29, 30, 31, 35, 36, 37, 38] a0 P Y21558 := EM.tr ha0 X29 (Xy21561.mono (by decide))
            have e21567 := Xy21561.ref h21506 (by decide) e21508
            have e21568 := Xy21561.ref h21506 (by decide) e21512
            have h21569 := Xy21561.at h21506
            have h21570 := Xy21561.ar h21509
            have h21571 := Xy21561.ar h21513
            refine g_aload_n C dX12_agreesBy_112 rfl 0 rfl ?_
            refine g_getI C fi_X12_326 (by decide) (h21569).1 (h21569).2 dX12_agreesBy_113 ?_
            have h21572 := Iy21560.rg (h21569) 36 rfl
            refine b_if_ne C 121 dX12_agreesBy_116 (by decide) (fun h21573 => ?_) (fun h21573 => ?_)
            · have h21573 : (pI Y21558 a0 36).toInt ≠ 0 := ti_ne h21573
              refine s_iinc (lv0 := [(0, .ref a0), (1, .int a1), (2, .int a2), (3, .int a3), (5, .int v29_5), (6, .int v29_6)]) (m := 1) C dX12_agreesBy_121 4 rfl (by decide) rfl (by decide) (by omega) (fun z21574 h21575 => ?_)
              have h21575 : z21574.toInt = v3_4.toInt + 1 := h21575
              refine g_goto C 3 dX12_agreesBy_124 (by decide) ?_
              refine g_lv (lv' := [(0, .ref a0), (1, .int a1), (2, .int a2), (3, .int a3), (4, .int z21574)]) [1, 2, 3, 4, 0] rfl ?_
              exact ih3 Y21558 z21574 (by omega) Iy21560 Xz21566 W21562 (by omega) (fun b9 e9 => by rw [e21567] at e9; cases e9; omega)
            · have h21573 : (pI Y21558 a0 36).toInt = 0 := congrArg Int32.toInt h21573
              refine g_iconst (v := 0) C dX12_agreesBy_119 (by decide) ?_
              exact ret _ _ _ _ _ _ dX12_agreesBy_120 rfl (by decide) (by decide) ⟨Iy21560, Xz21566, W21562, (by decide)⟩
          · have h21556 : v29_6.toInt < (pI P29 b21511 (a1.toInt.toNat)).toInt := h21556
            refine g_bipush (v := 40) C dX12_agreesBy_40 (by decide) ?_
            refine g_iload_n C dX12_agreesBy_42 rfl 1 rfl ?_
            refine s_imul C dX12_agreesBy_43 (by show -2147483648 ≤ 40 * a1.toInt ∧ 40 * a1.toInt ≤ 2147483647; omega) (fun z21576 h21577 => ?_)
            have h21577 : z21576.toInt = 40 * a1.toInt := h21577
            refine g_iload C dX12_agreesBy_44 6 rfl ?_
            refine s_iadd C dX12_agreesBy_46 (by show -2147483648 ≤ z21576.toInt + v29_6.toInt ∧ z21576.toInt + v29_6.toInt ≤ 2147483647; omega) (fun z21578 h21579 => ?_)
            have h21579 : z21578.toInt = z21576.toInt + v29_6.toInt := h21579
            refine g_istore (lv' := [(7, .int z21578), (0, .ref a0), (1, .int a1), (2, .int a2), (3, .int a3), (4, .int v3_4), (5, .int v29_5), (6, .int v29_6)]) C dX12_agreesBy_47 (by decide) rfl ?_
            refine g_aload_n C dX12_agreesBy_49 rfl 1 rfl ?_
            refine g_getR C fi_X12_75 rfl e21515 (h21506).1 (h21506).2 dX12_agreesBy_50 ?_
            refine g_iload C dX12_agreesBy_53 0 rfl ?_
            refine g_iald (j := (z21578.toInt.toNat)) C h21516.1 h21516.2.1 (ix_in h21516.2.2 (by omega)) dX12_agreesBy_55 ?_
            have h21580 := I29.arr e21515 rfl (z21578.toInt.toNat)
            have q21581 := X29.keepA (EM.refB X29 ha0 e21515) (by decide) rfl (z21578.toInt.toNat)
            have st := nC_step (f := pI P b21514) (o := (40 * a1.toInt).toNat) (k := (z21578.toInt.toNat)) (d := v29_6.toInt) (d2 := v29_6.toInt + 1) (by omega) (by omega) (by omega)
            have no := nO_or (pI P b21514 (z21578.toInt.toNat))
            have kn := kn_le2 (f := pI P b21514) (o := (40 * a1.toInt).toNat) (b := a2.toInt) (N := (pI P b21511 (a1.toInt.toNat)).toInt) (d := v29_6.toInt + 1) (by omega) (by omega) (by omega)
            refine b_if_ge C 102 dX12_agreesBy_56 (by decide) (fun h21582 => ?_) (fun h21582 => ?_)
            · have h21582 : 0 ≤ (pI P29 b21514 (z21578.toInt.toNat)).toInt := h21582
              refine g_lv (lv' := [(0, .ref a0), (1, .int a1), (2, .int a2), (3, .int a3), (4, .int v3_4), (5, .int v29_5), (6, .int v29_6)]) [1, 2, 3, 4, 5, 6, 7] rfl ?_
              exact J102 P29 v29_5 I29 X29 W29 (by omega) (by omega) (fun b9 e9 => by rw [e21508] at e9; cases e9; omega) (fun b9 e9 => by rw [e21512] at e9; cases e9; omega) (by intro b920 b922 e920 e922; rw [e21512] at e920; cases e920; rw [e21515] at e922; cases e922; show (pI P29 a0 28).toInt ≤ 4 + kC (pI P b21514) (40 * a1.toInt).toNat a2.toInt ((pI P b21511 (a1.toInt.toNat)).toInt : Int).toNat + nC (pI P b21514) (40 * a1.toInt).toNat (v29_6.toInt + 1 : Int).toNat; omega) (by intro b920 e920; rw [e21512] at e920; cases e920; show 0 ≤ v29_6.toInt ∧ v29_6.toInt < (pI P b21511 (a1.toInt.toNat)).toInt; omega)
            · have h21582 : (pI P29 b21514 (z21578.toInt.toNat)).toInt < 0 := h21582
              refine g_iload_n C dX12_agreesBy_59 rfl 4 rfl ?_
              refine g_iload C dX12_agreesBy_60 6 rfl ?_
              refine a_ishr C dX12_agreesBy_62 (fun z21583 => ?_)
              refine g_iconst (v := 1) C dX12_agreesBy_63 (by decide) ?_
              refine s_iand C dX12_agreesBy_64 (by show 0 ≤ 1; omega) (fun z21585 h21586 => ?_)
              have h21586 : 0 ≤ z21585.toInt ∧ z21585.toInt ≤ 1 := h21586
              refine g_iload_n C dX12_agreesBy_65 rfl 3 rfl ?_
              refine b_icmp_ne C 99 dX12_agreesBy_66 (by decide) (fun h21587 => ?_) (fun h21587 => ?_)
              · have h21587 : z21585.toInt ≠ a2.toInt := ti_ne h21587
                refine g_lv (lv' := [(0, .ref a0), (1, .int a1), (2, .int a2), (3, .int a3), (4, .int v3_4), (5, .int v29_5), (6, .int v29_6)]) [1, 2, 3, 4, 5, 6, 7] rfl ?_
                exact J99 P29 I29 X29 W29 (by omega) (by omega) (fun b9 e9 => by rw [e21508] at e9; cases e9; omega) (fun b9 e9 => by rw [e21512] at e9; cases e9; omega) (by intro b920 b922 e920 e922; rw [e21512] at e920; cases e920; rw [e21515] at e922; cases e922; show (pI P29 a0 28).toInt ≤ 4 + kC (pI P b21514) (40 * a1.toInt).toNat a2.toInt ((pI P b21511 (a1.toInt.toNat)).toInt : Int).toNat + nC (pI P b21514) (40 * a1.toInt).toNat (v29_6.toInt + 1 : Int).toNat; omega) (by intro b920 e920; rw [e21512] at e920; cases e920; show 0 ≤ v29_6.toInt ∧ v29_6.toInt < (pI P b21511 (a1.toInt.toNat)).toInt; omega)
              · have h21587 : z21585.toInt = a2.toInt := congrArg Int32.toInt h21587
                refine g_aload_n C dX12_agreesBy_69 rfl 1 rfl ?_
                refine g_aload_n C dX12_agreesBy_70 rfl 1 rfl ?_
                refine g_iload_n C dX12_agreesBy_71 rfl 3 rfl ?_
                refine g_aload_n C dX12_agreesBy_72 rfl 1 rfl ?_
                obtain ⟨b21588, e21589, h21590⟩ := I29.fld (h21506) 21 13 800 rfl
                refine g_getR C fi_X12_72 rfl e21589 (h21506).1 (h21506).2 dX12_agreesBy_73 ?_
                refine g_iload C dX12_agreesBy_76 0 rfl ?_
                refine g_iald (j := (z21578.toInt.toNat)) C h21590.1 h21590.2.1 (ix_in h21590.2.2 (by omega)) dX12_agreesBy_78 ?_
                refine g_callVI (rest := [.ref a0]) C mv_X12_261 [.int a2, .int (pI P29 b21588 (z21578.toInt.toNat))] (s_X12_setOf I29 (by omega) (fun b9 e9 => by rw [e21508] at e9; cases e9; show 1 ≤ (pI P29 b21507 (a2.toInt.toNat)).toInt ∧ (pI P29 b21507 (a2.toInt.toNat)).toInt ≤ 16; omega) W29) (h21506).1 (h21506).2 rfl rfl (by decide) (Nat.le_of_ble_eq_true rfl) (by decide) dX12_agreesBy_79 (fun r21591 Y21592 h21593 => ?_)
                obtain ⟨Iy21594, Xy21595, W21596, h21593⟩ := h21593
                have q21597 := Xy21595.keepA e21508 (by decide) rfl (a2.toInt.toNat)
                have q21598 := Xy21595.keepF 28 (by decide)
                have q21599 := Xy21595.keepA e21512 (by decide) rfl (a1.toInt.toNat)
                have q21600 := Xy21595.keepA e21515 (by decide) rfl (z21578.toInt.toNat)
                have Xz21601 : EM [28, 29, 30, 31, 35, 36, 37, 38] a0 P Y21592 := EM.tr ha0 X29 (Xy21595.mono (by decide))
                have e21602 := Xy21595.ref h21506 (by decide) e21508
                have e21603 := Xy21595.ref h21506 (by decide) e21512
                have e21604 := Xy21595.ref h21506 (by decide) e21515
                have h21605 := Xy21595.at h21506
                have h21606 := Xy21595.ar h21509
                have h21607 := Xy21595.ar h21513
                have h21608 := Xy21595.ar h21516
                have h21593 : True := h21593
                refine g_aload_n C dX12_agreesBy_82 rfl 1 rfl ?_
                obtain ⟨b21609, e21610, h21611⟩ := Iy21594.fld (h21605) 23 13 800 rfl
                refine g_getR C fi_X12_78 rfl e21610 (h21605).1 (h21605).2 dX12_agreesBy_83 ?_
                refine g_iload C dX12_agreesBy_86 0 rfl ?_
                refine g_iald (j := (z21578.toInt.toNat)) C h21611.1 h21611.2.1 (ix_in h21611.2.2 (by omega)) dX12_agreesBy_88 ?_
                refine g_iload C dX12_agreesBy_89 5 rfl ?_
                refine g_callSI (b := 0) (ci := 0) (rest := [.int r21591, .ref a0]) C ms_X12_315 [.int (pI Y21592 b21609 (z21578.toInt.toNat)), .int v3_4] (s_X12_byteOf Iy21594.1) rfl rfl (by decide) (Nat.le_of_ble_eq_true rfl) (by decide) dX12_agreesBy_91 (fun r21612 Y21613 h21614 => ?_)
                obtain ⟨rfl, h21614⟩ := h21614
                have h21614 : 0 ≤ r21612.toInt ∧ r21612.toInt ≤ 255 := h21614
                refine g_iload C dX12_agreesBy_94 7 rfl ?_
                refine g_callVV (rest := []) C mv_X12_308 [.int r21591, .int r21612, .int v29_6] (s_X12_adds Iy21594 (by omega) W21596) (h21605).1 (h21605).2 rfl rfl (by decide) (Nat.le_of_ble_eq_true rfl) (by decide) dX12_agreesBy_96 (fun Y21616 h21617 => ?_)
                obtain ⟨Iy21618, Xy21619, W21620, p21621⟩ := h21617
                have p21621 : (pI Y21616 a0 28).toInt = (pI Y21592 a0 28).toInt + 1 := p21621
                have q21622 := Xy21619.keepA e21602 (by decide) rfl (a2.toInt.toNat)
                have q21623 := Xy21619.keepA e21603 (by decide) rfl (a1.toInt.toNat)
                have q21624 := Xy21619.keepA e21604 (by decide) rfl (z21578.toInt.toNat)
                have Xz21625 : EM [28, 29, 30, 31, 35, 36, 37, 38] a0 P Y21616 := EM.tr ha0 Xz21601 (Xy21619.mono (by decide))
                have e21626 := Xy21619.ref h21605 (by decide) e21602
                have e21627 := Xy21619.ref h21605 (by decide) e21603
                have e21628 := Xy21619.ref h21605 (by decide) e21604
                have h21629 := Xy21619.at h21605
                have h21630 := Xy21619.ar h21606
                have h21631 := Xy21619.ar h21607
                have h21632 := Xy21619.ar h21608
                have h21633 := Iy21618.rg h21629 28 rfl
                refine g_lv (lv' := [(0, .ref a0), (1, .int a1), (2, .int a2), (3, .int a3), (4, .int v3_4), (5, .int v29_5), (6, .int v29_6)]) [1, 2, 3, 4, 5, 6, 7] rfl ?_
                exact J99 Y21616 Iy21618 Xz21625 W21620 (by omega) (by omega) (fun b9 e9 => by rw [e21626] at e9; cases e9; omega) (fun b9 e9 => by rw [e21627] at e9; cases e9; omega) (by intro b920 b922 e920 e922; rw [e21627] at e920; cases e920; rw [e21628] at e922; cases e922; show (pI Y21616 a0 28).toInt ≤ 4 + kC (pI P b21514) (40 * a1.toInt).toNat a2.toInt ((pI P b21511 (a1.toInt.toNat)).toInt : Int).toNat + nC (pI P b21514) (40 * a1.toInt).toNat (v29_6.toInt + 1 : Int).toNat; omega) (by intro b920 e920; rw [e21627] at e920; cases e920; show 0 ≤ v29_6.toInt ∧ v29_6.toInt < (pI P b21511 (a1.toInt.toNat)).toInt; omega)
      refine g_iload C dX12_agreesBy_3 4 rfl ?_
      refine g_iconst (v := 2) C dX12_agreesBy_5 (by decide) ?_
      refine b_icmp_ge C 127 dX12_agreesBy_6 (by decide) (fun h21634 => ?_) (fun h21634 => ?_)
      · have h21634 : 2 ≤ v3_4.toInt := h21634
        refine g_iconst (v := 1) C dX12_agreesBy_127 (by decide) ?_
        exact ret _ _ _ _ _ _ dX12_agreesBy_128 rfl (by decide) (by decide) ⟨I3, X3, W3, (by decide)⟩
      · have h21634 : v3_4.toInt < 2 := h21634
        refine g_aload_n C dX12_agreesBy_9 rfl 0 rfl ?_
        refine g_iload_n C dX12_agreesBy_10 rfl 1 rfl ?_
        refine g_iload_n C dX12_agreesBy_11 rfl 2 rfl ?_
        refine g_iload C dX12_agreesBy_12 4 rfl ?_
        refine g_aload_n C dX12_agreesBy_14 rfl 0 rfl ?_
        obtain ⟨b21635, e21636, h21637⟩ := I3.fld (h21502) 20 13 20 rfl
        refine g_getR C fi_X12_69 rfl e21636 (h21502).1 (h21502).2 dX12_agreesBy_15 ?_
        refine g_iload_n C dX12_agreesBy_18 rfl 1 rfl ?_
        refine g_iald (j := (a1.toInt.toNat)) C h21637.1 h21637.2.1 (ix_in h21637.2.2 (by omega)) dX12_agreesBy_19 ?_
        have h21638 := I3.arr e21636 rfl (a1.toInt.toNat)
        have q21639 := X3.keepA (EM.refB X3 ha0 e21636) (by decide) rfl (a1.toInt.toNat)
        have h21640 := I.arr (EM.refB X3 ha0 e21636) rfl (a1.toInt.toNat)
        refine g_callVV (rest := []) C mv_X12_339 [.int a1, .int a2, .int v3_4, .int (pI P3 b21635 (a1.toInt.toNat))] (s_X12_gathers I3 (by omega) (by omega) (by omega) (fun b9 e9 => by rw [e21504] at e9; cases e9; show 1 ≤ (pI P3 b21503 (a2.toInt.toNat)).toInt ∧ (pI P3 b21503 (a2.toInt.toNat)).toInt ≤ 16; omega) W3) (h21502).1 (h21502).2 rfl rfl (by decide) (Nat.le_of_ble_eq_true rfl) (by decide) dX12_agreesBy_20 (fun Y21642 h21643 => ?_)
        obtain ⟨Iy21644, Xy21645, W21646, p21647, p21648⟩ := h21643
        have p21647 : (pI Y21642 a0 28).toInt ≤ 4 + (pI P3 b21635 (a1.toInt.toNat)).toInt := p21647
        have q21649 := Xy21645.keepA e21504 (by decide) rfl (a2.toInt.toNat)
        have q21650 := Xy21645.keepA e21636 (by decide) rfl (a1.toInt.toNat)
        have Xz21651 : EM [28, 29, 30, 31, 35, 36, 37, 38] a0 P Y21642 := EM.tr ha0 X3 (Xy21645.mono (by decide))
        have e21652 := Xy21645.ref h21502 (by decide) e21504
        have e21653 := Xy21645.ref h21502 (by decide) e21636
        have h21654 := Xy21645.at h21502
        have h21655 := Xy21645.ar h21505
        have h21656 := Xy21645.ar h21637
        obtain ⟨b21657, e21658, h21659⟩ := Iy21644.fld (h21654) 22 13 800 rfl
        have p21648 := p21648 b21657 e21658
        rw [Xz21651.2.2.2 22 (by decide) rfl b21657 (EM.refB Xz21651 ha0 e21658)] at p21648
        have p21648 : (pI Y21642 a0 28).toInt ≤ 4 + kC (pI P b21657) (40 * a1.toInt).toNat a2.toInt ((pI P3 b21635 (a1.toInt.toNat)).toInt : Int).toNat := p21648
        have h21660 := Iy21644.rg h21654 28 rfl
        have hy : kC (pI P b21657) (40 * a1.toInt).toNat a2.toInt ((pI P3 b21635 (a1.toInt.toNat)).toInt : Int).toNat = kC (pI P b21657) (40 * a1.toInt).toNat a2.toInt ((pI P b21635 (a1.toInt.toNat)).toInt).toNat := by rw [show (pI P3 b21635 (a1.toInt.toNat)).toInt = (pI P b21635 (a1.toInt.toNat)).toInt by omega]
        have n0 : nC (pI P b21657) (40 * a1.toInt).toNat (0 : Int).toNat = 0 := rfl
        refine g_iconst (v := 0) C dX12_agreesBy_23 (by decide) ?_
        refine g_istore (lv' := [(5, .int 0), (0, .ref a0), (1, .int a1), (2, .int a2), (3, .int a3), (4, .int v3_4)]) C dX12_agreesBy_24 (by decide) rfl ?_
        refine g_iconst (v := 0) C dX12_agreesBy_26 (by decide) ?_
        refine g_istore (lv' := [(6, .int 0), (5, .int 0), (0, .ref a0), (1, .int a1), (2, .int a2), (3, .int a3), (4, .int v3_4)]) C dX12_agreesBy_27 (by decide) rfl ?_
        refine g_lv (lv' := [(0, .ref a0), (1, .int a1), (2, .int a2), (3, .int a3), (4, .int v3_4), (5, .int 0), (6, .int 0)]) [2, 3, 4, 5, 6, 1, 0] rfl ?_
        exact J29 _ Y21642 0 0 (Nat.lt_succ_self _) Iy21644 Xz21651 W21646 (by omega) (by decide) (fun b9 e9 => by rw [e21652] at e9; cases e9; omega) (by intro b920 b922 e920 e922; rw [e21653] at e920; cases e920; rw [e21658] at e922; cases e922; show (pI Y21642 a0 28).toInt ≤ 4 + kC (pI P b21657) (40 * a1.toInt).toNat a2.toInt ((pI P b21635 (a1.toInt.toNat)).toInt : Int).toNat + nC (pI P b21657) (40 * a1.toInt).toNat (0 : Int).toNat; omega) (by intro b920 e920; rw [e21653] at e920; cases e920; show 0 ≤ 0 ∧ 0 ≤ (pI P b21635 (a1.toInt.toNat)).toInt; omega)
  obtain ⟨b21661, e21662, h21663⟩ := I.fld (ha0) 10 13 2 rfl
  have hf0 := hf0 b21661 e21662
  refine g_iconst (v := 0) C dX12_agreesBy_0 (by decide) ?_
  refine g_istore (lv' := [(4, .int 0), (0, .ref a0), (1, .int a1), (2, .int a2), (3, .int a3)]) C dX12_agreesBy_1 (by decide) rfl ?_
  refine g_lv (lv' := [(0, .ref a0), (1, .int a1), (2, .int a2), (3, .int a3), (4, .int 0)]) [1, 2, 3, 4, 0] rfl ?_
  exact J3 _ P 0 (Nat.lt_succ_self _) I EM.rf hW (by decide) (fun b9 e9 => by rw [e21662] at e9; cases e9; omega)
