theorem dX12_adds_0 : decode cX12_adds 0 = .ok (.aload_n 0, 1) := by decide +kernel
theorem dX12_adds_1 : decode cX12_adds 1 = .ok (.getfield 91, 3) := by decide +kernel
theorem dX12_adds_4 : decode cX12_adds 4 = .ok (.aload_n 0, 1) := by decide +kernel
theorem dX12_adds_5 : decode cX12_adds 5 = .ok (.getfield 305, 3) := by decide +kernel
theorem dX12_adds_8 : decode cX12_adds 8 = .ok (.iload_n 1, 1) := by decide +kernel
theorem dX12_adds_9 : decode cX12_adds 9 = .ok (.iastore, 1) := by decide +kernel
theorem dX12_adds_10 : decode cX12_adds 10 = .ok (.aload_n 0, 1) := by decide +kernel
theorem dX12_adds_11 : decode cX12_adds 11 = .ok (.getfield 94, 3) := by decide +kernel
theorem dX12_adds_14 : decode cX12_adds 14 = .ok (.aload_n 0, 1) := by decide +kernel
theorem dX12_adds_15 : decode cX12_adds 15 = .ok (.getfield 305, 3) := by decide +kernel
theorem dX12_adds_18 : decode cX12_adds 18 = .ok (.iload_n 2, 1) := by decide +kernel
theorem dX12_adds_19 : decode cX12_adds 19 = .ok (.iastore, 1) := by decide +kernel
theorem dX12_adds_20 : decode cX12_adds 20 = .ok (.aload_n 0, 1) := by decide +kernel
theorem dX12_adds_21 : decode cX12_adds 21 = .ok (.getfield 97, 3) := by decide +kernel
theorem dX12_adds_24 : decode cX12_adds 24 = .ok (.aload_n 0, 1) := by decide +kernel
theorem dX12_adds_25 : decode cX12_adds 25 = .ok (.getfield 305, 3) := by decide +kernel
theorem dX12_adds_28 : decode cX12_adds 28 = .ok (.iload_n 3, 1) := by decide +kernel
theorem dX12_adds_29 : decode cX12_adds 29 = .ok (.iastore, 1) := by decide +kernel
theorem dX12_adds_30 : decode cX12_adds 30 = .ok (.aload_n 0, 1) := by decide +kernel
theorem dX12_adds_31 : decode cX12_adds 31 = .ok (.dup, 1) := by decide +kernel
theorem dX12_adds_32 : decode cX12_adds 32 = .ok (.getfield 305, 3) := by decide +kernel
theorem dX12_adds_35 : decode cX12_adds 35 = .ok (.iconst 1, 1) := by decide +kernel
theorem dX12_adds_36 : decode cX12_adds 36 = .ok (.iadd, 1) := by decide +kernel
theorem dX12_adds_37 : decode cX12_adds 37 = .ok (.putfield 305, 3) := by decide +kernel
theorem dX12_adds_40 : decode cX12_adds 40 = .ok (.return_, 1) := by decide +kernel
set_option maxHeartbeats 4000000 in
set_option maxRecDepth 100000 in
theorem s_X12_adds {P : PP} {a0 : Nat} {a1 : Int32} {a2 : Int32} {a3 : Int32} (I : IM P a0) (hp0_28 : 0 ≤ (pI P a0 28).toInt ∧ (pI P a0 28).toInt ≤ 63) : CtrV yX12_adds cX12_adds 4 none ({ frames := 1, cells := 0, slots := 0, locals := 64 } : Room) 0 0 P [.ref a0, .int a1, .int a2, .int a3] (fun P2 => IM P2 a0 ∧ EM [28, 29, 30, 31] a0 P P2 ∧ ((pI P2 a0 28).toInt = (pI P a0 28).toInt + 1)) := by
  refine enV (lv := [(0, .ref a0), (1, .int a1), (2, .int a2), (3, .int a3)]) (by decide) (Nat.le_of_ble_eq_true rfl) rfl (fun E D cy C Ci0 ret => ?_)
  have ha0 := I.2.1
  refine g_aload_n C dX12_adds_0 rfl 0 rfl ?_
  obtain ⟨b39, e40, h41⟩ := I.fld (ha0) 29 13 64 rfl
  refine g_getR C fi_X12_91 rfl e40 (ha0).1 (ha0).2 dX12_adds_1 ?_
  refine g_aload_n C dX12_adds_4 rfl 0 rfl ?_
  refine g_getI C fi_X12_305 (by decide) (ha0).1 (ha0).2 dX12_adds_5 ?_
  refine g_iload_n C dX12_adds_8 rfl 1 rfl ?_
  refine g_iast (j := ((pI P a0 28).toInt.toNat)) C h41.1 h41.2.1 (ix_in h41.2.2 (by omega)) dX12_adds_9 ?_
  refine gqW (ks := [29]) (I.setA e40 h41 (by decide) (arOk.none rfl)) (EM.setA I e40 rfl (by decide)) (fun Y42 Iy43 Xy44 w45 => ?_)
  have w45 : (pI Y42 b39 ((pI P a0 28).toInt.toNat)).toInt = a1.toInt := w45
  have q46 := Xy44.keepF 28 (by decide)
  have Xz47 : EM [28, 29, 30, 31] a0 P Y42 := Xy44.mono (by decide)
  have h48 := Xy44.at ha0
  refine g_aload_n C dX12_adds_10 rfl 0 rfl ?_
  obtain ⟨b49, e50, h51⟩ := Iy43.fld (h48) 30 13 64 rfl
  refine g_getR C fi_X12_94 rfl e50 (h48).1 (h48).2 dX12_adds_11 ?_
  refine g_aload_n C dX12_adds_14 rfl 0 rfl ?_
  refine g_getI C fi_X12_305 (by decide) (h48).1 (h48).2 dX12_adds_15 ?_
  refine g_iload_n C dX12_adds_18 rfl 2 rfl ?_
  refine g_iast (j := ((pI Y42 a0 28).toInt.toNat)) C h51.1 h51.2.1 (ix_in h51.2.2 (by omega)) dX12_adds_19 ?_
  refine gqW (ks := [30]) (Iy43.setA e50 h51 (by decide) (arOk.none rfl)) (EM.setA Iy43 e50 rfl (by decide)) (fun Y52 Iy53 Xy54 w55 => ?_)
  have w55 : (pI Y52 b49 ((pI Y42 a0 28).toInt.toNat)).toInt = a2.toInt := w55
  have q56 := Xy54.keepF 28 (by decide)
  have Xz57 : EM [28, 29, 30, 31] a0 P Y52 := EM.tr ha0 Xz47 (Xy54.mono (by decide))
  have h58 := Xy54.at h48
  refine g_aload_n C dX12_adds_20 rfl 0 rfl ?_
  obtain ⟨b59, e60, h61⟩ := Iy53.fld (h58) 31 13 64 rfl
  refine g_getR C fi_X12_97 rfl e60 (h58).1 (h58).2 dX12_adds_21 ?_
  refine g_aload_n C dX12_adds_24 rfl 0 rfl ?_
  refine g_getI C fi_X12_305 (by decide) (h58).1 (h58).2 dX12_adds_25 ?_
  refine g_iload_n C dX12_adds_28 rfl 3 rfl ?_
  refine g_iast (j := ((pI Y52 a0 28).toInt.toNat)) C h61.1 h61.2.1 (ix_in h61.2.2 (by omega)) dX12_adds_29 ?_
  refine gqW (ks := [31]) (Iy53.setA e60 h61 (by decide) (arOk.none rfl)) (EM.setA Iy53 e60 rfl (by decide)) (fun Y62 Iy63 Xy64 w65 => ?_)
  have w65 : (pI Y62 b59 ((pI Y52 a0 28).toInt.toNat)).toInt = a3.toInt := w65
  have q66 := Xy64.keepF 28 (by decide)
  have Xz67 : EM [28, 29, 30, 31] a0 P Y62 := EM.tr ha0 Xz57 (Xy64.mono (by decide))
  have h68 := Xy64.at h58
  refine g_aload_n C dX12_adds_30 rfl 0 rfl ?_
  refine g_dup C dX12_adds_31 rfl ?_
  refine g_getI C fi_X12_305 (by decide) (h68).1 (h68).2 dX12_adds_32 ?_
  refine g_iconst (v := 1) C dX12_adds_35 (by decide) ?_
  refine s_iadd C dX12_adds_36 (by show -2147483648 ≤ (pI Y62 a0 28).toInt + 1 ∧ (pI Y62 a0 28).toInt + 1 ≤ 2147483647; omega) (fun z69 h70 => ?_)
  have h70 : z69.toInt = (pI Y62 a0 28).toInt + 1 := h70
  refine g_putI C fi_X12_305 rfl (h68).1 (h68).2 dX12_adds_37 ?_
  refine gqW (ks := [28]) (Iy63.setI (rgOk.of rfl (by omega))) (EM.setI Iy63 (by decide)) (fun Y71 Iy72 Xy73 w74 => ?_)
  have w74 : (pI Y71 a0 28).toInt = z69.toInt := w74
  have Xz75 : EM [28, 29, 30, 31] a0 P Y71 := EM.tr ha0 Xz67 (Xy73.mono (by decide))
  have h76 := Xy73.at h68
  exact ret _ _ _ _ _ dX12_adds_40 (by decide) (by decide) ⟨Iy72, Xz75, (by show (pI Y71 a0 28).toInt = (pI P a0 28).toInt + 1; omega)⟩
theorem dX12_agreesBy_0 : decode cX12_agreesBy 0 = .ok (.iconst 0, 1) := by decide +kernel
theorem dX12_agreesBy_1 : decode cX12_agreesBy 1 = .ok (.istore 4, 2) := by decide +kernel
theorem dX12_agreesBy_3 : decode cX12_agreesBy 3 = .ok (.iload 4, 2) := by decide +kernel
theorem dX12_agreesBy_5 : decode cX12_agreesBy 5 = .ok (.iconst 2, 1) := by decide +kernel
theorem dX12_agreesBy_6 : decode cX12_agreesBy 6 = .ok (.if_icmp .ge 121, 3) := by decide +kernel
theorem dX12_agreesBy_9 : decode cX12_agreesBy 9 = .ok (.aload_n 0, 1) := by decide +kernel
theorem dX12_agreesBy_10 : decode cX12_agreesBy 10 = .ok (.iload_n 1, 1) := by decide +kernel
theorem dX12_agreesBy_11 : decode cX12_agreesBy 11 = .ok (.iload_n 2, 1) := by decide +kernel
theorem dX12_agreesBy_12 : decode cX12_agreesBy 12 = .ok (.iload 4, 2) := by decide +kernel
theorem dX12_agreesBy_14 : decode cX12_agreesBy 14 = .ok (.aload_n 0, 1) := by decide +kernel
theorem dX12_agreesBy_15 : decode cX12_agreesBy 15 = .ok (.getfield 69, 3) := by decide +kernel
theorem dX12_agreesBy_18 : decode cX12_agreesBy 18 = .ok (.iload_n 1, 1) := by decide +kernel
theorem dX12_agreesBy_19 : decode cX12_agreesBy 19 = .ok (.iaload, 1) := by decide +kernel
theorem dX12_agreesBy_20 : decode cX12_agreesBy 20 = .ok (.invokevirtual 339, 3) := by decide +kernel
theorem dX12_gathers_0 : decode cX12_gathers 0 = .ok (.aload_n 0, 1) := by decide +kernel
theorem dX12_gathers_1 : decode cX12_gathers 1 = .ok (.iload_n 2, 1) := by decide +kernel
theorem dX12_gathers_2 : decode cX12_gathers 2 = .ok (.invokevirtual 312, 3) := by decide +kernel
theorem dX12_begins_0 : decode cX12_begins 0 = .ok (.aload_n 0, 1) := by decide +kernel
theorem dX12_begins_1 : decode cX12_begins 1 = .ok (.iconst 0, 1) := by decide +kernel
theorem dX12_begins_2 : decode cX12_begins 2 = .ok (.putfield 305, 3) := by decide +kernel
theorem dX12_begins_5 : decode cX12_begins 5 = .ok (.iconst 0, 1) := by decide +kernel
theorem dX12_begins_6 : decode cX12_begins 6 = .ok (.istore_n 2, 1) := by decide +kernel
theorem dX12_begins_7 : decode cX12_begins 7 = .ok (.iload_n 2, 1) := by decide +kernel
theorem dX12_begins_8 : decode cX12_begins 8 = .ok (.aload_n 0, 1) := by decide +kernel
theorem dX12_begins_9 : decode cX12_begins 9 = .ok (.getfield 60, 3) := by decide +kernel
theorem dX12_begins_12 : decode cX12_begins 12 = .ok (.iload_n 1, 1) := by decide +kernel
theorem dX12_begins_13 : decode cX12_begins 13 = .ok (.iaload, 1) := by decide +kernel
theorem dX12_begins_14 : decode cX12_begins 14 = .ok (.if_icmp .ge 36, 3) := by decide +kernel
theorem dX12_begins_17 : decode cX12_begins 17 = .ok (.aload_n 0, 1) := by decide +kernel
theorem dX12_begins_18 : decode cX12_begins 18 = .ok (.aload_n 0, 1) := by decide +kernel
theorem dX12_begins_19 : decode cX12_begins 19 = .ok (.getfield 63, 3) := by decide +kernel
theorem dX12_begins_22 : decode cX12_begins 22 = .ok (.iconst 4, 1) := by decide +kernel
theorem dX12_begins_23 : decode cX12_begins 23 = .ok (.iload_n 1, 1) := by decide +kernel
theorem dX12_begins_24 : decode cX12_begins 24 = .ok (.imul, 1) := by decide +kernel
theorem dX12_begins_25 : decode cX12_begins 25 = .ok (.iload_n 2, 1) := by decide +kernel
theorem dX12_begins_26 : decode cX12_begins 26 = .ok (.iadd, 1) := by decide +kernel
theorem dX12_begins_27 : decode cX12_begins 27 = .ok (.iaload, 1) := by decide +kernel
theorem dX12_begins_28 : decode cX12_begins 28 = .ok (.iconst 1, 1) := by decide +kernel
theorem dX12_begins_29 : decode cX12_begins 29 = .ok (.aload_n 0, 1) := by decide +kernel
theorem dX12_begins_30 : decode cX12_begins 30 = .ok (.getfield 45, 3) := by decide +kernel
theorem dX12_begins_33 : decode cX12_begins 33 = .ok (.iload_n 1, 1) := by decide +kernel
theorem dX12_begins_34 : decode cX12_begins 34 = .ok (.iaload, 1) := by decide +kernel
theorem dX12_begins_35 : decode cX12_begins 35 = .ok (.iload_n 2, 1) := by decide +kernel
theorem dX12_begins_36 : decode cX12_begins 36 = .ok (.iadd, 1) := by decide +kernel
theorem dX12_begins_37 : decode cX12_begins 37 = .ok (.ishl, 1) := by decide +kernel
theorem dX12_begins_38 : decode cX12_begins 38 = .ok (.ior, 1) := by decide +kernel
theorem dX12_begins_39 : decode cX12_begins 39 = .ok (.iconst 0, 1) := by decide +kernel
theorem dX12_begins_40 : decode cX12_begins 40 = .ok (.iconst (-1), 1) := by decide +kernel
theorem dX12_begins_41 : decode cX12_begins 41 = .ok (.invokevirtual 308, 3) := by decide +kernel
theorem dX12_begins_44 : decode cX12_begins 44 = .ok (.iinc 2 1, 3) := by decide +kernel
theorem dX12_begins_47 : decode cX12_begins 47 = .ok (.goto (-40), 3) := by decide +kernel
theorem dX12_begins_50 : decode cX12_begins 50 = .ok (.return_, 1) := by decide +kernel
set_option maxHeartbeats 4000000 in
set_option maxRecDepth 100000 in
theorem s_X12_begins {P : PP} {a0 : Nat} {a1 : Int32} (I : IM P a0) (ha1 : 0 ≤ a1.toInt ∧ a1.toInt ≤ 1) : CtrV yX12_begins cX12_begins 3 none ({ frames := 2, cells := 0, slots := 0, locals := 128 } : Room) 0 0 P [.ref a0, .int a1] (fun P2 => IM P2 a0 ∧ EM [28, 29, 30, 31] a0 P P2 ∧ ((pI P2 a0 28).toInt ≤ 4)) := by
  refine enV (lv := [(0, .ref a0), (1, .int a1)]) (by decide) (Nat.le_of_ble_eq_true rfl) rfl (fun E D cy C Ci0 ret => ?_)
  have ha0 := I.2.1
  have J7 : ∀ (n7 : Nat) (P7 : PP) (v7_2 : Int32), (4 - v7_2.toInt).toNat < n7 → (IM P7 a0) → (EM [28, 29, 30, 31] a0 P P7) → (0 ≤ v7_2.toInt ∧ v7_2.toInt ≤ 4) → (0 ≤ (pI P7 a0 28).toInt) → ((pI P7 a0 28).toInt ≤ v7_2.toInt) → G E ({ frames := 2, cells := 0, slots := 0, locals := 128 } : Room) D cy 3 P7 0 0 7 [(0, .ref a0), (1, .int a1), (2, .int v7_2)] [] := by
    intro n7
    induction n7 with
    | zero => intro P7 v7_2 hm7 I7 X7 hv7_2 hq7_0 rel7_0; omega
    | succ n7 ih7 =>
      intro P7 v7_2 hm7 I7 X7 hv7_2 hq7_0 rel7_0
      have h1375 := X7.at ha0
      refine g_iload_n C dX12_begins_7 rfl 2 rfl ?_
      refine g_aload_n C dX12_begins_8 rfl 0 rfl ?_
      obtain ⟨b1376, e1377, h1378⟩ := I7.fld (h1375) 15 13 3 rfl
      refine g_getR C fi_X12_60 rfl e1377 (h1375).1 (h1375).2 dX12_begins_9 ?_
      refine g_iload_n C dX12_begins_12 rfl 1 rfl ?_
      refine g_iald (j := (a1.toInt.toNat)) C h1378.1 h1378.2.1 (ix_in h1378.2.2 (by omega)) dX12_begins_13 ?_
      have h1379 := I7.arr e1377 rfl (a1.toInt.toNat)
      refine b_icmp_ge C 50 dX12_begins_14 (by decide) (fun h1380 => ?_) (fun h1380 => ?_)
      · have h1380 : (pI P7 b1376 (a1.toInt.toNat)).toInt ≤ v7_2.toInt := h1380
        exact ret _ _ _ _ _ dX12_begins_50 (by decide) (by decide) ⟨I7, X7, (by show (pI P7 a0 28).toInt ≤ 4; omega)⟩
      · have h1380 : v7_2.toInt < (pI P7 b1376 (a1.toInt.toNat)).toInt := h1380
        refine g_aload_n C dX12_begins_17 rfl 0 rfl ?_
        refine g_aload_n C dX12_begins_18 rfl 0 rfl ?_
        obtain ⟨b1381, e1382, h1383⟩ := I7.fld (h1375) 16 13 12 rfl
        refine g_getR C fi_X12_63 rfl e1382 (h1375).1 (h1375).2 dX12_begins_19 ?_
        refine g_iconst (v := 4) C dX12_begins_22 (by decide) ?_
        refine g_iload_n C dX12_begins_23 rfl 1 rfl ?_
        refine s_imul C dX12_begins_24 (by show -2147483648 ≤ 4 * a1.toInt ∧ 4 * a1.toInt ≤ 2147483647; omega) (fun z1384 h1385 => ?_)
        have h1385 : z1384.toInt = 4 * a1.toInt := h1385
        refine g_iload_n C dX12_begins_25 rfl 2 rfl ?_
        refine s_iadd C dX12_begins_26 (by show -2147483648 ≤ z1384.toInt + v7_2.toInt ∧ z1384.toInt + v7_2.toInt ≤ 2147483647; omega) (fun z1386 h1387 => ?_)
        have h1387 : z1386.toInt = z1384.toInt + v7_2.toInt := h1387
        refine g_iald (j := (z1386.toInt.toNat)) C h1383.1 h1383.2.1 (ix_in h1383.2.2 (by omega)) dX12_begins_27 ?_
        refine g_iconst (v := 1) C dX12_begins_28 (by decide) ?_
        refine g_aload_n C dX12_begins_29 rfl 0 rfl ?_
        obtain ⟨b1388, e1389, h1390⟩ := I7.fld (h1375) 10 13 2 rfl
        refine g_getR C fi_X12_45 rfl e1389 (h1375).1 (h1375).2 dX12_begins_30 ?_
        refine g_iload_n C dX12_begins_33 rfl 1 rfl ?_
        refine g_iald (j := (a1.toInt.toNat)) C h1390.1 h1390.2.1 (ix_in h1390.2.2 (by omega)) dX12_begins_34 ?_
        have h1391 := I7.arr e1389 rfl (a1.toInt.toNat)
        refine g_iload_n C dX12_begins_35 rfl 2 rfl ?_
        refine s_iadd C dX12_begins_36 (by show -2147483648 ≤ (pI P7 b1388 (a1.toInt.toNat)).toInt + v7_2.toInt ∧ (pI P7 b1388 (a1.toInt.toNat)).toInt + v7_2.toInt ≤ 2147483647; omega) (fun z1392 h1393 => ?_)
        have h1393 : z1392.toInt = (pI P7 b1388 (a1.toInt.toNat)).toInt + v7_2.toInt := h1393
        refine a_ishl C dX12_begins_37 (fun z1394 => ?_)
        refine a_ior C dX12_begins_38 (fun z1396 => ?_)
        refine g_iconst (v := 0) C dX12_begins_39 (by decide) ?_
        refine g_iconst (v := (-1)) C dX12_begins_40 (by decide) ?_
        refine g_callVV (rest := []) C mv_X12_308 [.int z1396, .int 0, .int (-1)] (s_X12_adds I7 (by omega)) (h1375).1 (h1375).2 rfl rfl (by decide) (Nat.le_of_ble_eq_true rfl) (by decide) dX12_begins_41 (fun Y1399 h1400 => ?_)
        obtain ⟨Iy1401, Xy1402, p1403⟩ := h1400
        have p1403 : (pI Y1399 a0 28).toInt = (pI P7 a0 28).toInt + 1 := p1403
        have q1404 := Xy1402.keepA e1377 (by decide) rfl (a1.toInt.toNat)
        have q1405 := Xy1402.keepA e1389 (by decide) rfl (a1.toInt.toNat)
        have Xz1406 : EM [28, 29, 30, 31] a0 P Y1399 := EM.tr ha0 X7 (Xy1402.mono (by decide))
        have e1407 := Xy1402.ref h1375 (by decide) e1377
        have e1408 := Xy1402.ref h1375 (by decide) e1389
        have h1409 := Xy1402.at h1375
        have h1410 := Xy1402.ar h1378
        have h1411 := Xy1402.ar h1390
        refine s_iinc (lv0 := [(0, .ref a0), (1, .int a1)]) (m := 1) C dX12_begins_44 2 rfl (by decide) rfl (by decide) (by omega) (fun z1412 h1413 => ?_)
        have h1413 : z1412.toInt = v7_2.toInt + 1 := h1413
        refine g_goto C 7 dX12_begins_47 (by decide) ?_
        refine g_lv (lv' := [(0, .ref a0), (1, .int a1), (2, .int z1412)]) [1, 2, 0] rfl ?_
        exact ih7 Y1399 z1412 (by omega) Iy1401 Xz1406 (by omega) (by omega) (by show (pI Y1399 a0 28).toInt ≤ z1412.toInt; omega)
  refine g_aload_n C dX12_begins_0 rfl 0 rfl ?_
  refine g_iconst (v := 0) C dX12_begins_1 (by decide) ?_
  refine g_putI C fi_X12_305 rfl (ha0).1 (ha0).2 dX12_begins_2 ?_
  refine gqW (ks := [28]) (I.setI (rgOk.of rfl (by decide))) (EM.setI I (by decide)) (fun Y1414 Iy1415 Xy1416 w1417 => ?_)
  have w1417 : (pI Y1414 a0 28).toInt = 0 := w1417
  have Xz1418 : EM [28, 29, 30, 31] a0 P Y1414 := Xy1416.mono (by decide)
  have h1419 := Xy1416.at ha0
  refine g_iconst (v := 0) C dX12_begins_5 (by decide) ?_
  refine g_istore_n (lv' := [(2, .int 0), (0, .ref a0), (1, .int a1)]) C dX12_begins_6 rfl (by decide) rfl ?_
  refine g_lv (lv' := [(0, .ref a0), (1, .int a1), (2, .int 0)]) [1, 2, 0] rfl ?_
  exact J7 _ Y1414 0 (Nat.lt_succ_self _) Iy1415 Xz1418 (by decide) (by omega) (by show (pI Y1414 a0 28).toInt ≤ 0; omega)
theorem dX12_gathers_5 : decode cX12_gathers 5 = .ok (.iconst 0, 1) := by decide +kernel
theorem dX12_gathers_6 : decode cX12_gathers 6 = .ok (.istore 5, 2) := by decide +kernel
theorem dX12_gathers_8 : decode cX12_gathers 8 = .ok (.iload 5, 2) := by decide +kernel
theorem dX12_gathers_10 : decode cX12_gathers 10 = .ok (.iload 4, 2) := by decide +kernel
theorem dX12_gathers_12 : decode cX12_gathers 12 = .ok (.if_icmp .ge 83, 3) := by decide +kernel
theorem dX12_gathers_15 : decode cX12_gathers 15 = .ok (.bipush 40, 2) := by decide +kernel
theorem dX12_gathers_17 : decode cX12_gathers 17 = .ok (.iload_n 1, 1) := by decide +kernel
theorem dX12_gathers_18 : decode cX12_gathers 18 = .ok (.imul, 1) := by decide +kernel
theorem dX12_gathers_19 : decode cX12_gathers 19 = .ok (.iload 5, 2) := by decide +kernel
theorem dX12_gathers_21 : decode cX12_gathers 21 = .ok (.iadd, 1) := by decide +kernel
theorem dX12_gathers_22 : decode cX12_gathers 22 = .ok (.istore 6, 2) := by decide +kernel
theorem dX12_gathers_24 : decode cX12_gathers 24 = .ok (.aload_n 0, 1) := by decide +kernel
theorem dX12_gathers_25 : decode cX12_gathers 25 = .ok (.getfield 75, 3) := by decide +kernel
theorem dX12_gathers_28 : decode cX12_gathers 28 = .ok (.iload 6, 2) := by decide +kernel
theorem dX12_gathers_30 : decode cX12_gathers 30 = .ok (.iaload, 1) := by decide +kernel
theorem dX12_gathers_31 : decode cX12_gathers 31 = .ok (.iload_n 2, 1) := by decide +kernel
theorem dX12_gathers_32 : decode cX12_gathers 32 = .ok (.if_icmp .ne 57, 3) := by decide +kernel
theorem dX12_gathers_35 : decode cX12_gathers 35 = .ok (.aload_n 0, 1) := by decide +kernel
theorem dX12_gathers_36 : decode cX12_gathers 36 = .ok (.getfield 81, 3) := by decide +kernel
theorem dX12_gathers_39 : decode cX12_gathers 39 = .ok (.iload 6, 2) := by decide +kernel
theorem dX12_gathers_41 : decode cX12_gathers 41 = .ok (.iaload, 1) := by decide +kernel
theorem dX12_gathers_42 : decode cX12_gathers 42 = .ok (.iload_n 3, 1) := by decide +kernel
theorem dX12_gathers_43 : decode cX12_gathers 43 = .ok (.ishr, 1) := by decide +kernel
theorem dX12_gathers_44 : decode cX12_gathers 44 = .ok (.iconst 1, 1) := by decide +kernel
theorem dX12_gathers_45 : decode cX12_gathers 45 = .ok (.iand, 1) := by decide +kernel
theorem dX12_gathers_46 : decode cX12_gathers 46 = .ok (.iconst 1, 1) := by decide +kernel
theorem dX12_gathers_47 : decode cX12_gathers 47 = .ok (.if_icmp .ne 42, 3) := by decide +kernel
theorem dX12_gathers_50 : decode cX12_gathers 50 = .ok (.aload_n 0, 1) := by decide +kernel
theorem dX12_gathers_51 : decode cX12_gathers 51 = .ok (.getfield 100, 3) := by decide +kernel
theorem dX12_gathers_54 : decode cX12_gathers 54 = .ok (.iload 5, 2) := by decide +kernel
theorem dX12_gathers_56 : decode cX12_gathers 56 = .ok (.baload, 1) := by decide +kernel
theorem dX12_gathers_57 : decode cX12_gathers 57 = .ok (.ifCond .ne 32, 3) := by decide +kernel
theorem dX12_gathers_60 : decode cX12_gathers 60 = .ok (.aload_n 0, 1) := by decide +kernel
theorem dX12_gathers_61 : decode cX12_gathers 61 = .ok (.aload_n 0, 1) := by decide +kernel
theorem dX12_gathers_62 : decode cX12_gathers 62 = .ok (.iload_n 2, 1) := by decide +kernel
theorem dX12_gathers_63 : decode cX12_gathers 63 = .ok (.aload_n 0, 1) := by decide +kernel
theorem dX12_gathers_64 : decode cX12_gathers 64 = .ok (.getfield 72, 3) := by decide +kernel
theorem dX12_gathers_67 : decode cX12_gathers 67 = .ok (.iload 6, 2) := by decide +kernel
theorem dX12_gathers_69 : decode cX12_gathers 69 = .ok (.iaload, 1) := by decide +kernel
theorem dX12_gathers_70 : decode cX12_gathers 70 = .ok (.invokevirtual 261, 3) := by decide +kernel
theorem dX12_gathers_95 : decode cX12_gathers 95 = .ok (.return_, 1) := by decide +kernel
theorem dX12_setOf_0 : decode cX12_setOf 0 = .ok (.aload_n 0, 1) := by decide +kernel
theorem dX12_setOf_1 : decode cX12_setOf 1 = .ok (.iload_n 2, 1) := by decide +kernel
theorem dX12_setOf_2 : decode cX12_setOf 2 = .ok (.i2l, 1) := by decide +kernel
theorem dX12_setOf_3 : decode cX12_setOf 3 = .ok (.ldc2_w 248, 3) := by decide +kernel
theorem dX12_setOf_6 : decode cX12_setOf 6 = .ok (.lmul, 1) := by decide +kernel
theorem dX12_setOf_7 : decode cX12_setOf 7 = .ok (.iload_n 1, 1) := by decide +kernel
theorem dX12_setOf_8 : decode cX12_setOf 8 = .ok (.i2l, 1) := by decide +kernel
theorem dX12_setOf_9 : decode cX12_setOf 9 = .ok (.ldc2_w 250, 3) := by decide +kernel
theorem dX12_setOf_12 : decode cX12_setOf 12 = .ok (.lmul, 1) := by decide +kernel
theorem dX12_setOf_13 : decode cX12_setOf 13 = .ok (.ladd, 1) := by decide +kernel
theorem dX12_setOf_14 : decode cX12_setOf 14 = .ok (.lconst 1, 1) := by decide +kernel
theorem dX12_setOf_15 : decode cX12_setOf 15 = .ok (.ladd, 1) := by decide +kernel
theorem dX12_setOf_16 : decode cX12_setOf 16 = .ok (.ldc2_w 234, 3) := by decide +kernel
theorem dX12_setOf_19 : decode cX12_setOf 19 = .ok (.lrem, 1) := by decide +kernel
theorem dX12_allHouses_0 : decode cX12_allHouses 0 = .ok (.iconst 0, 1) := by decide +kernel
theorem dX12_allHouses_1 : decode cX12_allHouses 1 = .ok (.istore_n 1, 1) := by decide +kernel
theorem dX12_allHouses_2 : decode cX12_allHouses 2 = .ok (.iconst 0, 1) := by decide +kernel
theorem dX12_allHouses_3 : decode cX12_allHouses 3 = .ok (.istore_n 2, 1) := by decide +kernel
theorem dX12_allHouses_4 : decode cX12_allHouses 4 = .ok (.iload_n 2, 1) := by decide +kernel
theorem dX12_allHouses_5 : decode cX12_allHouses 5 = .ok (.iconst 4, 1) := by decide +kernel
theorem dX12_allHouses_6 : decode cX12_allHouses 6 = .ok (.if_icmp .ge 18, 3) := by decide +kernel
theorem dX12_allHouses_9 : decode cX12_allHouses 9 = .ok (.iload_n 1, 1) := by decide +kernel
theorem dX12_allHouses_10 : decode cX12_allHouses 10 = .ok (.aload_n 0, 1) := by decide +kernel
theorem dX12_allHouses_11 : decode cX12_allHouses 11 = .ok (.getfield 130, 3) := by decide +kernel
theorem dX12_allHouses_14 : decode cX12_allHouses 14 = .ok (.iload_n 2, 1) := by decide +kernel
theorem dX12_allHouses_15 : decode cX12_allHouses 15 = .ok (.iaload, 1) := by decide +kernel
theorem dX12_allHouses_16 : decode cX12_allHouses 16 = .ok (.iadd, 1) := by decide +kernel
theorem dX12_allHouses_17 : decode cX12_allHouses 17 = .ok (.istore_n 1, 1) := by decide +kernel
theorem dX12_allHouses_18 : decode cX12_allHouses 18 = .ok (.iinc 2 1, 3) := by decide +kernel
theorem dX12_allHouses_21 : decode cX12_allHouses 21 = .ok (.goto (-17), 3) := by decide +kernel
theorem dX12_allHouses_24 : decode cX12_allHouses 24 = .ok (.iload_n 1, 1) := by decide +kernel
theorem dX12_allHouses_25 : decode cX12_allHouses 25 = .ok (.ireturn, 1) := by decide +kernel
set_option maxHeartbeats 4000000 in
set_option maxRecDepth 100000 in
theorem s_X12_allHouses {P : PP} {a0 : Nat} (I : IM P a0) : CtrI yX12_allHouses cX12_allHouses 3 (some Jvm.ClassFile.FieldType.int) ({ frames := 1, cells := 0, slots := 0, locals := 64 } : Room) 0 0 P [.ref a0] (fun r P2 => P = P2 ∧ (True)) := by
  refine enI (lv := [(0, .ref a0)]) (by decide) (Nat.le_of_ble_eq_true rfl) rfl (fun E D cy C Ci0 ret => ?_)
  have ha0 := I.2.1
  have J4 : ∀ (n4 : Nat) (v4_1 : Int32) (v4_2 : Int32), (4 - v4_2.toInt).toNat < n4 → (0 ≤ v4_2.toInt ∧ v4_2.toInt ≤ 4) → G E ({ frames := 1, cells := 0, slots := 0, locals := 64 } : Room) D cy 3 P 0 0 4 [(0, .ref a0), (1, .int v4_1), (2, .int v4_2)] [] := by
    intro n4
    induction n4 with
    | zero => intro v4_1 v4_2 hm4 hv4_2; omega
    | succ n4 ih4 =>
      intro v4_1 v4_2 hm4 hv4_2
      refine g_iload_n C dX12_allHouses_4 rfl 2 rfl ?_
      refine g_iconst (v := 4) C dX12_allHouses_5 (by decide) ?_
      refine b_icmp_ge C 24 dX12_allHouses_6 (by decide) (fun h1505 => ?_) (fun h1505 => ?_)
      · have h1505 : 4 ≤ v4_2.toInt := h1505
        refine g_iload_n C dX12_allHouses_24 rfl 1 rfl ?_
        exact ret _ _ _ _ _ _ dX12_allHouses_25 rfl (by decide) (by decide) ⟨rfl, trivial⟩
      · have h1505 : v4_2.toInt < 4 := h1505
        refine g_iload_n C dX12_allHouses_9 rfl 1 rfl ?_
        refine g_aload_n C dX12_allHouses_10 rfl 0 rfl ?_
        obtain ⟨b1506, e1507, h1508⟩ := I.fld (ha0) 46 13 4 rfl
        refine g_getR C fi_X12_130 rfl e1507 (ha0).1 (ha0).2 dX12_allHouses_11 ?_
        refine g_iload_n C dX12_allHouses_14 rfl 2 rfl ?_
        refine g_iald (j := (v4_2.toInt.toNat)) C h1508.1 h1508.2.1 (ix_in h1508.2.2 (by omega)) dX12_allHouses_15 ?_
        refine a_iadd C dX12_allHouses_16 (fun z1509 => ?_)
        refine g_istore_n (lv' := [(1, .int z1509), (0, .ref a0), (2, .int v4_2)]) C dX12_allHouses_17 rfl (by decide) rfl ?_
        refine s_iinc (lv0 := [(1, .int z1509), (0, .ref a0)]) (m := 1) C dX12_allHouses_18 2 rfl (by decide) rfl (by decide) (by omega) (fun z1511 h1512 => ?_)
        have h1512 : z1511.toInt = v4_2.toInt + 1 := h1512
        refine g_goto C 4 dX12_allHouses_21 (by decide) ?_
        refine g_lv (lv' := [(0, .ref a0), (1, .int z1509), (2, .int z1511)]) [2, 1, 0] rfl ?_
        exact ih4 z1509 z1511 (by omega) (by omega)
  refine g_iconst (v := 0) C dX12_allHouses_0 (by decide) ?_
  refine g_istore_n (lv' := [(1, .int 0), (0, .ref a0)]) C dX12_allHouses_1 rfl (by decide) rfl ?_
  refine g_iconst (v := 0) C dX12_allHouses_2 (by decide) ?_
  refine g_istore_n (lv' := [(2, .int 0), (1, .int 0), (0, .ref a0)]) C dX12_allHouses_3 rfl (by decide) rfl ?_
  refine g_lv (lv' := [(0, .ref a0), (1, .int 0), (2, .int 0)]) [2, 1, 0] rfl ?_
  exact J4 _ 0 0 (Nat.lt_succ_self _) (by decide)
theorem dX12_allOf_0 : decode cX12_allOf 0 = .ok (.aload_n 0, 1) := by decide +kernel
theorem dX12_allOf_1 : decode cX12_allOf 1 = .ok (.getfield 45, 3) := by decide +kernel
theorem dX12_allOf_4 : decode cX12_allOf 4 = .ok (.iload_n 1, 1) := by decide +kernel
theorem dX12_allOf_5 : decode cX12_allOf 5 = .ok (.iaload, 1) := by decide +kernel
theorem dX12_allOf_6 : decode cX12_allOf 6 = .ok (.ifCond .ne 7, 3) := by decide +kernel
theorem dX12_allOf_9 : decode cX12_allOf 9 = .ok (.iconst 0, 1) := by decide +kernel
theorem dX12_allOf_10 : decode cX12_allOf 10 = .ok (.goto 16, 3) := by decide +kernel
theorem dX12_allOf_13 : decode cX12_allOf 13 = .ok (.aload_n 0, 1) := by decide +kernel
theorem dX12_allOf_14 : decode cX12_allOf 14 = .ok (.getfield 45, 3) := by decide +kernel
theorem dX12_allOf_17 : decode cX12_allOf 17 = .ok (.iload_n 1, 1) := by decide +kernel
theorem dX12_allOf_18 : decode cX12_allOf 18 = .ok (.iaload, 1) := by decide +kernel
theorem dX12_allOf_19 : decode cX12_allOf 19 = .ok (.aload_n 0, 1) := by decide +kernel
theorem dX12_allOf_20 : decode cX12_allOf 20 = .ok (.getfield 60, 3) := by decide +kernel
theorem dX12_allOf_23 : decode cX12_allOf 23 = .ok (.iload_n 1, 1) := by decide +kernel
theorem dX12_allOf_24 : decode cX12_allOf 24 = .ok (.iaload, 1) := by decide +kernel
theorem dX12_allOf_25 : decode cX12_allOf 25 = .ok (.iadd, 1) := by decide +kernel
theorem dX12_allOf_26 : decode cX12_allOf 26 = .ok (.ireturn, 1) := by decide +kernel
set_option maxHeartbeats 4000000 in
set_option maxRecDepth 100000 in
theorem s_X12_allOf {P : PP} {a0 : Nat} {a1 : Int32} (I : IM P a0) (ha1 : 0 ≤ a1.toInt ∧ a1.toInt ≤ 1) : CtrI yX12_allOf cX12_allOf 2 (some Jvm.ClassFile.FieldType.int) ({ frames := 1, cells := 0, slots := 0, locals := 64 } : Room) 0 0 P [.ref a0, .int a1] (fun r P2 => P = P2 ∧ (0 ≤ r.toInt ∧ r.toInt ≤ 20)) := by
  refine enI (lv := [(0, .ref a0), (1, .int a1)]) (by decide) (Nat.le_of_ble_eq_true rfl) rfl (fun E D cy C Ci0 ret => ?_)
  have ha0 := I.2.1
  refine g_aload_n C dX12_allOf_0 rfl 0 rfl ?_
  obtain ⟨b1524, e1525, h1526⟩ := I.fld (ha0) 10 13 2 rfl
  refine g_getR C fi_X12_45 rfl e1525 (ha0).1 (ha0).2 dX12_allOf_1 ?_
  refine g_iload_n C dX12_allOf_4 rfl 1 rfl ?_
  refine g_iald (j := (a1.toInt.toNat)) C h1526.1 h1526.2.1 (ix_in h1526.2.2 (by omega)) dX12_allOf_5 ?_
  have h1527 := I.arr e1525 rfl (a1.toInt.toNat)
  refine b_if_ne C 13 dX12_allOf_6 (by decide) (fun h1528 => ?_) (fun h1528 => ?_)
  · have h1528 : (pI P b1524 (a1.toInt.toNat)).toInt ≠ 0 := ti_ne h1528
    refine g_aload_n C dX12_allOf_13 rfl 0 rfl ?_
    refine g_getR C fi_X12_45 rfl e1525 (ha0).1 (ha0).2 dX12_allOf_14 ?_
    refine g_iload_n C dX12_allOf_17 rfl 1 rfl ?_
    refine g_iald (j := (a1.toInt.toNat)) C h1526.1 h1526.2.1 (ix_in h1526.2.2 (by omega)) dX12_allOf_18 ?_
    refine g_aload_n C dX12_allOf_19 rfl 0 rfl ?_
    obtain ⟨b1529, e1530, h1531⟩ := I.fld (ha0) 15 13 3 rfl
    refine g_getR C fi_X12_60 rfl e1530 (ha0).1 (ha0).2 dX12_allOf_20 ?_
    refine g_iload_n C dX12_allOf_23 rfl 1 rfl ?_
    refine g_iald (j := (a1.toInt.toNat)) C h1531.1 h1531.2.1 (ix_in h1531.2.2 (by omega)) dX12_allOf_24 ?_
    have h1532 := I.arr e1530 rfl (a1.toInt.toNat)
    refine s_iadd C dX12_allOf_25 (by show -2147483648 ≤ (pI P b1524 (a1.toInt.toNat)).toInt + (pI P b1529 (a1.toInt.toNat)).toInt ∧ (pI P b1524 (a1.toInt.toNat)).toInt + (pI P b1529 (a1.toInt.toNat)).toInt ≤ 2147483647; omega) (fun z1533 h1534 => ?_)
    have h1534 : z1533.toInt = (pI P b1524 (a1.toInt.toNat)).toInt + (pI P b1529 (a1.toInt.toNat)).toInt := h1534
    exact ret _ _ _ _ _ _ dX12_allOf_26 rfl (by decide) (by decide) ⟨rfl, (by omega)⟩
  · have h1528 : (pI P b1524 (a1.toInt.toNat)).toInt = 0 := congrArg Int32.toInt h1528
    refine g_iconst (v := 0) C dX12_allOf_9 (by decide) ?_
    refine g_goto C 26 dX12_allOf_10 (by decide) ?_
    exact ret _ _ _ _ _ _ dX12_allOf_26 rfl (by decide) (by decide) ⟨rfl, (by decide)⟩
theorem dX12_apart_0 : decode cX12_apart 0 = .ok (.aload_n 0, 1) := by decide +kernel
theorem dX12_apart_1 : decode cX12_apart 1 = .ok (.iconst 0, 1) := by decide +kernel
theorem dX12_apart_2 : decode cX12_apart 2 = .ok (.putfield 1, 3) := by decide +kernel
theorem dX12_apart_5 : decode cX12_apart 5 = .ok (.aload_n 0, 1) := by decide +kernel
theorem dX12_apart_6 : decode cX12_apart 6 = .ok (.iload_n 1, 1) := by decide +kernel
theorem dX12_apart_7 : decode cX12_apart 7 = .ok (.iload_n 2, 1) := by decide +kernel
theorem dX12_apart_8 : decode cX12_apart 8 = .ok (.invokevirtual 298, 3) := by decide +kernel
theorem dX12_isPaper_0 : decode cX12_isPaper 0 = .ok (.iload_n 1, 1) := by decide +kernel
theorem dX12_isPaper_1 : decode cX12_isPaper 1 = .ok (.invokestatic 278, 3) := by decide +kernel
theorem dX12_isQuarter_0 : decode cX12_isQuarter 0 = .ok (.iload_n 0, 1) := by decide +kernel
theorem dX12_isQuarter_1 : decode cX12_isQuarter 1 = .ok (.iconst 0, 1) := by decide +kernel
theorem dX12_isQuarter_2 : decode cX12_isQuarter 2 = .ok (.iconst 3, 1) := by decide +kernel
theorem dX12_isQuarter_3 : decode cX12_isQuarter 3 = .ok (.invokestatic 178, 3) := by decide +kernel
theorem dX12_within_0 : decode cX12_within 0 = .ok (.iload_n 0, 1) := by decide +kernel
theorem dX12_within_1 : decode cX12_within 1 = .ok (.iload_n 1, 1) := by decide +kernel
theorem dX12_within_2 : decode cX12_within 2 = .ok (.if_icmp .lt 12, 3) := by decide +kernel
theorem dX12_within_5 : decode cX12_within 5 = .ok (.iload_n 0, 1) := by decide +kernel
theorem dX12_within_6 : decode cX12_within 6 = .ok (.iload_n 2, 1) := by decide +kernel
theorem dX12_within_7 : decode cX12_within 7 = .ok (.if_icmp .gt 7, 3) := by decide +kernel
theorem dX12_within_10 : decode cX12_within 10 = .ok (.iconst 1, 1) := by decide +kernel
theorem dX12_within_11 : decode cX12_within 11 = .ok (.goto 4, 3) := by decide +kernel
theorem dX12_within_14 : decode cX12_within 14 = .ok (.iconst 0, 1) := by decide +kernel
theorem dX12_within_15 : decode cX12_within 15 = .ok (.ireturn, 1) := by decide +kernel
set_option maxHeartbeats 4000000 in
set_option maxRecDepth 100000 in
theorem s_X12_within {P : PP} {a0 : Int32} {a1 : Int32} {a2 : Int32} (I : IV P) : CtrI yX12_within cX12_within 3 (some Jvm.ClassFile.FieldType.boolean) ({ frames := 1, cells := 0, slots := 0, locals := 64 } : Room) 0 0 P [.int a0, .int a1, .int a2] (fun r P2 => P = P2 ∧ (0 ≤ r.toInt ∧ r.toInt ≤ 1) ∧ (r.toInt = 0 ∨ (a1.toInt ≤ a0.toInt ∧ a0.toInt ≤ a2.toInt))) := by
  refine enI (lv := [(0, .int a0), (1, .int a1), (2, .int a2)]) (by decide) (Nat.le_of_ble_eq_true rfl) rfl (fun E D cy C Ci0 ret => ?_)
  have J14 : G E ({ frames := 1, cells := 0, slots := 0, locals := 64 } : Room) D cy 3 P 0 0 14 [] [] := by
    refine g_iconst (v := 0) C dX12_within_14 (by decide) ?_
    exact ret _ _ _ _ _ _ dX12_within_15 rfl (by decide) (by decide) ⟨rfl, (by decide), Or.inl rfl⟩
  refine g_iload_n C dX12_within_0 rfl 0 rfl ?_
  refine g_iload_n C dX12_within_1 rfl 1 rfl ?_
  have u1548 := ti_rng a0
  have u1549 := ti_rng a1
  refine b_icmp_lt C 14 dX12_within_2 (by decide) (fun h1547 => ?_) (fun h1547 => ?_)
  · have h1547 : a0.toInt < a1.toInt := h1547
    refine g_lv (lv' := []) [] rfl ?_
    exact J14 
  · have h1547 : a1.toInt ≤ a0.toInt := h1547
    refine g_iload_n C dX12_within_5 rfl 0 rfl ?_
    refine g_iload_n C dX12_within_6 rfl 2 rfl ?_
    have u1551 := ti_rng a0
    have u1552 := ti_rng a2
    refine b_icmp_gt C 14 dX12_within_7 (by decide) (fun h1550 => ?_) (fun h1550 => ?_)
    · have h1550 : a2.toInt < a0.toInt := h1550
      refine g_lv (lv' := []) [] rfl ?_
      exact J14 
    · have h1550 : a0.toInt ≤ a2.toInt := h1550
      refine g_iconst (v := 1) C dX12_within_10 (by decide) ?_
      refine g_goto C 15 dX12_within_11 (by decide) ?_
      exact ret _ _ _ _ _ _ dX12_within_15 rfl (by decide) (by decide) ⟨rfl, (by decide), Or.inr (by omega)⟩
theorem dX12_isQuarter_6 : decode cX12_isQuarter 6 = .ok (.ireturn, 1) := by decide +kernel
set_option maxHeartbeats 4000000 in
set_option maxRecDepth 100000 in
theorem s_X12_isQuarter {P : PP} {a0 : Int32} (I : IV P) : CtrI yX12_isQuarter cX12_isQuarter 1 (some Jvm.ClassFile.FieldType.boolean) ({ frames := 2, cells := 0, slots := 0, locals := 128 } : Room) 0 0 P [.int a0] (fun r P2 => P = P2 ∧ (0 ≤ r.toInt ∧ r.toInt ≤ 1) ∧ (r.toInt = 0 ∨ (((0 : Int) ≤ a0.toInt ∧ a0.toInt ≤ (3 : Int))))) := by
  refine enI (lv := [(0, .int a0)]) (by decide) (Nat.le_of_ble_eq_true rfl) rfl (fun E D cy C Ci0 ret => ?_)
  refine g_iload_n C dX12_isQuarter_0 rfl 0 rfl ?_
  refine g_iconst (v := 0) C dX12_isQuarter_1 (by decide) ?_
  refine g_iconst (v := 3) C dX12_isQuarter_2 (by decide) ?_
  refine g_callSI (b := 0) (ci := 0) (rest := []) C ms_X12_178 [.int a0, .int 0, .int 3] (s_X12_within I) rfl rfl (by decide) (Nat.le_of_ble_eq_true rfl) (by decide) dX12_isQuarter_3 (fun r1557 Y1558 h1559 => ?_)
  obtain ⟨rfl, h1559⟩ := h1559
  obtain ⟨h1559, hi1560⟩ := h1559
  have hi1560 : r1557.toInt = 0 ∨ (0 ≤ a0.toInt ∧ a0.toInt ≤ 3) := hi1560
  have h1559 : 0 ≤ r1557.toInt ∧ r1557.toInt ≤ 1 := h1559
  exact ret _ _ _ _ _ _ dX12_isQuarter_6 (nar_b (b01 (by omega))) (by decide) (by decide) ⟨rfl, (by omega), hi1560.imp id (fun h9 => by omega)⟩
theorem dX12_isPaper_4 : decode cX12_isPaper 4 = .ok (.ifCond .eq 21, 3) := by decide +kernel
theorem dX12_isPaper_7 : decode cX12_isPaper 7 = .ok (.iload_n 2, 1) := by decide +kernel
theorem dX12_isPaper_8 : decode cX12_isPaper 8 = .ok (.ifCond .lt 17, 3) := by decide +kernel
theorem dX12_isPaper_11 : decode cX12_isPaper 11 = .ok (.iload_n 2, 1) := by decide +kernel
theorem dX12_isPaper_12 : decode cX12_isPaper 12 = .ok (.aload_n 0, 1) := by decide +kernel
theorem dX12_isPaper_13 : decode cX12_isPaper 13 = .ok (.getfield 69, 3) := by decide +kernel
theorem dX12_isPaper_16 : decode cX12_isPaper 16 = .ok (.iload_n 1, 1) := by decide +kernel
theorem dX12_isPaper_17 : decode cX12_isPaper 17 = .ok (.iaload, 1) := by decide +kernel
theorem dX12_isPaper_18 : decode cX12_isPaper 18 = .ok (.if_icmp .ge 7, 3) := by decide +kernel
theorem dX12_isPaper_21 : decode cX12_isPaper 21 = .ok (.iconst 1, 1) := by decide +kernel
theorem dX12_isPaper_22 : decode cX12_isPaper 22 = .ok (.goto 4, 3) := by decide +kernel
theorem dX12_isPaper_25 : decode cX12_isPaper 25 = .ok (.iconst 0, 1) := by decide +kernel
theorem dX12_isPaper_26 : decode cX12_isPaper 26 = .ok (.ireturn, 1) := by decide +kernel
set_option maxHeartbeats 4000000 in
set_option maxRecDepth 100000 in
theorem s_X12_isPaper {P : PP} {a0 : Nat} {a1 : Int32} {a2 : Int32} (I : IM P a0) : CtrI yX12_isPaper cX12_isPaper 3 (some Jvm.ClassFile.FieldType.boolean) ({ frames := 3, cells := 0, slots := 0, locals := 192 } : Room) 0 0 P [.ref a0, .int a1, .int a2] (fun r P2 => P = P2 ∧ (0 ≤ r.toInt ∧ r.toInt ≤ 1) ∧ (r.toInt = 0 ∨ (((0 : Int) ≤ a1.toInt ∧ a1.toInt ≤ (3 : Int)) ∧ ((0 : Int) ≤ a2.toInt ∧ a2.toInt ≤ (39 : Int))))) := by
  refine enI (lv := [(0, .ref a0), (1, .int a1), (2, .int a2)]) (by decide) (Nat.le_of_ble_eq_true rfl) rfl (fun E D cy C Ci0 ret => ?_)
  have ha0 := I.2.1
  have J25 : G E ({ frames := 3, cells := 0, slots := 0, locals := 192 } : Room) D cy 3 P 0 0 25 [] [] := by
    refine g_iconst (v := 0) C dX12_isPaper_25 (by decide) ?_
    exact ret _ _ _ _ _ _ dX12_isPaper_26 rfl (by decide) (by decide) ⟨rfl, (by decide), Or.inl rfl⟩
  refine g_iload_n C dX12_isPaper_0 rfl 1 rfl ?_
  refine g_callSI (b := 0) (ci := 0) (rest := []) C ms_X12_278 [.int a1] (s_X12_isQuarter I.1) rfl rfl (by decide) (Nat.le_of_ble_eq_true rfl) (by decide) dX12_isPaper_1 (fun r1574 Y1575 h1576 => ?_)
  obtain ⟨rfl, h1576⟩ := h1576
  obtain ⟨h1576, hi1577⟩ := h1576
  have hi1577 : r1574.toInt = 0 ∨ (((0 : Int) ≤ a1.toInt ∧ a1.toInt ≤ (3 : Int))) := hi1577
  have h1576 : 0 ≤ r1574.toInt ∧ r1574.toInt ≤ 1 := h1576
  refine b_if_eq C 25 dX12_isPaper_4 (by decide) (fun h1578 => ?_) (fun h1578 => ?_)
  · have h1578 : r1574.toInt = 0 := congrArg Int32.toInt h1578
    clear hi1577
    refine g_lv (lv' := []) [] rfl ?_
    exact J25 
  · have h1578 : r1574.toInt ≠ 0 := ti_ne h1578
    replace hi1577 := hi1577.resolve_left (by omega)
    refine g_iload_n C dX12_isPaper_7 rfl 2 rfl ?_
    have u1580 := ti_rng a2
    refine b_if_lt C 25 dX12_isPaper_8 (by decide) (fun h1579 => ?_) (fun h1579 => ?_)
    · have h1579 : a2.toInt < 0 := h1579
      refine g_lv (lv' := []) [] rfl ?_
      exact J25 
    · have h1579 : 0 ≤ a2.toInt := h1579
      refine g_iload_n C dX12_isPaper_11 rfl 2 rfl ?_
      refine g_aload_n C dX12_isPaper_12 rfl 0 rfl ?_
      obtain ⟨b1581, e1582, h1583⟩ := I.fld (ha0) 20 13 20 rfl
      refine g_getR C fi_X12_69 rfl e1582 (ha0).1 (ha0).2 dX12_isPaper_13 ?_
      refine g_iload_n C dX12_isPaper_16 rfl 1 rfl ?_
      refine g_iald (j := (a1.toInt.toNat)) C h1583.1 h1583.2.1 (ix_in h1583.2.2 (by omega)) dX12_isPaper_17 ?_
      have h1584 := I.arr e1582 rfl (a1.toInt.toNat)
      have u1586 := ti_rng a2
      refine b_icmp_ge C 25 dX12_isPaper_18 (by decide) (fun h1585 => ?_) (fun h1585 => ?_)
      · have h1585 : (pI P b1581 (a1.toInt.toNat)).toInt ≤ a2.toInt := h1585
        refine g_lv (lv' := []) [] rfl ?_
        exact J25 
      · have h1585 : a2.toInt < (pI P b1581 (a1.toInt.toNat)).toInt := h1585
        refine g_iconst (v := 1) C dX12_isPaper_21 (by decide) ?_
        refine g_goto C 26 dX12_isPaper_22 (by decide) ?_
        exact ret _ _ _ _ _ _ dX12_isPaper_26 rfl (by decide) (by decide) ⟨rfl, (by decide), Or.inr (by omega)⟩
theorem dX12_apart_11 : decode cX12_apart 11 = .ok (.ifCond .eq 33, 3) := by decide +kernel
theorem dX12_apart_14 : decode cX12_apart 14 = .ok (.aload_n 0, 1) := by decide +kernel
theorem dX12_apart_15 : decode cX12_apart 15 = .ok (.getfield 75, 3) := by decide +kernel
theorem dX12_apart_18 : decode cX12_apart 18 = .ok (.bipush 40, 2) := by decide +kernel
theorem dX12_apart_20 : decode cX12_apart 20 = .ok (.iload_n 1, 1) := by decide +kernel
theorem dX12_apart_21 : decode cX12_apart 21 = .ok (.imul, 1) := by decide +kernel
theorem dX12_apart_22 : decode cX12_apart 22 = .ok (.iload_n 2, 1) := by decide +kernel
theorem dX12_apart_23 : decode cX12_apart 23 = .ok (.iadd, 1) := by decide +kernel
theorem dX12_apart_24 : decode cX12_apart 24 = .ok (.iaload, 1) := by decide +kernel
theorem dX12_apart_25 : decode cX12_apart 25 = .ok (.ifCond .ge 19, 3) := by decide +kernel
theorem dX12_apart_28 : decode cX12_apart 28 = .ok (.aload_n 0, 1) := by decide +kernel
theorem dX12_apart_29 : decode cX12_apart 29 = .ok (.iconst 0, 1) := by decide +kernel
theorem dX12_apart_30 : decode cX12_apart 30 = .ok (.invokevirtual 192, 3) := by decide +kernel
theorem dX12_isBook_0 : decode cX12_isBook 0 = .ok (.iload_n 1, 1) := by decide +kernel
theorem dX12_isBook_1 : decode cX12_isBook 1 = .ok (.iconst 0, 1) := by decide +kernel
theorem dX12_isBook_2 : decode cX12_isBook 2 = .ok (.iconst 1, 1) := by decide +kernel
theorem dX12_isBook_3 : decode cX12_isBook 3 = .ok (.invokestatic 178, 3) := by decide +kernel
theorem dX12_isBook_6 : decode cX12_isBook 6 = .ok (.ifCond .eq 16, 3) := by decide +kernel
theorem dX12_isBook_9 : decode cX12_isBook 9 = .ok (.aload_n 0, 1) := by decide +kernel
theorem dX12_isBook_10 : decode cX12_isBook 10 = .ok (.getfield 45, 3) := by decide +kernel
theorem dX12_isBook_13 : decode cX12_isBook 13 = .ok (.iload_n 1, 1) := by decide +kernel
theorem dX12_isBook_14 : decode cX12_isBook 14 = .ok (.iaload, 1) := by decide +kernel
theorem dX12_isBook_15 : decode cX12_isBook 15 = .ok (.ifCond .le 7, 3) := by decide +kernel
theorem dX12_isBook_18 : decode cX12_isBook 18 = .ok (.iconst 1, 1) := by decide +kernel
theorem dX12_isBook_19 : decode cX12_isBook 19 = .ok (.goto 4, 3) := by decide +kernel
theorem dX12_isBook_22 : decode cX12_isBook 22 = .ok (.iconst 0, 1) := by decide +kernel
theorem dX12_isBook_23 : decode cX12_isBook 23 = .ok (.ireturn, 1) := by decide +kernel
set_option maxHeartbeats 4000000 in
set_option maxRecDepth 100000 in
theorem s_X12_isBook {P : PP} {a0 : Nat} {a1 : Int32} (I : IM P a0) : CtrI yX12_isBook cX12_isBook 2 (some Jvm.ClassFile.FieldType.boolean) ({ frames := 2, cells := 0, slots := 0, locals := 128 } : Room) 0 0 P [.ref a0, .int a1] (fun r P2 => P = P2 ∧ (0 ≤ r.toInt ∧ r.toInt ≤ 1) ∧ (r.toInt = 0 ∨ (((0 : Int) ≤ a1.toInt ∧ a1.toInt ≤ (1 : Int))))) := by
  refine enI (lv := [(0, .ref a0), (1, .int a1)]) (by decide) (Nat.le_of_ble_eq_true rfl) rfl (fun E D cy C Ci0 ret => ?_)
  have ha0 := I.2.1
  have J22 : G E ({ frames := 2, cells := 0, slots := 0, locals := 128 } : Room) D cy 2 P 0 0 22 [] [] := by
    refine g_iconst (v := 0) C dX12_isBook_22 (by decide) ?_
    exact ret _ _ _ _ _ _ dX12_isBook_23 rfl (by decide) (by decide) ⟨rfl, (by decide), Or.inl rfl⟩
  refine g_iload_n C dX12_isBook_0 rfl 1 rfl ?_
  refine g_iconst (v := 0) C dX12_isBook_1 (by decide) ?_
  refine g_iconst (v := 1) C dX12_isBook_2 (by decide) ?_
  refine g_callSI (b := 0) (ci := 0) (rest := []) C ms_X12_178 [.int a1, .int 0, .int 1] (s_X12_within I.1) rfl rfl (by decide) (Nat.le_of_ble_eq_true rfl) (by decide) dX12_isBook_3 (fun r1617 Y1618 h1619 => ?_)
  obtain ⟨rfl, h1619⟩ := h1619
  obtain ⟨h1619, hi1620⟩ := h1619
  have hi1620 : r1617.toInt = 0 ∨ (0 ≤ a1.toInt ∧ a1.toInt ≤ 1) := hi1620
  have h1619 : 0 ≤ r1617.toInt ∧ r1617.toInt ≤ 1 := h1619
  refine b_if_eq C 22 dX12_isBook_6 (by decide) (fun h1621 => ?_) (fun h1621 => ?_)
  · have h1621 : r1617.toInt = 0 := congrArg Int32.toInt h1621
    clear hi1620
    refine g_lv (lv' := []) [] rfl ?_
    exact J22 
  · have h1621 : r1617.toInt ≠ 0 := ti_ne h1621
    replace hi1620 := hi1620.resolve_left (by omega)
    refine g_aload_n C dX12_isBook_9 rfl 0 rfl ?_
    obtain ⟨b1622, e1623, h1624⟩ := I.fld (ha0) 10 13 2 rfl
    refine g_getR C fi_X12_45 rfl e1623 (ha0).1 (ha0).2 dX12_isBook_10 ?_
    refine g_iload_n C dX12_isBook_13 rfl 1 rfl ?_
    refine g_iald (j := (a1.toInt.toNat)) C h1624.1 h1624.2.1 (ix_in h1624.2.2 (by omega)) dX12_isBook_14 ?_
    have h1625 := I.arr e1623 rfl (a1.toInt.toNat)
    refine b_if_le C 22 dX12_isBook_15 (by decide) (fun h1626 => ?_) (fun h1626 => ?_)
    · have h1626 : (pI P b1622 (a1.toInt.toNat)).toInt ≤ 0 := h1626
      refine g_lv (lv' := []) [] rfl ?_
      exact J22 
    · have h1626 : 0 < (pI P b1622 (a1.toInt.toNat)).toInt := h1626
      refine g_iconst (v := 1) C dX12_isBook_18 (by decide) ?_
      refine g_goto C 23 dX12_isBook_19 (by decide) ?_
      exact ret _ _ _ _ _ _ dX12_isBook_23 rfl (by decide) (by decide) ⟨rfl, (by decide), Or.inr (by omega)⟩
theorem dX12_apart_33 : decode cX12_apart 33 = .ok (.ifCond .eq 11, 3) := by decide +kernel
theorem dX12_apart_36 : decode cX12_apart 36 = .ok (.aload_n 0, 1) := by decide +kernel
theorem dX12_apart_37 : decode cX12_apart 37 = .ok (.iconst 1, 1) := by decide +kernel
theorem dX12_apart_38 : decode cX12_apart 38 = .ok (.invokevirtual 192, 3) := by decide +kernel
theorem dX12_apart_41 : decode cX12_apart 41 = .ok (.ifCond .ne 5, 3) := by decide +kernel
theorem dX12_apart_46 : decode cX12_apart 46 = .ok (.aload_n 0, 1) := by decide +kernel
theorem dX12_apart_47 : decode cX12_apart 47 = .ok (.invokevirtual 336, 3) := by decide +kernel
theorem dX12_leavesNone_0 : decode cX12_leavesNone 0 = .ok (.iconst 0, 1) := by decide +kernel
theorem dX12_leavesNone_1 : decode cX12_leavesNone 1 = .ok (.istore_n 1, 1) := by decide +kernel
theorem dX12_leavesNone_2 : decode cX12_leavesNone 2 = .ok (.iload_n 1, 1) := by decide +kernel
theorem dX12_leavesNone_3 : decode cX12_leavesNone 3 = .ok (.bipush 40, 2) := by decide +kernel
theorem dX12_leavesNone_5 : decode cX12_leavesNone 5 = .ok (.if_icmp .ge 16, 3) := by decide +kernel
theorem dX12_leavesNone_8 : decode cX12_leavesNone 8 = .ok (.aload_n 0, 1) := by decide +kernel
theorem dX12_leavesNone_9 : decode cX12_leavesNone 9 = .ok (.getfield 100, 3) := by decide +kernel
theorem dX12_leavesNone_12 : decode cX12_leavesNone 12 = .ok (.iload_n 1, 1) := by decide +kernel
theorem dX12_leavesNone_13 : decode cX12_leavesNone 13 = .ok (.iconst 0, 1) := by decide +kernel
theorem dX12_leavesNone_14 : decode cX12_leavesNone 14 = .ok (.bastore, 1) := by decide +kernel
theorem dX12_leavesNone_15 : decode cX12_leavesNone 15 = .ok (.iinc 1 1, 3) := by decide +kernel
theorem dX12_leavesNone_18 : decode cX12_leavesNone 18 = .ok (.goto (-16), 3) := by decide +kernel
theorem dX12_leavesNone_21 : decode cX12_leavesNone 21 = .ok (.return_, 1) := by decide +kernel
set_option maxHeartbeats 4000000 in
set_option maxRecDepth 100000 in
theorem s_X12_leavesNone {P : PP} {a0 : Nat} (I : IM P a0) : CtrV yX12_leavesNone cX12_leavesNone 2 none ({ frames := 1, cells := 0, slots := 0, locals := 64 } : Room) 0 0 P [.ref a0] (fun P2 => IM P2 a0 ∧ EM [32] a0 P P2) := by
  refine enV (lv := [(0, .ref a0)]) (by decide) (Nat.le_of_ble_eq_true rfl) rfl (fun E D cy C Ci0 ret => ?_)
  have ha0 := I.2.1
  have J2 : ∀ (n2 : Nat) (P2 : PP) (v2_1 : Int32), (40 - v2_1.toInt).toNat < n2 → (IM P2 a0) → (EM [32] a0 P P2) → (0 ≤ v2_1.toInt ∧ v2_1.toInt ≤ 40) → G E ({ frames := 1, cells := 0, slots := 0, locals := 64 } : Room) D cy 2 P2 0 0 2 [(0, .ref a0), (1, .int v2_1)] [] := by
    intro n2
    induction n2 with
    | zero => intro P2 v2_1 hm2 I2 X2 hv2_1; omega
    | succ n2 ih2 =>
      intro P2 v2_1 hm2 I2 X2 hv2_1
      have h1881 := X2.at ha0
      refine g_iload_n C dX12_leavesNone_2 rfl 1 rfl ?_
      refine g_bipush (v := 40) C dX12_leavesNone_3 (by decide) ?_
      refine b_icmp_ge C 21 dX12_leavesNone_5 (by decide) (fun h1882 => ?_) (fun h1882 => ?_)
      · have h1882 : 40 ≤ v2_1.toInt := h1882
        exact ret _ _ _ _ _ dX12_leavesNone_21 (by decide) (by decide) ⟨I2, X2⟩
      · have h1882 : v2_1.toInt < 40 := h1882
        refine g_aload_n C dX12_leavesNone_8 rfl 0 rfl ?_
        obtain ⟨b1883, e1884, h1885⟩ := I2.fld (h1881) 32 15 40 rfl
        refine g_getR C fi_X12_100 rfl e1884 (h1881).1 (h1881).2 dX12_leavesNone_9 ?_
        refine g_iload_n C dX12_leavesNone_12 rfl 1 rfl ?_
        refine g_iconst (v := 0) C dX12_leavesNone_13 (by decide) ?_
        refine g_zast (j := (v2_1.toInt.toNat)) C h1885.1 h1885.2.1 (ix_in h1885.2.2 (by omega)) (Or.inl rfl) dX12_leavesNone_14 ?_
        refine gqW (ks := [32]) (I2.setA e1884 h1885 (by decide) (arOk.none rfl)) (EM.setA I2 e1884 rfl (by decide)) (fun Y1886 Iy1887 Xy1888 w1889 => ?_)
        have w1889 : (pI Y1886 b1883 (v2_1.toInt.toNat)).toInt = 0 := w1889
        have Xz1890 : EM [32] a0 P Y1886 := EM.tr ha0 X2 (Xy1888.mono (by decide))
        have e1891 := Xy1888.ref h1881 (by decide) e1884
        have h1892 := Xy1888.at h1881
        have h1893 := Xy1888.ar h1885
        refine s_iinc (lv0 := [(0, .ref a0)]) (m := 1) C dX12_leavesNone_15 1 rfl (by decide) rfl (by decide) (by omega) (fun z1894 h1895 => ?_)
        have h1895 : z1894.toInt = v2_1.toInt + 1 := h1895
        refine g_goto C 2 dX12_leavesNone_18 (by decide) ?_
        refine g_lv (lv' := [(0, .ref a0), (1, .int z1894)]) [1, 0] rfl ?_
        exact ih2 Y1886 z1894 (by omega) Iy1887 Xz1890 (by omega)
  refine g_iconst (v := 0) C dX12_leavesNone_0 (by decide) ?_
  refine g_istore_n (lv' := [(1, .int 0), (0, .ref a0)]) C dX12_leavesNone_1 rfl (by decide) rfl ?_
  refine g_lv (lv' := [(0, .ref a0), (1, .int 0)]) [1, 0] rfl ?_
  exact J2 _ P 0 (Nat.lt_succ_self _) I EM.rf (by decide)
theorem dX12_apart_44 : decode cX12_apart 44 = .ok (.iconst (-1), 1) := by decide +kernel
theorem dX12_apart_45 : decode cX12_apart 45 = .ok (.ireturn, 1) := by decide +kernel
theorem dX12_apart_50 : decode cX12_apart 50 = .ok (.iconst 0, 1) := by decide +kernel
theorem dX12_apart_51 : decode cX12_apart 51 = .ok (.istore_n 3, 1) := by decide +kernel
theorem dX12_apart_52 : decode cX12_apart 52 = .ok (.iconst 0, 1) := by decide +kernel
theorem dX12_apart_53 : decode cX12_apart 53 = .ok (.istore 4, 2) := by decide +kernel
theorem dX12_apart_55 : decode cX12_apart 55 = .ok (.iload 4, 2) := by decide +kernel
theorem dX12_apart_57 : decode cX12_apart 57 = .ok (.iload_n 2, 1) := by decide +kernel
theorem dX12_apart_58 : decode cX12_apart 58 = .ok (.if_icmp .ge 32, 3) := by decide +kernel
theorem dX12_apart_61 : decode cX12_apart 61 = .ok (.iload_n 3, 1) := by decide +kernel
theorem dX12_apart_62 : decode cX12_apart 62 = .ok (.aload_n 0, 1) := by decide +kernel
theorem dX12_apart_63 : decode cX12_apart 63 = .ok (.getfield 75, 3) := by decide +kernel
theorem dX12_apart_66 : decode cX12_apart 66 = .ok (.bipush 40, 2) := by decide +kernel
theorem dX12_apart_68 : decode cX12_apart 68 = .ok (.iload_n 1, 1) := by decide +kernel
theorem dX12_apart_69 : decode cX12_apart 69 = .ok (.imul, 1) := by decide +kernel
theorem dX12_apart_70 : decode cX12_apart 70 = .ok (.iload 4, 2) := by decide +kernel
theorem dX12_apart_72 : decode cX12_apart 72 = .ok (.iadd, 1) := by decide +kernel
theorem dX12_apart_73 : decode cX12_apart 73 = .ok (.iaload, 1) := by decide +kernel
theorem dX12_apart_74 : decode cX12_apart 74 = .ok (.ifCond .ge 7, 3) := by decide +kernel
theorem dX12_apart_77 : decode cX12_apart 77 = .ok (.iconst 1, 1) := by decide +kernel
theorem dX12_apart_78 : decode cX12_apart 78 = .ok (.goto 4, 3) := by decide +kernel
theorem dX12_apart_81 : decode cX12_apart 81 = .ok (.iconst 0, 1) := by decide +kernel
theorem dX12_apart_90 : decode cX12_apart 90 = .ok (.iconst 0, 1) := by decide +kernel
theorem dX12_apart_91 : decode cX12_apart 91 = .ok (.istore 4, 2) := by decide +kernel
theorem dX12_apart_93 : decode cX12_apart 93 = .ok (.iconst 0, 1) := by decide +kernel
theorem dX12_apart_94 : decode cX12_apart 94 = .ok (.istore 5, 2) := by decide +kernel
theorem dX12_apart_96 : decode cX12_apart 96 = .ok (.iconst 0, 1) := by decide +kernel
theorem dX12_apart_97 : decode cX12_apart 97 = .ok (.istore 6, 2) := by decide +kernel
theorem dX12_apart_99 : decode cX12_apart 99 = .ok (.iload 6, 2) := by decide +kernel
theorem dX12_apart_101 : decode cX12_apart 101 = .ok (.iconst 1, 1) := by decide +kernel
theorem dX12_apart_102 : decode cX12_apart 102 = .ok (.aload_n 0, 1) := by decide +kernel
theorem dX12_apart_103 : decode cX12_apart 103 = .ok (.iload_n 1, 1) := by decide +kernel
theorem dX12_apart_104 : decode cX12_apart 104 = .ok (.invokevirtual 295, 3) := by decide +kernel
theorem dX12_namelessIn_0 : decode cX12_namelessIn 0 = .ok (.iconst 0, 1) := by decide +kernel
theorem dX12_namelessIn_1 : decode cX12_namelessIn 1 = .ok (.istore_n 2, 1) := by decide +kernel
theorem dX12_namelessIn_2 : decode cX12_namelessIn 2 = .ok (.iconst 0, 1) := by decide +kernel
theorem dX12_namelessIn_3 : decode cX12_namelessIn 3 = .ok (.istore_n 3, 1) := by decide +kernel
theorem dX12_namelessIn_4 : decode cX12_namelessIn 4 = .ok (.iload_n 3, 1) := by decide +kernel
theorem dX12_namelessIn_5 : decode cX12_namelessIn 5 = .ok (.aload_n 0, 1) := by decide +kernel
theorem dX12_namelessIn_6 : decode cX12_namelessIn 6 = .ok (.getfield 69, 3) := by decide +kernel
theorem dX12_namelessIn_9 : decode cX12_namelessIn 9 = .ok (.iload_n 1, 1) := by decide +kernel
theorem dX12_namelessIn_10 : decode cX12_namelessIn 10 = .ok (.iaload, 1) := by decide +kernel
theorem dX12_namelessIn_11 : decode cX12_namelessIn 11 = .ok (.if_icmp .ge 31, 3) := by decide +kernel
theorem dX12_namelessIn_14 : decode cX12_namelessIn 14 = .ok (.iload_n 2, 1) := by decide +kernel
theorem dX12_namelessIn_15 : decode cX12_namelessIn 15 = .ok (.aload_n 0, 1) := by decide +kernel
theorem dX12_namelessIn_16 : decode cX12_namelessIn 16 = .ok (.getfield 75, 3) := by decide +kernel
theorem dX12_namelessIn_19 : decode cX12_namelessIn 19 = .ok (.bipush 40, 2) := by decide +kernel
theorem dX12_namelessIn_21 : decode cX12_namelessIn 21 = .ok (.iload_n 1, 1) := by decide +kernel
theorem dX12_namelessIn_22 : decode cX12_namelessIn 22 = .ok (.imul, 1) := by decide +kernel
theorem dX12_namelessIn_23 : decode cX12_namelessIn 23 = .ok (.iload_n 3, 1) := by decide +kernel
theorem dX12_namelessIn_24 : decode cX12_namelessIn 24 = .ok (.iadd, 1) := by decide +kernel
theorem dX12_namelessIn_25 : decode cX12_namelessIn 25 = .ok (.iaload, 1) := by decide +kernel
theorem dX12_namelessIn_26 : decode cX12_namelessIn 26 = .ok (.ifCond .ge 7, 3) := by decide +kernel
theorem dX12_namelessIn_29 : decode cX12_namelessIn 29 = .ok (.iconst 1, 1) := by decide +kernel
theorem dX12_namelessIn_30 : decode cX12_namelessIn 30 = .ok (.goto 4, 3) := by decide +kernel
theorem dX12_namelessIn_33 : decode cX12_namelessIn 33 = .ok (.iconst 0, 1) := by decide +kernel
theorem dX12_namelessIn_34 : decode cX12_namelessIn 34 = .ok (.iadd, 1) := by decide +kernel
theorem dX12_namelessIn_35 : decode cX12_namelessIn 35 = .ok (.istore_n 2, 1) := by decide +kernel
theorem dX12_namelessIn_36 : decode cX12_namelessIn 36 = .ok (.iinc 3 1, 3) := by decide +kernel
theorem dX12_namelessIn_39 : decode cX12_namelessIn 39 = .ok (.goto (-35), 3) := by decide +kernel
theorem dX12_namelessIn_42 : decode cX12_namelessIn 42 = .ok (.iload_n 2, 1) := by decide +kernel
theorem dX12_namelessIn_43 : decode cX12_namelessIn 43 = .ok (.ireturn, 1) := by decide +kernel
set_option maxHeartbeats 4000000 in
set_option maxRecDepth 100000 in
theorem s_X12_namelessIn {P : PP} {a0 : Nat} {a1 : Int32} (I : IM P a0) (ha1 : 0 ≤ a1.toInt ∧ a1.toInt ≤ 3) : CtrI yX12_namelessIn cX12_namelessIn 4 (some Jvm.ClassFile.FieldType.int) ({ frames := 1, cells := 0, slots := 0, locals := 64 } : Room) 0 0 P [.ref a0, .int a1] (fun r P2 => P = P2 ∧ (True)) := by
  refine enI (lv := [(0, .ref a0), (1, .int a1)]) (by decide) (Nat.le_of_ble_eq_true rfl) rfl (fun E D cy C Ci0 ret => ?_)
  have ha0 := I.2.1
  have J4 : ∀ (n4 : Nat) (v4_2 : Int32) (v4_3 : Int32), (40 - v4_3.toInt).toNat < n4 → (0 ≤ v4_3.toInt ∧ v4_3.toInt ≤ 40) → G E ({ frames := 1, cells := 0, slots := 0, locals := 64 } : Room) D cy 4 P 0 0 4 [(0, .ref a0), (1, .int a1), (2, .int v4_2), (3, .int v4_3)] [] := by
    intro n4
    induction n4 with
    | zero => intro v4_2 v4_3 hm4 hv4_3; omega
    | succ n4 ih4 =>
      intro v4_2 v4_3 hm4 hv4_3
      have J34 : ∀ (v34_s0 : Int32), (0 ≤ v4_3.toInt ∧ v4_3.toInt ≤ 39) → (0 ≤ v34_s0.toInt ∧ v34_s0.toInt ≤ 1) → (∀ b, pR P a0 20 = some b → 1 ≤ (pI P b (a1.toInt.toNat)).toInt ∧ (pI P b (a1.toInt.toNat)).toInt ≤ 40) → G E ({ frames := 1, cells := 0, slots := 0, locals := 64 } : Room) D cy 4 P 0 0 34 [(0, .ref a0), (1, .int a1), (3, .int v4_3)] [.int v34_s0, .int v4_2] := by
        intro v34_s0 hv34_3 hv34_s0 hq34_0
        obtain ⟨b2664, e2665, h2666⟩ := I.fld (ha0) 20 13 20 rfl
        have hq34_0 := hq34_0 b2664 e2665
        refine a_iadd C dX12_namelessIn_34 (fun z2667 => ?_)
        refine g_istore_n (lv' := [(2, .int z2667), (0, .ref a0), (1, .int a1), (3, .int v4_3)]) C dX12_namelessIn_35 rfl (by decide) rfl ?_
        refine s_iinc (lv0 := [(2, .int z2667), (0, .ref a0), (1, .int a1)]) (m := 1) C dX12_namelessIn_36 3 rfl (by decide) rfl (by decide) (by omega) (fun z2669 h2670 => ?_)
        have h2670 : z2669.toInt = v4_3.toInt + 1 := h2670
        refine g_goto C 4 dX12_namelessIn_39 (by decide) ?_
        refine g_lv (lv' := [(0, .ref a0), (1, .int a1), (2, .int z2667), (3, .int z2669)]) [2, 3, 1, 0] rfl ?_
        exact ih4 z2667 z2669 (by omega) (by omega)
      refine g_iload_n C dX12_namelessIn_4 rfl 3 rfl ?_
      refine g_aload_n C dX12_namelessIn_5 rfl 0 rfl ?_
      obtain ⟨b2671, e2672, h2673⟩ := I.fld (ha0) 20 13 20 rfl
      refine g_getR C fi_X12_69 rfl e2672 (ha0).1 (ha0).2 dX12_namelessIn_6 ?_
      refine g_iload_n C dX12_namelessIn_9 rfl 1 rfl ?_
      refine g_iald (j := (a1.toInt.toNat)) C h2673.1 h2673.2.1 (ix_in h2673.2.2 (by omega)) dX12_namelessIn_10 ?_
      have h2674 := I.arr e2672 rfl (a1.toInt.toNat)
      refine b_icmp_ge C 42 dX12_namelessIn_11 (by decide) (fun h2675 => ?_) (fun h2675 => ?_)
      · have h2675 : (pI P b2671 (a1.toInt.toNat)).toInt ≤ v4_3.toInt := h2675
        refine g_iload_n C dX12_namelessIn_42 rfl 2 rfl ?_
        exact ret _ _ _ _ _ _ dX12_namelessIn_43 rfl (by decide) (by decide) ⟨rfl, trivial⟩
      · have h2675 : v4_3.toInt < (pI P b2671 (a1.toInt.toNat)).toInt := h2675
        refine g_iload_n C dX12_namelessIn_14 rfl 2 rfl ?_
        refine g_aload_n C dX12_namelessIn_15 rfl 0 rfl ?_
        obtain ⟨b2676, e2677, h2678⟩ := I.fld (ha0) 22 13 800 rfl
        refine g_getR C fi_X12_75 rfl e2677 (ha0).1 (ha0).2 dX12_namelessIn_16 ?_
        refine g_bipush (v := 40) C dX12_namelessIn_19 (by decide) ?_
        refine g_iload_n C dX12_namelessIn_21 rfl 1 rfl ?_
        refine s_imul C dX12_namelessIn_22 (by show -2147483648 ≤ 40 * a1.toInt ∧ 40 * a1.toInt ≤ 2147483647; omega) (fun z2679 h2680 => ?_)
        have h2680 : z2679.toInt = 40 * a1.toInt := h2680
        refine g_iload_n C dX12_namelessIn_23 rfl 3 rfl ?_
        refine s_iadd C dX12_namelessIn_24 (by show -2147483648 ≤ z2679.toInt + v4_3.toInt ∧ z2679.toInt + v4_3.toInt ≤ 2147483647; omega) (fun z2681 h2682 => ?_)
        have h2682 : z2681.toInt = z2679.toInt + v4_3.toInt := h2682
        refine g_iald (j := (z2681.toInt.toNat)) C h2678.1 h2678.2.1 (ix_in h2678.2.2 (by omega)) dX12_namelessIn_25 ?_
        have h2683 := I.arr e2677 rfl (z2681.toInt.toNat)
        refine b_if_ge C 33 dX12_namelessIn_26 (by decide) (fun h2684 => ?_) (fun h2684 => ?_)
        · have h2684 : 0 ≤ (pI P b2676 (z2681.toInt.toNat)).toInt := h2684
          refine g_iconst (v := 0) C dX12_namelessIn_33 (by decide) ?_
          refine g_lv (lv' := [(0, .ref a0), (1, .int a1), (3, .int v4_3)]) [0, 1, 3] rfl ?_
          exact J34 0 (by omega) (by decide) (fun b9 e9 => by rw [e2672] at e9; cases e9; omega)
        · have h2684 : (pI P b2676 (z2681.toInt.toNat)).toInt < 0 := h2684
          refine g_iconst (v := 1) C dX12_namelessIn_29 (by decide) ?_
          refine g_goto C 34 dX12_namelessIn_30 (by decide) ?_
          refine g_lv (lv' := [(0, .ref a0), (1, .int a1), (3, .int v4_3)]) [0, 1, 3] rfl ?_
          exact J34 1 (by omega) (by decide) (fun b9 e9 => by rw [e2672] at e9; cases e9; omega)
  refine g_iconst (v := 0) C dX12_namelessIn_0 (by decide) ?_
  refine g_istore_n (lv' := [(2, .int 0), (0, .ref a0), (1, .int a1)]) C dX12_namelessIn_1 rfl (by decide) rfl ?_
  refine g_iconst (v := 0) C dX12_namelessIn_2 (by decide) ?_
  refine g_istore_n (lv' := [(3, .int 0), (2, .int 0), (0, .ref a0), (1, .int a1)]) C dX12_namelessIn_3 rfl (by decide) rfl ?_
  refine g_lv (lv' := [(0, .ref a0), (1, .int a1), (2, .int 0), (3, .int 0)]) [2, 3, 1, 0] rfl ?_
  exact J4 _ 0 0 (Nat.lt_succ_self _) (by decide)
theorem dX12_apart_107 : decode cX12_apart 107 = .ok (.ishl, 1) := by decide +kernel
theorem dX12_apart_108 : decode cX12_apart 108 = .ok (.if_icmp .ge 74, 3) := by decide +kernel
theorem dX12_apart_111 : decode cX12_apart 111 = .ok (.aload_n 0, 1) := by decide +kernel
theorem dX12_apart_112 : decode cX12_apart 112 = .ok (.iload_n 1, 1) := by decide +kernel
theorem dX12_apart_113 : decode cX12_apart 113 = .ok (.iconst 0, 1) := by decide +kernel
theorem dX12_apart_114 : decode cX12_apart 114 = .ok (.iload 6, 2) := by decide +kernel
theorem dX12_apart_116 : decode cX12_apart 116 = .ok (.invokevirtual 396, 3) := by decide +kernel
theorem dX12_apart_182 : decode cX12_apart 182 = .ok (.iload 4, 2) := by decide +kernel
theorem dX12_apart_184 : decode cX12_apart 184 = .ok (.ifCond .eq 12, 3) := by decide +kernel
theorem dX12_areChances_0 : decode cX12_areChances 0 = .ok (.aload_n 0, 1) := by decide +kernel
theorem dX12_areChances_1 : decode cX12_areChances 1 = .ok (.iload_n 1, 1) := by decide +kernel
theorem dX12_areChances_2 : decode cX12_areChances 2 = .ok (.invokevirtual 192, 3) := by decide +kernel
theorem dX12_areChances_5 : decode cX12_areChances 5 = .ok (.ifCond .eq 26, 3) := by decide +kernel
theorem dX12_areChances_8 : decode cX12_areChances 8 = .ok (.iload_n 2, 1) := by decide +kernel
theorem dX12_areChances_9 : decode cX12_areChances 9 = .ok (.iconst 1, 1) := by decide +kernel
theorem dX12_areChances_10 : decode cX12_areChances 10 = .ok (.bipush 11, 2) := by decide +kernel
theorem dX12_areChances_12 : decode cX12_areChances 12 = .ok (.invokestatic 178, 3) := by decide +kernel
theorem dX12_areChances_15 : decode cX12_areChances 15 = .ok (.ifCond .eq 16, 3) := by decide +kernel
theorem dX12_areChances_18 : decode cX12_areChances 18 = .ok (.iload_n 3, 1) := by decide +kernel
theorem dX12_areChances_19 : decode cX12_areChances 19 = .ok (.iconst 0, 1) := by decide +kernel
theorem dX12_areChances_20 : decode cX12_areChances 20 = .ok (.iconst 1, 1) := by decide +kernel
theorem dX12_areChances_21 : decode cX12_areChances 21 = .ok (.invokestatic 178, 3) := by decide +kernel
theorem dX12_areChances_24 : decode cX12_areChances 24 = .ok (.ifCond .eq 7, 3) := by decide +kernel
theorem dX12_areChances_27 : decode cX12_areChances 27 = .ok (.iconst 1, 1) := by decide +kernel
theorem dX12_areChances_28 : decode cX12_areChances 28 = .ok (.goto 4, 3) := by decide +kernel
theorem dX12_areChances_31 : decode cX12_areChances 31 = .ok (.iconst 0, 1) := by decide +kernel
theorem dX12_areChances_32 : decode cX12_areChances 32 = .ok (.ireturn, 1) := by decide +kernel
set_option maxHeartbeats 4000000 in
set_option maxRecDepth 100000 in
theorem s_X12_areChances {P : PP} {a0 : Nat} {a1 : Int32} {a2 : Int32} {a3 : Int32} (I : IM P a0) : CtrI yX12_areChances cX12_areChances 4 (some Jvm.ClassFile.FieldType.boolean) ({ frames := 3, cells := 0, slots := 0, locals := 192 } : Room) 0 0 P [.ref a0, .int a1, .int a2, .int a3] (fun r P2 => P = P2 ∧ (0 ≤ r.toInt ∧ r.toInt ≤ 1) ∧ (r.toInt = 0 ∨ (((0 : Int) ≤ a1.toInt ∧ a1.toInt ≤ (1 : Int)) ∧ ((1 : Int) ≤ a2.toInt ∧ a2.toInt ≤ (11 : Int)) ∧ ((0 : Int) ≤ a3.toInt ∧ a3.toInt ≤ (1 : Int))))) := by
  refine enI (lv := [(0, .ref a0), (1, .int a1), (2, .int a2), (3, .int a3)]) (by decide) (Nat.le_of_ble_eq_true rfl) rfl (fun E D cy C Ci0 ret => ?_)
  have ha0 := I.2.1
  have J31 : G E ({ frames := 3, cells := 0, slots := 0, locals := 192 } : Room) D cy 4 P 0 0 31 [] [] := by
    refine g_iconst (v := 0) C dX12_areChances_31 (by decide) ?_
    exact ret _ _ _ _ _ _ dX12_areChances_32 rfl (by decide) (by decide) ⟨rfl, (by decide), Or.inl rfl⟩
  refine g_aload_n C dX12_areChances_0 rfl 0 rfl ?_
  refine g_iload_n C dX12_areChances_1 rfl 1 rfl ?_
  refine g_callVI (rest := []) C mv_X12_192 [.int a1] (s_X12_isBook I) (ha0).1 (ha0).2 rfl rfl (by decide) (Nat.le_of_ble_eq_true rfl) (by decide) dX12_areChances_2 (fun r2762 Y2763 h2764 => ?_)
  obtain ⟨rfl, h2764⟩ := h2764
  obtain ⟨h2764, hi2765⟩ := h2764
  have hi2765 : r2762.toInt = 0 ∨ (((0 : Int) ≤ a1.toInt ∧ a1.toInt ≤ (1 : Int))) := hi2765
  have h2764 : 0 ≤ r2762.toInt ∧ r2762.toInt ≤ 1 := h2764
  refine b_if_eq C 31 dX12_areChances_5 (by decide) (fun h2766 => ?_) (fun h2766 => ?_)
  · have h2766 : r2762.toInt = 0 := congrArg Int32.toInt h2766
    clear hi2765
    refine g_lv (lv' := []) [] rfl ?_
    exact J31 
  · have h2766 : r2762.toInt ≠ 0 := ti_ne h2766
    replace hi2765 := hi2765.resolve_left (by omega)
    refine g_iload_n C dX12_areChances_8 rfl 2 rfl ?_
    refine g_iconst (v := 1) C dX12_areChances_9 (by decide) ?_
    refine g_bipush (v := 11) C dX12_areChances_10 (by decide) ?_
    refine g_callSI (b := 0) (ci := 0) (rest := []) C ms_X12_178 [.int a2, .int 1, .int 11] (s_X12_within I.1) rfl rfl (by decide) (Nat.le_of_ble_eq_true rfl) (by decide) dX12_areChances_12 (fun r2767 Y2768 h2769 => ?_)
    obtain ⟨rfl, h2769⟩ := h2769
    obtain ⟨h2769, hi2770⟩ := h2769
    have hi2770 : r2767.toInt = 0 ∨ (1 ≤ a2.toInt ∧ a2.toInt ≤ 11) := hi2770
    have h2769 : 0 ≤ r2767.toInt ∧ r2767.toInt ≤ 1 := h2769
    refine b_if_eq C 31 dX12_areChances_15 (by decide) (fun h2771 => ?_) (fun h2771 => ?_)
    · have h2771 : r2767.toInt = 0 := congrArg Int32.toInt h2771
      clear hi2770
      refine g_lv (lv' := []) [] rfl ?_
      exact J31 
    · have h2771 : r2767.toInt ≠ 0 := ti_ne h2771
      replace hi2770 := hi2770.resolve_left (by omega)
      refine g_iload_n C dX12_areChances_18 rfl 3 rfl ?_
      refine g_iconst (v := 0) C dX12_areChances_19 (by decide) ?_
      refine g_iconst (v := 1) C dX12_areChances_20 (by decide) ?_
      refine g_callSI (b := 0) (ci := 0) (rest := []) C ms_X12_178 [.int a3, .int 0, .int 1] (s_X12_within I.1) rfl rfl (by decide) (Nat.le_of_ble_eq_true rfl) (by decide) dX12_areChances_21 (fun r2772 Y2773 h2774 => ?_)
      obtain ⟨rfl, h2774⟩ := h2774
      obtain ⟨h2774, hi2775⟩ := h2774
      have hi2775 : r2772.toInt = 0 ∨ (0 ≤ a3.toInt ∧ a3.toInt ≤ 1) := hi2775
      have h2774 : 0 ≤ r2772.toInt ∧ r2772.toInt ≤ 1 := h2774
      refine b_if_eq C 31 dX12_areChances_24 (by decide) (fun h2776 => ?_) (fun h2776 => ?_)
      · have h2776 : r2772.toInt = 0 := congrArg Int32.toInt h2776
        clear hi2775
        refine g_lv (lv' := []) [] rfl ?_
        exact J31 
      · have h2776 : r2772.toInt ≠ 0 := ti_ne h2776
        replace hi2775 := hi2775.resolve_left (by omega)
        refine g_iconst (v := 1) C dX12_areChances_27 (by decide) ?_
        refine g_goto C 32 dX12_areChances_28 (by decide) ?_
        exact ret _ _ _ _ _ _ dX12_areChances_32 rfl (by decide) (by decide) ⟨rfl, (by decide), Or.inr (by omega)⟩
theorem dX12_average_0 : decode cX12_average 0 = .ok (.aload_n 0, 1) := by decide +kernel
theorem dX12_average_1 : decode cX12_average 1 = .ok (.iconst 0, 1) := by decide +kernel
theorem dX12_average_2 : decode cX12_average 2 = .ok (.putfield 1, 3) := by decide +kernel
theorem dX12_average_5 : decode cX12_average 5 = .ok (.aload_n 0, 1) := by decide +kernel
theorem dX12_average_6 : decode cX12_average 6 = .ok (.iload_n 1, 1) := by decide +kernel
theorem dX12_average_7 : decode cX12_average 7 = .ok (.iload_n 2, 1) := by decide +kernel
theorem dX12_average_8 : decode cX12_average 8 = .ok (.iload_n 3, 1) := by decide +kernel
theorem dX12_average_9 : decode cX12_average 9 = .ok (.invokevirtual 377, 3) := by decide +kernel
theorem dX12_average_12 : decode cX12_average 12 = .ok (.ifCond .eq 13, 3) := by decide +kernel
theorem dX12_average_15 : decode cX12_average 15 = .ok (.iload 4, 2) := by decide +kernel
theorem dX12_average_17 : decode cX12_average 17 = .ok (.iconst 0, 1) := by decide +kernel
theorem dX12_average_18 : decode cX12_average 18 = .ok (.iconst 1, 1) := by decide +kernel
theorem dX12_average_19 : decode cX12_average 19 = .ok (.invokestatic 178, 3) := by decide +kernel
theorem dX12_average_22 : decode cX12_average 22 = .ok (.ifCond .ne 7, 3) := by decide +kernel
theorem dX12_average_29 : decode cX12_average 29 = .ok (.aload_n 0, 1) := by decide +kernel
theorem dX12_average_30 : decode cX12_average 30 = .ok (.iload_n 1, 1) := by decide +kernel
theorem dX12_average_31 : decode cX12_average 31 = .ok (.iload_n 2, 1) := by decide +kernel
theorem dX12_average_32 : decode cX12_average 32 = .ok (.invokevirtual 380, 3) := by decide +kernel
theorem dX12_keepsSets_0 : decode cX12_keepsSets 0 = .ok (.iconst 0, 1) := by decide +kernel
theorem dX12_keepsSets_1 : decode cX12_keepsSets 1 = .ok (.istore_n 3, 1) := by decide +kernel
theorem dX12_keepsSets_2 : decode cX12_keepsSets 2 = .ok (.iload_n 3, 1) := by decide +kernel
theorem dX12_keepsSets_3 : decode cX12_keepsSets 3 = .ok (.iload_n 2, 1) := by decide +kernel
theorem dX12_keepsSets_4 : decode cX12_keepsSets 4 = .ok (.if_icmp .ge 21, 3) := by decide +kernel
theorem dX12_keepsSets_7 : decode cX12_keepsSets 7 = .ok (.aload_n 0, 1) := by decide +kernel
theorem dX12_keepsSets_8 : decode cX12_keepsSets 8 = .ok (.getfield 121, 3) := by decide +kernel
theorem dX12_keepsSets_11 : decode cX12_keepsSets 11 = .ok (.iload_n 3, 1) := by decide +kernel
theorem dX12_keepsSets_12 : decode cX12_keepsSets 12 = .ok (.aload_n 0, 1) := by decide +kernel
theorem dX12_keepsSets_13 : decode cX12_keepsSets 13 = .ok (.iload_n 1, 1) := by decide +kernel
theorem dX12_keepsSets_14 : decode cX12_keepsSets 14 = .ok (.iload_n 3, 1) := by decide +kernel
theorem dX12_keepsSets_15 : decode cX12_keepsSets 15 = .ok (.invokevirtual 261, 3) := by decide +kernel
theorem dX12_keepsSets_25 : decode cX12_keepsSets 25 = .ok (.return_, 1) := by decide +kernel
theorem dX12_away_0 : decode cX12_away 0 = .ok (.aload_n 0, 1) := by decide +kernel
theorem dX12_away_1 : decode cX12_away 1 = .ok (.iconst 0, 1) := by decide +kernel
theorem dX12_away_2 : decode cX12_away 2 = .ok (.putfield 1, 3) := by decide +kernel
theorem dX12_away_5 : decode cX12_away 5 = .ok (.aload_n 0, 1) := by decide +kernel
theorem dX12_away_6 : decode cX12_away 6 = .ok (.iload_n 1, 1) := by decide +kernel
theorem dX12_away_7 : decode cX12_away 7 = .ok (.iload_n 2, 1) := by decide +kernel
theorem dX12_away_8 : decode cX12_away 8 = .ok (.invokevirtual 298, 3) := by decide +kernel
theorem dX12_away_11 : decode cX12_away 11 = .ok (.ifCond .ne 5, 3) := by decide +kernel
theorem dX12_away_16 : decode cX12_away 16 = .ok (.aload_n 0, 1) := by decide +kernel
theorem dX12_away_17 : decode cX12_away 17 = .ok (.iload_n 1, 1) := by decide +kernel
theorem dX12_away_18 : decode cX12_away 18 = .ok (.iload_n 2, 1) := by decide +kernel
theorem dX12_away_19 : decode cX12_away 19 = .ok (.invokevirtual 185, 3) := by decide +kernel
theorem dX12_takesOut_0 : decode cX12_takesOut 0 = .ok (.aload_n 0, 1) := by decide +kernel
theorem dX12_takesOut_1 : decode cX12_takesOut 1 = .ok (.getfield 69, 3) := by decide +kernel
theorem dX12_takesOut_4 : decode cX12_takesOut 4 = .ok (.iload_n 1, 1) := by decide +kernel
theorem dX12_takesOut_5 : decode cX12_takesOut 5 = .ok (.dup2, 1) := by decide +kernel
theorem dX12_takesOut_6 : decode cX12_takesOut 6 = .ok (.iaload, 1) := by decide +kernel
theorem dX12_takesOut_7 : decode cX12_takesOut 7 = .ok (.iconst 1, 1) := by decide +kernel
theorem dX12_takesOut_8 : decode cX12_takesOut 8 = .ok (.isub, 1) := by decide +kernel
theorem dX12_takesOut_9 : decode cX12_takesOut 9 = .ok (.iastore, 1) := by decide +kernel
theorem dX12_takesOut_10 : decode cX12_takesOut 10 = .ok (.iload_n 2, 1) := by decide +kernel
theorem dX12_takesOut_11 : decode cX12_takesOut 11 = .ok (.istore_n 3, 1) := by decide +kernel
theorem dX12_takesOut_12 : decode cX12_takesOut 12 = .ok (.iload_n 3, 1) := by decide +kernel
theorem dX12_takesOut_13 : decode cX12_takesOut 13 = .ok (.aload_n 0, 1) := by decide +kernel
theorem dX12_takesOut_14 : decode cX12_takesOut 14 = .ok (.getfield 69, 3) := by decide +kernel
theorem dX12_takesOut_17 : decode cX12_takesOut 17 = .ok (.iload_n 1, 1) := by decide +kernel
theorem dX12_takesOut_18 : decode cX12_takesOut 18 = .ok (.iaload, 1) := by decide +kernel
theorem dX12_takesOut_19 : decode cX12_takesOut 19 = .ok (.if_icmp .ge 27, 3) := by decide +kernel
theorem dX12_takesOut_22 : decode cX12_takesOut 22 = .ok (.aload_n 0, 1) := by decide +kernel
theorem dX12_takesOut_23 : decode cX12_takesOut 23 = .ok (.bipush 40, 2) := by decide +kernel
theorem dX12_takesOut_25 : decode cX12_takesOut 25 = .ok (.iload_n 1, 1) := by decide +kernel
theorem dX12_takesOut_26 : decode cX12_takesOut 26 = .ok (.imul, 1) := by decide +kernel
theorem dX12_takesOut_27 : decode cX12_takesOut 27 = .ok (.iload_n 3, 1) := by decide +kernel
theorem dX12_takesOut_28 : decode cX12_takesOut 28 = .ok (.iadd, 1) := by decide +kernel
theorem dX12_takesOut_29 : decode cX12_takesOut 29 = .ok (.iconst 1, 1) := by decide +kernel
theorem dX12_takesOut_30 : decode cX12_takesOut 30 = .ok (.iadd, 1) := by decide +kernel
theorem dX12_takesOut_31 : decode cX12_takesOut 31 = .ok (.bipush 40, 2) := by decide +kernel
theorem dX12_takesOut_33 : decode cX12_takesOut 33 = .ok (.iload_n 1, 1) := by decide +kernel
theorem dX12_takesOut_34 : decode cX12_takesOut 34 = .ok (.imul, 1) := by decide +kernel
theorem dX12_takesOut_35 : decode cX12_takesOut 35 = .ok (.iload_n 3, 1) := by decide +kernel
theorem dX12_takesOut_36 : decode cX12_takesOut 36 = .ok (.iadd, 1) := by decide +kernel
theorem dX12_takesOut_37 : decode cX12_takesOut 37 = .ok (.invokevirtual 274, 3) := by decide +kernel
theorem dX12_takesOut_46 : decode cX12_takesOut 46 = .ok (.return_, 1) := by decide +kernel
theorem dX12_moves_0 : decode cX12_moves 0 = .ok (.aload_n 0, 1) := by decide +kernel
theorem dX12_moves_1 : decode cX12_moves 1 = .ok (.getfield 72, 3) := by decide +kernel
theorem dX12_moves_4 : decode cX12_moves 4 = .ok (.iload_n 2, 1) := by decide +kernel
theorem dX12_moves_5 : decode cX12_moves 5 = .ok (.aload_n 0, 1) := by decide +kernel
theorem dX12_moves_6 : decode cX12_moves 6 = .ok (.getfield 72, 3) := by decide +kernel
theorem dX12_moves_9 : decode cX12_moves 9 = .ok (.iload_n 1, 1) := by decide +kernel
theorem dX12_moves_10 : decode cX12_moves 10 = .ok (.iaload, 1) := by decide +kernel
theorem dX12_moves_11 : decode cX12_moves 11 = .ok (.iastore, 1) := by decide +kernel
theorem dX12_moves_12 : decode cX12_moves 12 = .ok (.aload_n 0, 1) := by decide +kernel
theorem dX12_moves_13 : decode cX12_moves 13 = .ok (.getfield 75, 3) := by decide +kernel
theorem dX12_moves_16 : decode cX12_moves 16 = .ok (.iload_n 2, 1) := by decide +kernel
theorem dX12_moves_17 : decode cX12_moves 17 = .ok (.aload_n 0, 1) := by decide +kernel
theorem dX12_moves_18 : decode cX12_moves 18 = .ok (.getfield 75, 3) := by decide +kernel
theorem dX12_moves_21 : decode cX12_moves 21 = .ok (.iload_n 1, 1) := by decide +kernel
theorem dX12_moves_22 : decode cX12_moves 22 = .ok (.iaload, 1) := by decide +kernel
theorem dX12_moves_23 : decode cX12_moves 23 = .ok (.iastore, 1) := by decide +kernel
theorem dX12_moves_24 : decode cX12_moves 24 = .ok (.aload_n 0, 1) := by decide +kernel
theorem dX12_moves_25 : decode cX12_moves 25 = .ok (.getfield 78, 3) := by decide +kernel
theorem dX12_moves_28 : decode cX12_moves 28 = .ok (.iload_n 2, 1) := by decide +kernel
theorem dX12_moves_29 : decode cX12_moves 29 = .ok (.aload_n 0, 1) := by decide +kernel
theorem dX12_moves_30 : decode cX12_moves 30 = .ok (.getfield 78, 3) := by decide +kernel
theorem dX12_moves_33 : decode cX12_moves 33 = .ok (.iload_n 1, 1) := by decide +kernel
theorem dX12_moves_34 : decode cX12_moves 34 = .ok (.iaload, 1) := by decide +kernel
theorem dX12_moves_35 : decode cX12_moves 35 = .ok (.iastore, 1) := by decide +kernel
theorem dX12_moves_36 : decode cX12_moves 36 = .ok (.aload_n 0, 1) := by decide +kernel
theorem dX12_moves_37 : decode cX12_moves 37 = .ok (.getfield 81, 3) := by decide +kernel
theorem dX12_moves_40 : decode cX12_moves 40 = .ok (.iload_n 2, 1) := by decide +kernel
theorem dX12_moves_41 : decode cX12_moves 41 = .ok (.aload_n 0, 1) := by decide +kernel
theorem dX12_moves_42 : decode cX12_moves 42 = .ok (.getfield 81, 3) := by decide +kernel
theorem dX12_moves_45 : decode cX12_moves 45 = .ok (.iload_n 1, 1) := by decide +kernel
theorem dX12_moves_46 : decode cX12_moves 46 = .ok (.iaload, 1) := by decide +kernel
theorem dX12_moves_47 : decode cX12_moves 47 = .ok (.iastore, 1) := by decide +kernel
theorem dX12_moves_48 : decode cX12_moves 48 = .ok (.aload_n 0, 1) := by decide +kernel
theorem dX12_moves_49 : decode cX12_moves 49 = .ok (.getfield 84, 3) := by decide +kernel
theorem dX12_moves_52 : decode cX12_moves 52 = .ok (.iload_n 2, 1) := by decide +kernel
theorem dX12_moves_53 : decode cX12_moves 53 = .ok (.aload_n 0, 1) := by decide +kernel
theorem dX12_moves_54 : decode cX12_moves 54 = .ok (.getfield 84, 3) := by decide +kernel
theorem dX12_moves_57 : decode cX12_moves 57 = .ok (.iload_n 1, 1) := by decide +kernel
theorem dX12_moves_58 : decode cX12_moves 58 = .ok (.iaload, 1) := by decide +kernel
theorem dX12_moves_59 : decode cX12_moves 59 = .ok (.iastore, 1) := by decide +kernel
theorem dX12_moves_60 : decode cX12_moves 60 = .ok (.return_, 1) := by decide +kernel
set_option maxHeartbeats 4000000 in
set_option maxRecDepth 100000 in
theorem s_X12_moves {P : PP} {a0 : Nat} {a1 : Int32} {a2 : Int32} (I : IM P a0) (ha1 : 0 ≤ a1.toInt ∧ a1.toInt ≤ 799) (ha2 : 0 ≤ a2.toInt ∧ a2.toInt ≤ 799) : CtrV yX12_moves cX12_moves 3 none ({ frames := 1, cells := 0, slots := 0, locals := 64 } : Room) 0 0 P [.ref a0, .int a1, .int a2] (fun P2 => IM P2 a0 ∧ EM [21, 22, 23, 24, 25] a0 P P2) := by
  refine enV (lv := [(0, .ref a0), (1, .int a1), (2, .int a2)]) (by decide) (Nat.le_of_ble_eq_true rfl) rfl (fun E D cy C Ci0 ret => ?_)
  have ha0 := I.2.1
  refine g_aload_n C dX12_moves_0 rfl 0 rfl ?_
  obtain ⟨b2922, e2923, h2924⟩ := I.fld (ha0) 21 13 800 rfl
  refine g_getR C fi_X12_72 rfl e2923 (ha0).1 (ha0).2 dX12_moves_1 ?_
  refine g_iload_n C dX12_moves_4 rfl 2 rfl ?_
  refine g_aload_n C dX12_moves_5 rfl 0 rfl ?_
  refine g_getR C fi_X12_72 rfl e2923 (ha0).1 (ha0).2 dX12_moves_6 ?_
  refine g_iload_n C dX12_moves_9 rfl 1 rfl ?_
  refine g_iald (j := (a1.toInt.toNat)) C h2924.1 h2924.2.1 (ix_in h2924.2.2 (by omega)) dX12_moves_10 ?_
  refine g_iast (j := (a2.toInt.toNat)) C h2924.1 h2924.2.1 (ix_in h2924.2.2 (by omega)) dX12_moves_11 ?_
  refine gqW (ks := [21]) (I.setA e2923 h2924 (by decide) (arOk.none rfl)) (EM.setA I e2923 rfl (by decide)) (fun Y2925 Iy2926 Xy2927 w2928 => ?_)
  have w2928 : (pI Y2925 b2922 (a2.toInt.toNat)).toInt = (pI P b2922 (a1.toInt.toNat)).toInt := w2928
  have Xz2929 : EM [21, 22, 23, 24, 25] a0 P Y2925 := Xy2927.mono (by decide)
  have e2930 := Xy2927.ref ha0 (by decide) e2923
  have h2931 := Xy2927.at ha0
  have h2932 := Xy2927.ar h2924
  refine g_aload_n C dX12_moves_12 rfl 0 rfl ?_
  obtain ⟨b2933, e2934, h2935⟩ := Iy2926.fld (h2931) 22 13 800 rfl
  refine g_getR C fi_X12_75 rfl e2934 (h2931).1 (h2931).2 dX12_moves_13 ?_
  refine g_iload_n C dX12_moves_16 rfl 2 rfl ?_
  refine g_aload_n C dX12_moves_17 rfl 0 rfl ?_
  refine g_getR C fi_X12_75 rfl e2934 (h2931).1 (h2931).2 dX12_moves_18 ?_
  refine g_iload_n C dX12_moves_21 rfl 1 rfl ?_
  refine g_iald (j := (a1.toInt.toNat)) C h2935.1 h2935.2.1 (ix_in h2935.2.2 (by omega)) dX12_moves_22 ?_
  have h2936 := Iy2926.arr e2934 rfl (a1.toInt.toNat)
  refine g_iast (j := (a2.toInt.toNat)) C h2935.1 h2935.2.1 (ix_in h2935.2.2 (by omega)) dX12_moves_23 ?_
  refine gqW (ks := [22]) (Iy2926.setA e2934 h2935 (by decide) (arOk.of rfl (by omega))) (EM.setA Iy2926 e2934 rfl (by decide)) (fun Y2937 Iy2938 Xy2939 w2940 => ?_)
  have w2940 : (pI Y2937 b2933 (a2.toInt.toNat)).toInt = (pI Y2925 b2933 (a1.toInt.toNat)).toInt := w2940
  have q2941 := Xy2939.keepA e2930 (by decide) rfl (a2.toInt.toNat)
  have Xz2942 : EM [21, 22, 23, 24, 25] a0 P Y2937 := EM.tr ha0 Xz2929 (Xy2939.mono (by decide))
  have e2943 := Xy2939.ref h2931 (by decide) e2930
  have e2944 := Xy2939.ref h2931 (by decide) e2934
  have h2945 := Xy2939.at h2931
  have h2946 := Xy2939.ar h2932
  have h2947 := Xy2939.ar h2935
  refine g_aload_n C dX12_moves_24 rfl 0 rfl ?_
  obtain ⟨b2948, e2949, h2950⟩ := Iy2938.fld (h2945) 23 13 800 rfl
  refine g_getR C fi_X12_78 rfl e2949 (h2945).1 (h2945).2 dX12_moves_25 ?_
  refine g_iload_n C dX12_moves_28 rfl 2 rfl ?_
  refine g_aload_n C dX12_moves_29 rfl 0 rfl ?_
  refine g_getR C fi_X12_78 rfl e2949 (h2945).1 (h2945).2 dX12_moves_30 ?_
  refine g_iload_n C dX12_moves_33 rfl 1 rfl ?_
  refine g_iald (j := (a1.toInt.toNat)) C h2950.1 h2950.2.1 (ix_in h2950.2.2 (by omega)) dX12_moves_34 ?_
  refine g_iast (j := (a2.toInt.toNat)) C h2950.1 h2950.2.1 (ix_in h2950.2.2 (by omega)) dX12_moves_35 ?_
  refine gqW (ks := [23]) (Iy2938.setA e2949 h2950 (by decide) (arOk.none rfl)) (EM.setA Iy2938 e2949 rfl (by decide)) (fun Y2951 Iy2952 Xy2953 w2954 => ?_)
  have w2954 : (pI Y2951 b2948 (a2.toInt.toNat)).toInt = (pI Y2937 b2948 (a1.toInt.toNat)).toInt := w2954
  have q2955 := Xy2953.keepA e2943 (by decide) rfl (a2.toInt.toNat)
  have q2956 := Xy2953.keepA e2944 (by decide) rfl (a2.toInt.toNat)
  have Xz2957 : EM [21, 22, 23, 24, 25] a0 P Y2951 := EM.tr ha0 Xz2942 (Xy2953.mono (by decide))
  have e2958 := Xy2953.ref h2945 (by decide) e2943
  have e2959 := Xy2953.ref h2945 (by decide) e2944
  have e2960 := Xy2953.ref h2945 (by decide) e2949
  have h2961 := Xy2953.at h2945
  have h2962 := Xy2953.ar h2946
  have h2963 := Xy2953.ar h2947
  have h2964 := Xy2953.ar h2950
  refine g_aload_n C dX12_moves_36 rfl 0 rfl ?_
  obtain ⟨b2965, e2966, h2967⟩ := Iy2952.fld (h2961) 24 13 800 rfl
  refine g_getR C fi_X12_81 rfl e2966 (h2961).1 (h2961).2 dX12_moves_37 ?_
  refine g_iload_n C dX12_moves_40 rfl 2 rfl ?_
  refine g_aload_n C dX12_moves_41 rfl 0 rfl ?_
  refine g_getR C fi_X12_81 rfl e2966 (h2961).1 (h2961).2 dX12_moves_42 ?_
  refine g_iload_n C dX12_moves_45 rfl 1 rfl ?_
  refine g_iald (j := (a1.toInt.toNat)) C h2967.1 h2967.2.1 (ix_in h2967.2.2 (by omega)) dX12_moves_46 ?_
  refine g_iast (j := (a2.toInt.toNat)) C h2967.1 h2967.2.1 (ix_in h2967.2.2 (by omega)) dX12_moves_47 ?_
  refine gqW (ks := [24]) (Iy2952.setA e2966 h2967 (by decide) (arOk.none rfl)) (EM.setA Iy2952 e2966 rfl (by decide)) (fun Y2968 Iy2969 Xy2970 w2971 => ?_)
  have w2971 : (pI Y2968 b2965 (a2.toInt.toNat)).toInt = (pI Y2951 b2965 (a1.toInt.toNat)).toInt := w2971
  have q2972 := Xy2970.keepA e2958 (by decide) rfl (a2.toInt.toNat)
  have q2973 := Xy2970.keepA e2959 (by decide) rfl (a2.toInt.toNat)
  have q2974 := Xy2970.keepA e2960 (by decide) rfl (a2.toInt.toNat)
  have Xz2975 : EM [21, 22, 23, 24, 25] a0 P Y2968 := EM.tr ha0 Xz2957 (Xy2970.mono (by decide))
  have e2976 := Xy2970.ref h2961 (by decide) e2958
  have e2977 := Xy2970.ref h2961 (by decide) e2959
  have e2978 := Xy2970.ref h2961 (by decide) e2960
  have e2979 := Xy2970.ref h2961 (by decide) e2966
  have h2980 := Xy2970.at h2961
  have h2981 := Xy2970.ar h2962
  have h2982 := Xy2970.ar h2963
  have h2983 := Xy2970.ar h2964
  have h2984 := Xy2970.ar h2967
  refine g_aload_n C dX12_moves_48 rfl 0 rfl ?_
  obtain ⟨b2985, e2986, h2987⟩ := Iy2969.fld (h2980) 25 13 800 rfl
  refine g_getR C fi_X12_84 rfl e2986 (h2980).1 (h2980).2 dX12_moves_49 ?_
  refine g_iload_n C dX12_moves_52 rfl 2 rfl ?_
  refine g_aload_n C dX12_moves_53 rfl 0 rfl ?_
  refine g_getR C fi_X12_84 rfl e2986 (h2980).1 (h2980).2 dX12_moves_54 ?_
  refine g_iload_n C dX12_moves_57 rfl 1 rfl ?_
  refine g_iald (j := (a1.toInt.toNat)) C h2987.1 h2987.2.1 (ix_in h2987.2.2 (by omega)) dX12_moves_58 ?_
  refine g_iast (j := (a2.toInt.toNat)) C h2987.1 h2987.2.1 (ix_in h2987.2.2 (by omega)) dX12_moves_59 ?_
  refine gqW (ks := [25]) (Iy2969.setA e2986 h2987 (by decide) (arOk.none rfl)) (EM.setA Iy2969 e2986 rfl (by decide)) (fun Y2988 Iy2989 Xy2990 w2991 => ?_)
  have w2991 : (pI Y2988 b2985 (a2.toInt.toNat)).toInt = (pI Y2968 b2985 (a1.toInt.toNat)).toInt := w2991
  have q2992 := Xy2990.keepA e2976 (by decide) rfl (a2.toInt.toNat)
  have q2993 := Xy2990.keepA e2977 (by decide) rfl (a2.toInt.toNat)
  have q2994 := Xy2990.keepA e2978 (by decide) rfl (a2.toInt.toNat)
  have q2995 := Xy2990.keepA e2979 (by decide) rfl (a2.toInt.toNat)
  have Xz2996 : EM [21, 22, 23, 24, 25] a0 P Y2988 := EM.tr ha0 Xz2975 (Xy2990.mono (by decide))
  have e2997 := Xy2990.ref h2980 (by decide) e2976
  have e2998 := Xy2990.ref h2980 (by decide) e2977
  have e2999 := Xy2990.ref h2980 (by decide) e2978
  have e3000 := Xy2990.ref h2980 (by decide) e2979
  have e3001 := Xy2990.ref h2980 (by decide) e2986
  have h3002 := Xy2990.at h2980
  have h3003 := Xy2990.ar h2981
  have h3004 := Xy2990.ar h2982
  have h3005 := Xy2990.ar h2983
  have h3006 := Xy2990.ar h2984
  have h3007 := Xy2990.ar h2987
  exact ret _ _ _ _ _ dX12_moves_60 (by decide) (by decide) ⟨Iy2989, Xz2996⟩
theorem dX12_takesOut_40 : decode cX12_takesOut 40 = .ok (.iinc 3 1, 3) := by decide +kernel
theorem dX12_takesOut_43 : decode cX12_takesOut 43 = .ok (.goto (-31), 3) := by decide +kernel
set_option maxHeartbeats 4000000 in
set_option maxRecDepth 100000 in
theorem s_X12_takesOut {P : PP} {a0 : Nat} {a1 : Int32} {a2 : Int32} (I : IM P a0) (ha1 : 0 ≤ a1.toInt ∧ a1.toInt ≤ 3) (ha2 : 0 ≤ a2.toInt ∧ a2.toInt ≤ 39) (hf0 : ∀ b, pR P a0 20 = some b → 1 ≤ (pI P b (a1.toInt.toNat)).toInt ∧ (pI P b (a1.toInt.toNat)).toInt ≤ 40) : CtrV yX12_takesOut cX12_takesOut 4 none ({ frames := 2, cells := 0, slots := 0, locals := 128 } : Room) 0 0 P [.ref a0, .int a1, .int a2] (fun P2 => IM P2 a0 ∧ EM [20, 21, 22, 23, 24, 25] a0 P P2 ∧ (∀ b, pR P a0 20 = some b → (pI P2 b (a1.toInt.toNat)).toInt = (pI P b (a1.toInt.toNat)).toInt - 1)) := by
  refine enV (lv := [(0, .ref a0), (1, .int a1), (2, .int a2)]) (by decide) (Nat.le_of_ble_eq_true rfl) rfl (fun E D cy C Ci0 ret => ?_)
  have ha0 := I.2.1
  have J12 : ∀ (n12 : Nat) (P12 : PP) (v12_3 : Int32), (39 - v12_3.toInt).toNat < n12 → (IM P12 a0) → (EM [20, 21, 22, 23, 24, 25] a0 P P12) → (0 ≤ v12_3.toInt ∧ v12_3.toInt ≤ 39) → (∀ b, pR P12 a0 20 = some b → 0 ≤ (pI P12 b (a1.toInt.toNat)).toInt ∧ (pI P12 b (a1.toInt.toNat)).toInt ≤ 39) → (∀ b920, pR P12 a0 20 = some b920 → (pI P12 b920 (a1.toInt.toNat)).toInt = (pI P b920 (a1.toInt.toNat)).toInt - 1) → G E ({ frames := 2, cells := 0, slots := 0, locals := 128 } : Room) D cy 4 P12 0 0 12 [(0, .ref a0), (1, .int a1), (3, .int v12_3)] [] := by
    intro n12
    induction n12 with
    | zero => intro P12 v12_3 hm12 I12 X12 hv12_3 hq12_0 rel12_0; omega
    | succ n12 ih12 =>
      intro P12 v12_3 hm12 I12 X12 hv12_3 hq12_0 rel12_0
      have h3048 := X12.at ha0
      obtain ⟨b3049, e3050, h3051⟩ := I12.fld (h3048) 20 13 20 rfl
      have hq12_0 := hq12_0 b3049 e3050
      have rel12_0 := rel12_0 b3049 e3050
      refine g_iload_n C dX12_takesOut_12 rfl 2 rfl ?_
      refine g_aload_n C dX12_takesOut_13 rfl 0 rfl ?_
      refine g_getR C fi_X12_69 rfl e3050 (h3048).1 (h3048).2 dX12_takesOut_14 ?_
      refine g_iload_n C dX12_takesOut_17 rfl 1 rfl ?_
      refine g_iald (j := (a1.toInt.toNat)) C h3051.1 h3051.2.1 (ix_in h3051.2.2 (by omega)) dX12_takesOut_18 ?_
      refine b_icmp_ge C 46 dX12_takesOut_19 (by decide) (fun h3052 => ?_) (fun h3052 => ?_)
      · have h3052 : (pI P12 b3049 (a1.toInt.toNat)).toInt ≤ v12_3.toInt := h3052
        exact ret _ _ _ _ _ dX12_takesOut_46 (by decide) (by decide) ⟨I12, X12, (fun b9 e9 => by have e8 := EM.ref X12 ha0 (by decide) e9; rw [e3050] at e8; cases e8; show (pI P12 b3049 (a1.toInt.toNat)).toInt = (pI P b3049 (a1.toInt.toNat)).toInt - 1; omega)⟩
      · have h3052 : v12_3.toInt < (pI P12 b3049 (a1.toInt.toNat)).toInt := h3052
        refine g_aload_n C dX12_takesOut_22 rfl 0 rfl ?_
        refine g_bipush (v := 40) C dX12_takesOut_23 (by decide) ?_
        refine g_iload_n C dX12_takesOut_25 rfl 1 rfl ?_
        refine s_imul C dX12_takesOut_26 (by show -2147483648 ≤ 40 * a1.toInt ∧ 40 * a1.toInt ≤ 2147483647; omega) (fun z3053 h3054 => ?_)
        have h3054 : z3053.toInt = 40 * a1.toInt := h3054
        refine g_iload_n C dX12_takesOut_27 rfl 2 rfl ?_
        refine s_iadd C dX12_takesOut_28 (by show -2147483648 ≤ z3053.toInt + v12_3.toInt ∧ z3053.toInt + v12_3.toInt ≤ 2147483647; omega) (fun z3055 h3056 => ?_)
        have h3056 : z3055.toInt = z3053.toInt + v12_3.toInt := h3056
        refine g_iconst (v := 1) C dX12_takesOut_29 (by decide) ?_
        refine s_iadd C dX12_takesOut_30 (by show -2147483648 ≤ z3055.toInt + 1 ∧ z3055.toInt + 1 ≤ 2147483647; omega) (fun z3057 h3058 => ?_)
        have h3058 : z3057.toInt = z3055.toInt + 1 := h3058
        refine g_bipush (v := 40) C dX12_takesOut_31 (by decide) ?_
        refine g_iload_n C dX12_takesOut_33 rfl 1 rfl ?_
        refine s_imul C dX12_takesOut_34 (by show -2147483648 ≤ 40 * a1.toInt ∧ 40 * a1.toInt ≤ 2147483647; omega) (fun z3059 h3060 => ?_)
        have h3060 : z3059.toInt = 40 * a1.toInt := h3060
        refine g_iload_n C dX12_takesOut_35 rfl 2 rfl ?_
        refine s_iadd C dX12_takesOut_36 (by show -2147483648 ≤ z3059.toInt + v12_3.toInt ∧ z3059.toInt + v12_3.toInt ≤ 2147483647; omega) (fun z3061 h3062 => ?_)
        have h3062 : z3061.toInt = z3059.toInt + v12_3.toInt := h3062
        refine g_callVV (rest := []) C mv_X12_274 [.int z3057, .int z3061] (s_X12_moves I12 (by omega) (by omega)) (h3048).1 (h3048).2 rfl rfl (by decide) (Nat.le_of_ble_eq_true rfl) (by decide) dX12_takesOut_37 (fun Y3064 h3065 => ?_)
        obtain ⟨Iy3066, Xy3067⟩ := h3065
        have q3068 := Xy3067.keepA e3050 (by decide) rfl (a1.toInt.toNat)
        have Xz3069 : EM [20, 21, 22, 23, 24, 25] a0 P Y3064 := EM.tr ha0 X12 (Xy3067.mono (by decide))
        have e3070 := Xy3067.ref h3048 (by decide) e3050
        have h3071 := Xy3067.at h3048
        have h3072 := Xy3067.ar h3051
        refine s_iinc (lv0 := [(0, .ref a0), (1, .int a1)]) (m := 1) C dX12_takesOut_40 2 rfl (by decide) rfl (by decide) (by omega) (fun z3073 h3074 => ?_)
        have h3074 : z3073.toInt = v12_3.toInt + 1 := h3074
        refine g_goto C 12 dX12_takesOut_43 (by decide) ?_
        refine g_lv (lv' := [(0, .ref a0), (1, .int a1), (3, .int z3073)]) [1, 2, 0] rfl ?_
        exact ih12 Y3064 z3073 (by omega) Iy3066 Xz3069 (by omega) (fun b9 e9 => by rw [e3070] at e9; cases e9; omega) (by intro b920 e920; rw [e3070] at e920; cases e920; show (pI Y3064 b3049 (a1.toInt.toNat)).toInt = (pI P b3049 (a1.toInt.toNat)).toInt - 1; omega)
  obtain ⟨b3075, e3076, h3077⟩ := I.fld (ha0) 20 13 20 rfl
  have hf0 := hf0 b3075 e3076
  refine g_aload_n C dX12_takesOut_0 rfl 0 rfl ?_
  refine g_getR C fi_X12_69 rfl e3076 (ha0).1 (ha0).2 dX12_takesOut_1 ?_
  refine g_iload_n C dX12_takesOut_4 rfl 1 rfl ?_
  refine g_dup2_11 C dX12_takesOut_5 rfl rfl ?_
  refine g_iald (j := (a1.toInt.toNat)) C h3077.1 h3077.2.1 (ix_in h3077.2.2 (by omega)) dX12_takesOut_6 ?_
  refine g_iconst (v := 1) C dX12_takesOut_7 (by decide) ?_
  refine s_isub C dX12_takesOut_8 (by show -2147483648 ≤ (pI P b3075 (a1.toInt.toNat)).toInt - 1 ∧ (pI P b3075 (a1.toInt.toNat)).toInt - 1 ≤ 2147483647; omega) (fun z3078 h3079 => ?_)
  have h3079 : z3078.toInt = (pI P b3075 (a1.toInt.toNat)).toInt - 1 := h3079
  refine g_iast (j := (a1.toInt.toNat)) C h3077.1 h3077.2.1 (ix_in h3077.2.2 (by omega)) dX12_takesOut_9 ?_
  refine gqW (ks := [20]) (I.setA e3076 h3077 (by decide) (arOk.of rfl (by omega))) (EM.setA I e3076 rfl (by decide)) (fun Y3080 Iy3081 Xy3082 w3083 => ?_)
  have w3083 : (pI Y3080 b3075 (a1.toInt.toNat)).toInt = z3078.toInt := w3083
  have Xz3084 : EM [20, 21, 22, 23, 24, 25] a0 P Y3080 := Xy3082.mono (by decide)
  have e3085 := Xy3082.ref ha0 (by decide) e3076
  have h3086 := Xy3082.at ha0
  have h3087 := Xy3082.ar h3077
  refine g_iload_n C dX12_takesOut_10 rfl 2 rfl ?_
  refine g_istore_n (lv' := [(3, .int a2), (0, .ref a0), (1, .int a1), (2, .int a2)]) C dX12_takesOut_11 rfl (by decide) rfl ?_
  refine g_lv (lv' := [(0, .ref a0), (1, .int a1), (3, .int a2)]) [1, 2, 0] rfl ?_
  exact J12 _ Y3080 a2 (Nat.lt_succ_self _) Iy3081 Xz3084 (by omega) (fun b9 e9 => by rw [e3085] at e9; cases e9; omega) (by intro b920 e920; rw [e3085] at e920; cases e920; show (pI Y3080 b3075 (a1.toInt.toNat)).toInt = (pI P b3075 (a1.toInt.toNat)).toInt - 1; omega)
theorem dX12_bits_0 : decode cX12_bits 0 = .ok (.iconst 0, 1) := by decide +kernel
theorem dX12_bits_1 : decode cX12_bits 1 = .ok (.istore_n 1, 1) := by decide +kernel
theorem dX12_bits_2 : decode cX12_bits 2 = .ok (.iconst 0, 1) := by decide +kernel
theorem dX12_bits_3 : decode cX12_bits 3 = .ok (.istore_n 2, 1) := by decide +kernel
theorem dX12_bits_4 : decode cX12_bits 4 = .ok (.iload_n 2, 1) := by decide +kernel
theorem dX12_bits_5 : decode cX12_bits 5 = .ok (.bipush 20, 2) := by decide +kernel
theorem dX12_bits_7 : decode cX12_bits 7 = .ok (.if_icmp .ge 17, 3) := by decide +kernel
theorem dX12_bits_10 : decode cX12_bits 10 = .ok (.iload_n 1, 1) := by decide +kernel
theorem dX12_bits_11 : decode cX12_bits 11 = .ok (.iload_n 0, 1) := by decide +kernel
theorem dX12_bits_12 : decode cX12_bits 12 = .ok (.iload_n 2, 1) := by decide +kernel
theorem dX12_bits_13 : decode cX12_bits 13 = .ok (.ishr, 1) := by decide +kernel
theorem dX12_bits_14 : decode cX12_bits 14 = .ok (.iconst 1, 1) := by decide +kernel
theorem dX12_bits_15 : decode cX12_bits 15 = .ok (.iand, 1) := by decide +kernel
theorem dX12_bits_16 : decode cX12_bits 16 = .ok (.iadd, 1) := by decide +kernel
theorem dX12_bits_17 : decode cX12_bits 17 = .ok (.istore_n 1, 1) := by decide +kernel
theorem dX12_bits_18 : decode cX12_bits 18 = .ok (.iinc 2 1, 3) := by decide +kernel
theorem dX12_bits_21 : decode cX12_bits 21 = .ok (.goto (-17), 3) := by decide +kernel
theorem dX12_bits_24 : decode cX12_bits 24 = .ok (.iload_n 1, 1) := by decide +kernel
theorem dX12_bits_25 : decode cX12_bits 25 = .ok (.ireturn, 1) := by decide +kernel
set_option maxHeartbeats 4000000 in
set_option maxRecDepth 100000 in
theorem s_X12_bits {P : PP} {a0 : Int32} (I : IV P) : CtrI yX12_bits cX12_bits 3 (some Jvm.ClassFile.FieldType.int) ({ frames := 1, cells := 0, slots := 0, locals := 64 } : Room) 0 0 P [.int a0] (fun r P2 => P = P2 ∧ (True)) := by
  refine enI (lv := [(0, .int a0)]) (by decide) (Nat.le_of_ble_eq_true rfl) rfl (fun E D cy C Ci0 ret => ?_)
  have J4 : ∀ (n4 : Nat) (v4_1 : Int32) (v4_2 : Int32), (20 - v4_2.toInt).toNat < n4 → (0 ≤ v4_2.toInt ∧ v4_2.toInt ≤ 20) → G E ({ frames := 1, cells := 0, slots := 0, locals := 64 } : Room) D cy 3 P 0 0 4 [(0, .int a0), (1, .int v4_1), (2, .int v4_2)] [] := by
    intro n4
    induction n4 with
    | zero => intro v4_1 v4_2 hm4 hv4_2; omega
    | succ n4 ih4 =>
      intro v4_1 v4_2 hm4 hv4_2
      refine g_iload_n C dX12_bits_4 rfl 2 rfl ?_
      refine g_bipush (v := 20) C dX12_bits_5 (by decide) ?_
      refine b_icmp_ge C 24 dX12_bits_7 (by decide) (fun h3409 => ?_) (fun h3409 => ?_)
      · have h3409 : 20 ≤ v4_2.toInt := h3409
        refine g_iload_n C dX12_bits_24 rfl 1 rfl ?_
        exact ret _ _ _ _ _ _ dX12_bits_25 rfl (by decide) (by decide) ⟨rfl, trivial⟩
      · have h3409 : v4_2.toInt < 20 := h3409
        refine g_iload_n C dX12_bits_10 rfl 1 rfl ?_
        refine g_iload_n C dX12_bits_11 rfl 0 rfl ?_
        refine g_iload_n C dX12_bits_12 rfl 2 rfl ?_
        refine a_ishr C dX12_bits_13 (fun z3410 => ?_)
        refine g_iconst (v := 1) C dX12_bits_14 (by decide) ?_
        refine s_iand C dX12_bits_15 (by show 0 ≤ 1; omega) (fun z3412 h3413 => ?_)
        have h3413 : 0 ≤ z3412.toInt ∧ z3412.toInt ≤ 1 := h3413
        refine a_iadd C dX12_bits_16 (fun z3414 => ?_)
        refine g_istore_n (lv' := [(1, .int z3414), (0, .int a0), (2, .int v4_2)]) C dX12_bits_17 rfl (by decide) rfl ?_
        refine s_iinc (lv0 := [(1, .int z3414), (0, .int a0)]) (m := 1) C dX12_bits_18 2 rfl (by decide) rfl (by decide) (by omega) (fun z3416 h3417 => ?_)
        have h3417 : z3416.toInt = v4_2.toInt + 1 := h3417
        refine g_goto C 4 dX12_bits_21 (by decide) ?_
        refine g_lv (lv' := [(0, .int a0), (1, .int z3414), (2, .int z3416)]) [2, 1, 0] rfl ?_
        exact ih4 z3414 z3416 (by omega) (by omega)
  refine g_iconst (v := 0) C dX12_bits_0 (by decide) ?_
  refine g_istore_n (lv' := [(1, .int 0), (0, .int a0)]) C dX12_bits_1 rfl (by decide) rfl ?_
  refine g_iconst (v := 0) C dX12_bits_2 (by decide) ?_
  refine g_istore_n (lv' := [(2, .int 0), (1, .int 0), (0, .int a0)]) C dX12_bits_3 rfl (by decide) rfl ?_
  refine g_lv (lv' := [(0, .int a0), (1, .int 0), (2, .int 0)]) [2, 1, 0] rfl ?_
  exact J4 _ 0 0 (Nat.lt_succ_self _) (by decide)
theorem dX12_book_0 : decode cX12_book 0 = .ok (.aload_n 0, 1) := by decide +kernel
theorem dX12_book_1 : decode cX12_book 1 = .ok (.iconst 0, 1) := by decide +kernel
theorem dX12_book_2 : decode cX12_book 2 = .ok (.putfield 1, 3) := by decide +kernel
theorem dX12_book_5 : decode cX12_book 5 = .ok (.iload_n 1, 1) := by decide +kernel
theorem dX12_book_6 : decode cX12_book 6 = .ok (.iconst 0, 1) := by decide +kernel
theorem dX12_book_7 : decode cX12_book 7 = .ok (.iconst 1, 1) := by decide +kernel
theorem dX12_book_8 : decode cX12_book 8 = .ok (.invokestatic 178, 3) := by decide +kernel
theorem dX12_book_11 : decode cX12_book 11 = .ok (.ifCond .eq 13, 3) := by decide +kernel
theorem dX12_book_14 : decode cX12_book 14 = .ok (.iload_n 2, 1) := by decide +kernel
theorem dX12_book_15 : decode cX12_book 15 = .ok (.iconst 1, 1) := by decide +kernel
theorem dX12_book_16 : decode cX12_book 16 = .ok (.bipush 16, 2) := by decide +kernel
theorem dX12_book_18 : decode cX12_book 18 = .ok (.invokestatic 178, 3) := by decide +kernel
theorem dX12_book_21 : decode cX12_book 21 = .ok (.ifCond .ne 5, 3) := by decide +kernel
theorem dX12_book_24 : decode cX12_book 24 = .ok (.iconst 0, 1) := by decide +kernel
theorem dX12_book_25 : decode cX12_book 25 = .ok (.ireturn, 1) := by decide +kernel
theorem dX12_book_26 : decode cX12_book 26 = .ok (.aload_n 0, 1) := by decide +kernel
theorem dX12_book_27 : decode cX12_book 27 = .ok (.getfield 45, 3) := by decide +kernel
theorem dX12_book_30 : decode cX12_book 30 = .ok (.iload_n 1, 1) := by decide +kernel
theorem dX12_book_31 : decode cX12_book 31 = .ok (.iload_n 2, 1) := by decide +kernel
theorem dX12_book_32 : decode cX12_book 32 = .ok (.iastore, 1) := by decide +kernel
theorem dX12_book_33 : decode cX12_book 33 = .ok (.iconst 0, 1) := by decide +kernel
theorem dX12_book_34 : decode cX12_book 34 = .ok (.istore_n 3, 1) := by decide +kernel
theorem dX12_book_35 : decode cX12_book 35 = .ok (.iload_n 3, 1) := by decide +kernel
theorem dX12_book_36 : decode cX12_book 36 = .ok (.bipush 16, 2) := by decide +kernel
theorem dX12_book_38 : decode cX12_book 38 = .ok (.if_icmp .ge 21, 3) := by decide +kernel
theorem dX12_book_41 : decode cX12_book 41 = .ok (.aload_n 0, 1) := by decide +kernel
theorem dX12_book_42 : decode cX12_book 42 = .ok (.getfield 48, 3) := by decide +kernel
theorem dX12_book_45 : decode cX12_book 45 = .ok (.bipush 16, 2) := by decide +kernel
theorem dX12_book_47 : decode cX12_book 47 = .ok (.iload_n 1, 1) := by decide +kernel
theorem dX12_book_48 : decode cX12_book 48 = .ok (.imul, 1) := by decide +kernel
theorem dX12_book_49 : decode cX12_book 49 = .ok (.iload_n 3, 1) := by decide +kernel
theorem dX12_book_50 : decode cX12_book 50 = .ok (.iadd, 1) := by decide +kernel
theorem dX12_book_51 : decode cX12_book 51 = .ok (.iconst 0, 1) := by decide +kernel
theorem dX12_book_52 : decode cX12_book 52 = .ok (.iastore, 1) := by decide +kernel
theorem dX12_book_53 : decode cX12_book 53 = .ok (.iinc 3 1, 3) := by decide +kernel
theorem dX12_book_56 : decode cX12_book 56 = .ok (.goto (-21), 3) := by decide +kernel
theorem dX12_book_59 : decode cX12_book 59 = .ok (.aload_n 0, 1) := by decide +kernel
theorem dX12_book_60 : decode cX12_book 60 = .ok (.iload_n 1, 1) := by decide +kernel
theorem dX12_book_61 : decode cX12_book 61 = .ok (.invokevirtual 182, 3) := by decide +kernel
theorem dX12_forgetsDraw_0 : decode cX12_forgetsDraw 0 = .ok (.iconst 0, 1) := by decide +kernel
theorem dX12_forgetsDraw_1 : decode cX12_forgetsDraw 1 = .ok (.istore_n 2, 1) := by decide +kernel
theorem dX12_forgetsDraw_2 : decode cX12_forgetsDraw 2 = .ok (.iload_n 2, 1) := by decide +kernel
theorem dX12_forgetsDraw_3 : decode cX12_forgetsDraw 3 = .ok (.bipush 21, 2) := by decide +kernel
theorem dX12_forgetsDraw_5 : decode cX12_forgetsDraw 5 = .ok (.if_icmp .ge 21, 3) := by decide +kernel
theorem dX12_forgetsDraw_8 : decode cX12_forgetsDraw 8 = .ok (.aload_n 0, 1) := by decide +kernel
theorem dX12_forgetsDraw_9 : decode cX12_forgetsDraw 9 = .ok (.getfield 51, 3) := by decide +kernel
theorem dX12_forgetsDraw_12 : decode cX12_forgetsDraw 12 = .ok (.bipush 21, 2) := by decide +kernel
theorem dX12_forgetsDraw_14 : decode cX12_forgetsDraw 14 = .ok (.iload_n 1, 1) := by decide +kernel
theorem dX12_forgetsDraw_15 : decode cX12_forgetsDraw 15 = .ok (.imul, 1) := by decide +kernel
theorem dX12_forgetsDraw_16 : decode cX12_forgetsDraw 16 = .ok (.iload_n 2, 1) := by decide +kernel
theorem dX12_forgetsDraw_17 : decode cX12_forgetsDraw 17 = .ok (.iadd, 1) := by decide +kernel
theorem dX12_forgetsDraw_18 : decode cX12_forgetsDraw 18 = .ok (.iconst (-1), 1) := by decide +kernel
theorem dX12_forgetsDraw_19 : decode cX12_forgetsDraw 19 = .ok (.iastore, 1) := by decide +kernel
theorem dX12_forgetsDraw_20 : decode cX12_forgetsDraw 20 = .ok (.iinc 2 1, 3) := by decide +kernel
theorem dX12_forgetsDraw_23 : decode cX12_forgetsDraw 23 = .ok (.goto (-21), 3) := by decide +kernel
theorem dX12_forgetsDraw_26 : decode cX12_forgetsDraw 26 = .ok (.aload_n 0, 1) := by decide +kernel
theorem dX12_forgetsDraw_27 : decode cX12_forgetsDraw 27 = .ok (.getfield 54, 3) := by decide +kernel
theorem dX12_forgetsDraw_30 : decode cX12_forgetsDraw 30 = .ok (.iload_n 1, 1) := by decide +kernel
theorem dX12_forgetsDraw_31 : decode cX12_forgetsDraw 31 = .ok (.iconst 0, 1) := by decide +kernel
theorem dX12_forgetsDraw_32 : decode cX12_forgetsDraw 32 = .ok (.iastore, 1) := by decide +kernel
theorem dX12_forgetsDraw_33 : decode cX12_forgetsDraw 33 = .ok (.aload_n 0, 1) := by decide +kernel
theorem dX12_forgetsDraw_34 : decode cX12_forgetsDraw 34 = .ok (.getfield 57, 3) := by decide +kernel
theorem dX12_forgetsDraw_37 : decode cX12_forgetsDraw 37 = .ok (.iload_n 1, 1) := by decide +kernel
theorem dX12_forgetsDraw_38 : decode cX12_forgetsDraw 38 = .ok (.iconst 1, 1) := by decide +kernel
theorem dX12_forgetsDraw_39 : decode cX12_forgetsDraw 39 = .ok (.iastore, 1) := by decide +kernel
theorem dX12_forgetsDraw_40 : decode cX12_forgetsDraw 40 = .ok (.aload_n 0, 1) := by decide +kernel
theorem dX12_forgetsDraw_41 : decode cX12_forgetsDraw 41 = .ok (.getfield 60, 3) := by decide +kernel
theorem dX12_forgetsDraw_44 : decode cX12_forgetsDraw 44 = .ok (.iload_n 1, 1) := by decide +kernel
theorem dX12_forgetsDraw_45 : decode cX12_forgetsDraw 45 = .ok (.iconst 0, 1) := by decide +kernel
theorem dX12_forgetsDraw_46 : decode cX12_forgetsDraw 46 = .ok (.iastore, 1) := by decide +kernel
theorem dX12_forgetsDraw_47 : decode cX12_forgetsDraw 47 = .ok (.aload_n 0, 1) := by decide +kernel
theorem dX12_forgetsDraw_48 : decode cX12_forgetsDraw 48 = .ok (.getfield 66, 3) := by decide +kernel
theorem dX12_forgetsDraw_51 : decode cX12_forgetsDraw 51 = .ok (.iload_n 1, 1) := by decide +kernel
theorem dX12_forgetsDraw_52 : decode cX12_forgetsDraw 52 = .ok (.iconst 0, 1) := by decide +kernel
theorem dX12_forgetsDraw_53 : decode cX12_forgetsDraw 53 = .ok (.iastore, 1) := by decide +kernel
theorem dX12_forgetsDraw_54 : decode cX12_forgetsDraw 54 = .ok (.return_, 1) := by decide +kernel
set_option maxHeartbeats 4000000 in
set_option maxRecDepth 100000 in
theorem s_X12_forgetsDraw {P : PP} {a0 : Nat} {a1 : Int32} (I : IM P a0) (ha1 : 0 ≤ a1.toInt ∧ a1.toInt ≤ 2) : CtrV yX12_forgetsDraw cX12_forgetsDraw 3 none ({ frames := 1, cells := 0, slots := 0, locals := 64 } : Room) 0 0 P [.ref a0, .int a1] (fun P2 => IM P2 a0 ∧ EM [12, 13, 14, 15, 17] a0 P P2) := by
  refine enV (lv := [(0, .ref a0), (1, .int a1)]) (by decide) (Nat.le_of_ble_eq_true rfl) rfl (fun E D cy C Ci0 ret => ?_)
  have ha0 := I.2.1
  have J2 : ∀ (n2 : Nat) (P2 : PP) (v2_2 : Int32), (21 - v2_2.toInt).toNat < n2 → (IM P2 a0) → (EM [12, 13, 14, 15, 17] a0 P P2) → (0 ≤ v2_2.toInt ∧ v2_2.toInt ≤ 21) → G E ({ frames := 1, cells := 0, slots := 0, locals := 64 } : Room) D cy 3 P2 0 0 2 [(0, .ref a0), (1, .int a1), (2, .int v2_2)] [] := by
    intro n2
    induction n2 with
    | zero => intro P2 v2_2 hm2 I2 X2 hv2_2; omega
    | succ n2 ih2 =>
      intro P2 v2_2 hm2 I2 X2 hv2_2
      have h4039 := X2.at ha0
      refine g_iload_n C dX12_forgetsDraw_2 rfl 2 rfl ?_
      refine g_bipush (v := 21) C dX12_forgetsDraw_3 (by decide) ?_
      refine b_icmp_ge C 26 dX12_forgetsDraw_5 (by decide) (fun h4040 => ?_) (fun h4040 => ?_)
      · have h4040 : 21 ≤ v2_2.toInt := h4040
        refine g_aload_n C dX12_forgetsDraw_26 rfl 0 rfl ?_
        obtain ⟨b4041, e4042, h4043⟩ := I2.fld (h4039) 13 13 3 rfl
        refine g_getR C fi_X12_54 rfl e4042 (h4039).1 (h4039).2 dX12_forgetsDraw_27 ?_
        refine g_iload_n C dX12_forgetsDraw_30 rfl 1 rfl ?_
        refine g_iconst (v := 0) C dX12_forgetsDraw_31 (by decide) ?_
        refine g_iast (j := (a1.toInt.toNat)) C h4043.1 h4043.2.1 (ix_in h4043.2.2 (by omega)) dX12_forgetsDraw_32 ?_
        refine gqW (ks := [13]) (I2.setA e4042 h4043 (by decide) (arOk.none rfl)) (EM.setA I2 e4042 rfl (by decide)) (fun Y4044 Iy4045 Xy4046 w4047 => ?_)
        have w4047 : (pI Y4044 b4041 (a1.toInt.toNat)).toInt = 0 := w4047
        have Xz4048 : EM [12, 13, 14, 15, 17] a0 P Y4044 := EM.tr ha0 X2 (Xy4046.mono (by decide))
        have e4049 := Xy4046.ref h4039 (by decide) e4042
        have h4050 := Xy4046.at h4039
        have h4051 := Xy4046.ar h4043
        refine g_aload_n C dX12_forgetsDraw_33 rfl 0 rfl ?_
        obtain ⟨b4052, e4053, h4054⟩ := Iy4045.fld (h4050) 14 13 3 rfl
        refine g_getR C fi_X12_57 rfl e4053 (h4050).1 (h4050).2 dX12_forgetsDraw_34 ?_
        refine g_iload_n C dX12_forgetsDraw_37 rfl 1 rfl ?_
        refine g_iconst (v := 1) C dX12_forgetsDraw_38 (by decide) ?_
        refine g_iast (j := (a1.toInt.toNat)) C h4054.1 h4054.2.1 (ix_in h4054.2.2 (by omega)) dX12_forgetsDraw_39 ?_
        refine gqW (ks := [14]) (Iy4045.setA e4053 h4054 (by decide) (arOk.of rfl (by decide))) (EM.setA Iy4045 e4053 rfl (by decide)) (fun Y4055 Iy4056 Xy4057 w4058 => ?_)
        have w4058 : (pI Y4055 b4052 (a1.toInt.toNat)).toInt = 1 := w4058
        have q4059 := Xy4057.keepA e4049 (by decide) rfl (a1.toInt.toNat)
        have Xz4060 : EM [12, 13, 14, 15, 17] a0 P Y4055 := EM.tr ha0 Xz4048 (Xy4057.mono (by decide))
        have e4061 := Xy4057.ref h4050 (by decide) e4049
        have e4062 := Xy4057.ref h4050 (by decide) e4053
        have h4063 := Xy4057.at h4050
        have h4064 := Xy4057.ar h4051
        have h4065 := Xy4057.ar h4054
        refine g_aload_n C dX12_forgetsDraw_40 rfl 0 rfl ?_
        obtain ⟨b4066, e4067, h4068⟩ := Iy4056.fld (h4063) 15 13 3 rfl
        refine g_getR C fi_X12_60 rfl e4067 (h4063).1 (h4063).2 dX12_forgetsDraw_41 ?_
        refine g_iload_n C dX12_forgetsDraw_44 rfl 1 rfl ?_
        refine g_iconst (v := 0) C dX12_forgetsDraw_45 (by decide) ?_
        refine g_iast (j := (a1.toInt.toNat)) C h4068.1 h4068.2.1 (ix_in h4068.2.2 (by omega)) dX12_forgetsDraw_46 ?_
        refine gqW (ks := [15]) (Iy4056.setA e4067 h4068 (by decide) (arOk.of rfl (by decide))) (EM.setA Iy4056 e4067 rfl (by decide)) (fun Y4069 Iy4070 Xy4071 w4072 => ?_)
        have w4072 : (pI Y4069 b4066 (a1.toInt.toNat)).toInt = 0 := w4072
        have q4073 := Xy4071.keepA e4061 (by decide) rfl (a1.toInt.toNat)
        have q4074 := Xy4071.keepA e4062 (by decide) rfl (a1.toInt.toNat)
        have Xz4075 : EM [12, 13, 14, 15, 17] a0 P Y4069 := EM.tr ha0 Xz4060 (Xy4071.mono (by decide))
        have e4076 := Xy4071.ref h4063 (by decide) e4061
        have e4077 := Xy4071.ref h4063 (by decide) e4062
        have e4078 := Xy4071.ref h4063 (by decide) e4067
        have h4079 := Xy4071.at h4063
        have h4080 := Xy4071.ar h4064
        have h4081 := Xy4071.ar h4065
        have h4082 := Xy4071.ar h4068
        refine g_aload_n C dX12_forgetsDraw_47 rfl 0 rfl ?_
        obtain ⟨b4083, e4084, h4085⟩ := Iy4070.fld (h4079) 17 13 3 rfl
        refine g_getR C fi_X12_66 rfl e4084 (h4079).1 (h4079).2 dX12_forgetsDraw_48 ?_
        refine g_iload_n C dX12_forgetsDraw_51 rfl 1 rfl ?_
        refine g_iconst (v := 0) C dX12_forgetsDraw_52 (by decide) ?_
        refine g_iast (j := (a1.toInt.toNat)) C h4085.1 h4085.2.1 (ix_in h4085.2.2 (by omega)) dX12_forgetsDraw_53 ?_
        refine gqW (ks := [17]) (Iy4070.setA e4084 h4085 (by decide) (arOk.none rfl)) (EM.setA Iy4070 e4084 rfl (by decide)) (fun Y4086 Iy4087 Xy4088 w4089 => ?_)
        have w4089 : (pI Y4086 b4083 (a1.toInt.toNat)).toInt = 0 := w4089
        have q4090 := Xy4088.keepA e4076 (by decide) rfl (a1.toInt.toNat)
        have q4091 := Xy4088.keepA e4077 (by decide) rfl (a1.toInt.toNat)
        have q4092 := Xy4088.keepA e4078 (by decide) rfl (a1.toInt.toNat)
        have Xz4093 : EM [12, 13, 14, 15, 17] a0 P Y4086 := EM.tr ha0 Xz4075 (Xy4088.mono (by decide))
        have e4094 := Xy4088.ref h4079 (by decide) e4076
        have e4095 := Xy4088.ref h4079 (by decide) e4077
        have e4096 := Xy4088.ref h4079 (by decide) e4078
        have e4097 := Xy4088.ref h4079 (by decide) e4084
        have h4098 := Xy4088.at h4079
        have h4099 := Xy4088.ar h4080
        have h4100 := Xy4088.ar h4081
        have h4101 := Xy4088.ar h4082
        have h4102 := Xy4088.ar h4085
        exact ret _ _ _ _ _ dX12_forgetsDraw_54 (by decide) (by decide) ⟨Iy4087, Xz4093⟩
      · have h4040 : v2_2.toInt < 21 := h4040
        refine g_aload_n C dX12_forgetsDraw_8 rfl 0 rfl ?_
        obtain ⟨b4103, e4104, h4105⟩ := I2.fld (h4039) 12 13 63 rfl
        refine g_getR C fi_X12_51 rfl e4104 (h4039).1 (h4039).2 dX12_forgetsDraw_9 ?_
        refine g_bipush (v := 21) C dX12_forgetsDraw_12 (by decide) ?_
        refine g_iload_n C dX12_forgetsDraw_14 rfl 1 rfl ?_
        refine s_imul C dX12_forgetsDraw_15 (by show -2147483648 ≤ 21 * a1.toInt ∧ 21 * a1.toInt ≤ 2147483647; omega) (fun z4106 h4107 => ?_)
        have h4107 : z4106.toInt = 21 * a1.toInt := h4107
        refine g_iload_n C dX12_forgetsDraw_16 rfl 2 rfl ?_
        refine s_iadd C dX12_forgetsDraw_17 (by show -2147483648 ≤ z4106.toInt + v2_2.toInt ∧ z4106.toInt + v2_2.toInt ≤ 2147483647; omega) (fun z4108 h4109 => ?_)
        have h4109 : z4108.toInt = z4106.toInt + v2_2.toInt := h4109
        refine g_iconst (v := (-1)) C dX12_forgetsDraw_18 (by decide) ?_
        refine g_iast (j := (z4108.toInt.toNat)) C h4105.1 h4105.2.1 (ix_in h4105.2.2 (by omega)) dX12_forgetsDraw_19 ?_
        refine gqW (ks := [12]) (I2.setA e4104 h4105 (by decide) (arOk.none rfl)) (EM.setA I2 e4104 rfl (by decide)) (fun Y4110 Iy4111 Xy4112 w4113 => ?_)
        have w4113 : (pI Y4110 b4103 (z4108.toInt.toNat)).toInt = (-1) := w4113
        have Xz4114 : EM [12, 13, 14, 15, 17] a0 P Y4110 := EM.tr ha0 X2 (Xy4112.mono (by decide))
        have e4115 := Xy4112.ref h4039 (by decide) e4104
        have h4116 := Xy4112.at h4039
        have h4117 := Xy4112.ar h4105
        refine s_iinc (lv0 := [(0, .ref a0), (1, .int a1)]) (m := 1) C dX12_forgetsDraw_20 2 rfl (by decide) rfl (by decide) (by omega) (fun z4118 h4119 => ?_)
        have h4119 : z4118.toInt = v2_2.toInt + 1 := h4119
        refine g_goto C 2 dX12_forgetsDraw_23 (by decide) ?_
        refine g_lv (lv' := [(0, .ref a0), (1, .int a1), (2, .int z4118)]) [1, 2, 0] rfl ?_
        exact ih2 Y4110 z4118 (by omega) Iy4111 Xz4114 (by omega)
  refine g_iconst (v := 0) C dX12_forgetsDraw_0 (by decide) ?_
  refine g_istore_n (lv' := [(2, .int 0), (0, .ref a0), (1, .int a1)]) C dX12_forgetsDraw_1 rfl (by decide) rfl ?_
  refine g_lv (lv' := [(0, .ref a0), (1, .int a1), (2, .int 0)]) [1, 2, 0] rfl ?_
  exact J2 _ P 0 (Nat.lt_succ_self _) I EM.rf (by decide)
theorem dX12_book_64 : decode cX12_book 64 = .ok (.iconst 0, 1) := by decide +kernel
theorem dX12_book_65 : decode cX12_book 65 = .ok (.istore_n 3, 1) := by decide +kernel
theorem dX12_book_66 : decode cX12_book 66 = .ok (.iload_n 3, 1) := by decide +kernel
theorem dX12_book_67 : decode cX12_book 67 = .ok (.iconst 4, 1) := by decide +kernel
theorem dX12_book_68 : decode cX12_book 68 = .ok (.if_icmp .ge 68, 3) := by decide +kernel
theorem dX12_book_71 : decode cX12_book 71 = .ok (.aload_n 0, 1) := by decide +kernel
theorem dX12_book_72 : decode cX12_book 72 = .ok (.getfield 69, 3) := by decide +kernel
theorem dX12_book_75 : decode cX12_book 75 = .ok (.iload_n 3, 1) := by decide +kernel
theorem dX12_book_76 : decode cX12_book 76 = .ok (.iaload, 1) := by decide +kernel
theorem dX12_book_77 : decode cX12_book 77 = .ok (.iconst 1, 1) := by decide +kernel
theorem dX12_book_78 : decode cX12_book 78 = .ok (.isub, 1) := by decide +kernel
theorem dX12_book_79 : decode cX12_book 79 = .ok (.istore 4, 2) := by decide +kernel
theorem dX12_book_81 : decode cX12_book 81 = .ok (.iload 4, 2) := by decide +kernel
theorem dX12_book_83 : decode cX12_book 83 = .ok (.ifCond .lt 47, 3) := by decide +kernel
theorem dX12_book_86 : decode cX12_book 86 = .ok (.aload_n 0, 1) := by decide +kernel
theorem dX12_book_87 : decode cX12_book 87 = .ok (.getfield 75, 3) := by decide +kernel
theorem dX12_book_90 : decode cX12_book 90 = .ok (.bipush 40, 2) := by decide +kernel
theorem dX12_book_92 : decode cX12_book 92 = .ok (.iload_n 3, 1) := by decide +kernel
theorem dX12_book_93 : decode cX12_book 93 = .ok (.imul, 1) := by decide +kernel
theorem dX12_book_94 : decode cX12_book 94 = .ok (.iload 4, 2) := by decide +kernel
theorem dX12_book_96 : decode cX12_book 96 = .ok (.iadd, 1) := by decide +kernel
theorem dX12_book_97 : decode cX12_book 97 = .ok (.iaload, 1) := by decide +kernel
theorem dX12_book_98 : decode cX12_book 98 = .ok (.iload_n 1, 1) := by decide +kernel
theorem dX12_book_99 : decode cX12_book 99 = .ok (.if_icmp .eq 18, 3) := by decide +kernel
theorem dX12_book_102 : decode cX12_book 102 = .ok (.aload_n 0, 1) := by decide +kernel
theorem dX12_book_103 : decode cX12_book 103 = .ok (.getfield 75, 3) := by decide +kernel
theorem dX12_book_106 : decode cX12_book 106 = .ok (.bipush 40, 2) := by decide +kernel
theorem dX12_book_108 : decode cX12_book 108 = .ok (.iload_n 3, 1) := by decide +kernel
theorem dX12_book_109 : decode cX12_book 109 = .ok (.imul, 1) := by decide +kernel
theorem dX12_book_110 : decode cX12_book 110 = .ok (.iload 4, 2) := by decide +kernel
theorem dX12_book_112 : decode cX12_book 112 = .ok (.iadd, 1) := by decide +kernel
theorem dX12_book_113 : decode cX12_book 113 = .ok (.iaload, 1) := by decide +kernel
theorem dX12_book_114 : decode cX12_book 114 = .ok (.ifCond .ge 10, 3) := by decide +kernel
theorem dX12_book_117 : decode cX12_book 117 = .ok (.aload_n 0, 1) := by decide +kernel
theorem dX12_book_118 : decode cX12_book 118 = .ok (.iload_n 3, 1) := by decide +kernel
theorem dX12_book_119 : decode cX12_book 119 = .ok (.iload 4, 2) := by decide +kernel
theorem dX12_book_121 : decode cX12_book 121 = .ok (.invokevirtual 185, 3) := by decide +kernel
theorem dX12_book_124 : decode cX12_book 124 = .ok (.iinc 4 (-1), 3) := by decide +kernel
theorem dX12_book_127 : decode cX12_book 127 = .ok (.goto (-46), 3) := by decide +kernel
theorem dX12_book_130 : decode cX12_book 130 = .ok (.iinc 3 1, 3) := by decide +kernel
theorem dX12_book_133 : decode cX12_book 133 = .ok (.goto (-67), 3) := by decide +kernel
theorem dX12_book_136 : decode cX12_book 136 = .ok (.aload_n 0, 1) := by decide +kernel
theorem dX12_book_137 : decode cX12_book 137 = .ok (.invokevirtual 189, 3) := by decide +kernel
theorem dX12_forgetsMarks_0 : decode cX12_forgetsMarks 0 = .ok (.iconst 0, 1) := by decide +kernel
theorem dX12_forgetsMarks_1 : decode cX12_forgetsMarks 1 = .ok (.istore_n 1, 1) := by decide +kernel
theorem dX12_forgetsMarks_2 : decode cX12_forgetsMarks 2 = .ok (.iload_n 1, 1) := by decide +kernel
theorem dX12_forgetsMarks_3 : decode cX12_forgetsMarks 3 = .ok (.iconst 4, 1) := by decide +kernel
theorem dX12_forgetsMarks_4 : decode cX12_forgetsMarks 4 = .ok (.if_icmp .ge 16, 3) := by decide +kernel
theorem dX12_forgetsMarks_7 : decode cX12_forgetsMarks 7 = .ok (.aload_n 0, 1) := by decide +kernel
theorem dX12_forgetsMarks_8 : decode cX12_forgetsMarks 8 = .ok (.getfield 87, 3) := by decide +kernel
theorem dX12_forgetsMarks_11 : decode cX12_forgetsMarks 11 = .ok (.iload_n 1, 1) := by decide +kernel
theorem dX12_forgetsMarks_12 : decode cX12_forgetsMarks 12 = .ok (.iconst 0, 1) := by decide +kernel
theorem dX12_forgetsMarks_13 : decode cX12_forgetsMarks 13 = .ok (.bastore, 1) := by decide +kernel
theorem dX12_forgetsMarks_14 : decode cX12_forgetsMarks 14 = .ok (.iinc 1 1, 3) := by decide +kernel
theorem dX12_forgetsMarks_17 : decode cX12_forgetsMarks 17 = .ok (.goto (-15), 3) := by decide +kernel
theorem dX12_forgetsMarks_20 : decode cX12_forgetsMarks 20 = .ok (.return_, 1) := by decide +kernel
set_option maxHeartbeats 4000000 in
set_option maxRecDepth 100000 in
theorem s_X12_forgetsMarks {P : PP} {a0 : Nat} (I : IM P a0) : CtrV yX12_forgetsMarks cX12_forgetsMarks 2 none ({ frames := 1, cells := 0, slots := 0, locals := 64 } : Room) 0 0 P [.ref a0] (fun P2 => IM P2 a0 ∧ EM [26] a0 P P2) := by
  refine enV (lv := [(0, .ref a0)]) (by decide) (Nat.le_of_ble_eq_true rfl) rfl (fun E D cy C Ci0 ret => ?_)
  have ha0 := I.2.1
  have J2 : ∀ (n2 : Nat) (P2 : PP) (v2_1 : Int32), (4 - v2_1.toInt).toNat < n2 → (IM P2 a0) → (EM [26] a0 P P2) → (0 ≤ v2_1.toInt ∧ v2_1.toInt ≤ 4) → G E ({ frames := 1, cells := 0, slots := 0, locals := 64 } : Room) D cy 2 P2 0 0 2 [(0, .ref a0), (1, .int v2_1)] [] := by
    intro n2
    induction n2 with
    | zero => intro P2 v2_1 hm2 I2 X2 hv2_1; omega
    | succ n2 ih2 =>
      intro P2 v2_1 hm2 I2 X2 hv2_1
      have h4769 := X2.at ha0
      refine g_iload_n C dX12_forgetsMarks_2 rfl 1 rfl ?_
      refine g_iconst (v := 4) C dX12_forgetsMarks_3 (by decide) ?_
      refine b_icmp_ge C 20 dX12_forgetsMarks_4 (by decide) (fun h4770 => ?_) (fun h4770 => ?_)
      · have h4770 : 4 ≤ v2_1.toInt := h4770
        exact ret _ _ _ _ _ dX12_forgetsMarks_20 (by decide) (by decide) ⟨I2, X2⟩
      · have h4770 : v2_1.toInt < 4 := h4770
        refine g_aload_n C dX12_forgetsMarks_7 rfl 0 rfl ?_
        obtain ⟨b4771, e4772, h4773⟩ := I2.fld (h4769) 26 15 4 rfl
        refine g_getR C fi_X12_87 rfl e4772 (h4769).1 (h4769).2 dX12_forgetsMarks_8 ?_
        refine g_iload_n C dX12_forgetsMarks_11 rfl 1 rfl ?_
        refine g_iconst (v := 0) C dX12_forgetsMarks_12 (by decide) ?_
        refine g_zast (j := (v2_1.toInt.toNat)) C h4773.1 h4773.2.1 (ix_in h4773.2.2 (by omega)) (Or.inl rfl) dX12_forgetsMarks_13 ?_
        refine gqW (ks := [26]) (I2.setA e4772 h4773 (by decide) (arOk.none rfl)) (EM.setA I2 e4772 rfl (by decide)) (fun Y4774 Iy4775 Xy4776 w4777 => ?_)
        have w4777 : (pI Y4774 b4771 (v2_1.toInt.toNat)).toInt = 0 := w4777
        have Xz4778 : EM [26] a0 P Y4774 := EM.tr ha0 X2 (Xy4776.mono (by decide))
        have e4779 := Xy4776.ref h4769 (by decide) e4772
        have h4780 := Xy4776.at h4769
        have h4781 := Xy4776.ar h4773
        refine s_iinc (lv0 := [(0, .ref a0)]) (m := 1) C dX12_forgetsMarks_14 1 rfl (by decide) rfl (by decide) (by omega) (fun z4782 h4783 => ?_)
        have h4783 : z4782.toInt = v2_1.toInt + 1 := h4783
        refine g_goto C 2 dX12_forgetsMarks_17 (by decide) ?_
        refine g_lv (lv' := [(0, .ref a0), (1, .int z4782)]) [1, 0] rfl ?_
        exact ih2 Y4774 z4782 (by omega) Iy4775 Xz4778 (by omega)
  refine g_iconst (v := 0) C dX12_forgetsMarks_0 (by decide) ?_
  refine g_istore_n (lv' := [(1, .int 0), (0, .ref a0)]) C dX12_forgetsMarks_1 rfl (by decide) rfl ?_
  refine g_lv (lv' := [(0, .ref a0), (1, .int 0)]) [1, 0] rfl ?_
  exact J2 _ P 0 (Nat.lt_succ_self _) I EM.rf (by decide)
theorem dX12_book_140 : decode cX12_book 140 = .ok (.iconst 1, 1) := by decide +kernel
theorem dX12_book_141 : decode cX12_book 141 = .ok (.ireturn, 1) := by decide +kernel
set_option maxHeartbeats 4000000 in
set_option maxRecDepth 100000 in
theorem s_X12_book {P : PP} {a0 : Nat} {a1 : Int32} {a2 : Int32} (I : IM P a0) : CtrI yX12_book cX12_book 5 (some Jvm.ClassFile.FieldType.boolean) ({ frames := 3, cells := 0, slots := 0, locals := 192 } : Room) 0 0 P [.ref a0, .int a1, .int a2] (fun r P2 => IM P2 a0 ∧ EM [0, 10, 11, 12, 13, 14, 15, 17, 20, 21, 22, 23, 24, 25, 26] a0 P P2 ∧ (0 ≤ r.toInt ∧ r.toInt ≤ 1) ∧ (r.toInt = 0 ∨ (((0 : Int) ≤ a1.toInt ∧ a1.toInt ≤ (1 : Int))))) := by
  refine enI (lv := [(0, .ref a0), (1, .int a1), (2, .int a2)]) (by decide) (Nat.le_of_ble_eq_true rfl) rfl (fun E D cy C Ci0 ret => ?_)
  have ha0 := I.2.1
  have J66 : ∀ (n66 : Nat) (P66 : PP) (v66_3 : Int32), (4 - v66_3.toInt).toNat < n66 → (IM P66 a0) → (EM [0, 10, 11, 12, 13, 14, 15, 17, 20, 21, 22, 23, 24, 25, 26] a0 P P66) → (0 ≤ a1.toInt ∧ a1.toInt ≤ 1) → (0 ≤ v66_3.toInt ∧ v66_3.toInt ≤ 4) → (0 ≤ (pI P66 a0 0).toInt ∧ (pI P66 a0 0).toInt ≤ 0) → (∀ b, pR P66 a0 10 = some b → 1 ≤ (pI P66 b (a1.toInt.toNat)).toInt ∧ (pI P66 b (a1.toInt.toNat)).toInt ≤ 16) → G E ({ frames := 3, cells := 0, slots := 0, locals := 192 } : Room) D cy 5 P66 0 0 66 [(0, .ref a0), (1, .int a1), (3, .int v66_3)] [] := by
    intro n66
    induction n66 with
    | zero => intro P66 v66_3 hm66 I66 X66 hv66_1 hv66_3 hq66_0 hq66_1; omega
    | succ n66 ih66 =>
      intro P66 v66_3 hm66 I66 X66 hv66_1 hv66_3 hq66_0 hq66_1
      have h5408 := X66.at ha0
      obtain ⟨b5409, e5410, h5411⟩ := I66.fld (h5408) 10 13 2 rfl
      have hq66_1 := hq66_1 b5409 e5410
      have J81 : ∀ (n81 : Nat) (P81 : PP) (v81_4 : Int32), (v81_4.toInt - (-1)).toNat < n81 → (IM P81 a0) → (EM [0, 10, 11, 12, 13, 14, 15, 17, 20, 21, 22, 23, 24, 25, 26] a0 P P81) → (0 ≤ a1.toInt ∧ a1.toInt ≤ 1) → (0 ≤ v66_3.toInt ∧ v66_3.toInt ≤ 3) → (-1 ≤ v81_4.toInt ∧ v81_4.toInt ≤ 39) → (0 ≤ (pI P81 a0 0).toInt ∧ (pI P81 a0 0).toInt ≤ 0) → (∀ b, pR P81 a0 10 = some b → 1 ≤ (pI P81 b (a1.toInt.toNat)).toInt ∧ (pI P81 b (a1.toInt.toNat)).toInt ≤ 16) → (∀ b920, pR P81 a0 20 = some b920 → v81_4.toInt < (pI P81 b920 (v66_3.toInt.toNat)).toInt) → G E ({ frames := 3, cells := 0, slots := 0, locals := 192 } : Room) D cy 5 P81 0 0 81 [(0, .ref a0), (1, .int a1), (3, .int v66_3), (4, .int v81_4)] [] := by
        intro n81
        induction n81 with
        | zero => intro P81 v81_4 hm81 I81 X81 hv81_1 hv81_3 hv81_4 hq81_0 hq81_1 rel81_0; omega
        | succ n81 ih81 =>
          intro P81 v81_4 hm81 I81 X81 hv81_1 hv81_3 hv81_4 hq81_0 hq81_1 rel81_0
          have h5412 := X81.at ha0
          obtain ⟨b5413, e5414, h5415⟩ := I81.fld (h5412) 10 13 2 rfl
          have hq81_1 := hq81_1 b5413 e5414
          obtain ⟨b5416, e5417, h5418⟩ := I81.fld (h5412) 20 13 20 rfl
          have rel81_0 := rel81_0 b5416 e5417
          have h5419 := I81.arr e5417 rfl (v66_3.toInt.toNat)
          have J124 : ∀ (P124 : PP), (IM P124 a0) → (EM [0, 10, 11, 12, 13, 14, 15, 17, 20, 21, 22, 23, 24, 25, 26] a0 P P124) → (0 ≤ a1.toInt ∧ a1.toInt ≤ 1) → (0 ≤ v66_3.toInt ∧ v66_3.toInt ≤ 3) → (0 ≤ v81_4.toInt ∧ v81_4.toInt ≤ 39) → (0 ≤ (pI P124 a0 0).toInt ∧ (pI P124 a0 0).toInt ≤ 0) → (∀ b, pR P124 a0 10 = some b → 1 ≤ (pI P124 b (a1.toInt.toNat)).toInt ∧ (pI P124 b (a1.toInt.toNat)).toInt ≤ 16) → (∀ b920, pR P124 a0 20 = some b920 → v81_4.toInt ≤ (pI P124 b920 (v66_3.toInt.toNat)).toInt) → G E ({ frames := 3, cells := 0, slots := 0, locals := 192 } : Room) D cy 5 P124 0 0 124 [(0, .ref a0), (1, .int a1), (3, .int v66_3), (4, .int v81_4)] [] := by
            intro P124 I124 X124 hv124_1 hv124_3 hv124_4 hq124_0 hq124_1 rel124_0
            have h5420 := X124.at ha0
            obtain ⟨b5421, e5422, h5423⟩ := I124.fld (h5420) 10 13 2 rfl
            have hq124_1 := hq124_1 b5421 e5422
            obtain ⟨b5424, e5425, h5426⟩ := I124.fld (h5420) 20 13 20 rfl
            have rel124_0 := rel124_0 b5424 e5425
            have h5427 := I124.arr e5425 rfl (v66_3.toInt.toNat)
            refine s_iinc (lv0 := [(0, .ref a0), (1, .int a1), (3, .int v66_3)]) (m := -1) C dX12_book_124 3 rfl (by decide) rfl (by decide) (by omega) (fun z5428 h5429 => ?_)
            have h5429 : z5428.toInt = v81_4.toInt + (-1) := h5429
            refine g_goto C 81 dX12_book_127 (by decide) ?_
            refine g_lv (lv' := [(0, .ref a0), (1, .int a1), (3, .int v66_3), (4, .int z5428)]) [1, 2, 3, 0] rfl ?_
            exact ih81 P124 z5428 (by omega) I124 X124 (by omega) (by omega) (by omega) (by omega) (fun b9 e9 => by rw [e5422] at e9; cases e9; omega) (by intro b920 e920; rw [e5425] at e920; cases e920; show z5428.toInt < (pI P124 b5424 (v66_3.toInt.toNat)).toInt; omega)
          have J117 : (0 ≤ a1.toInt ∧ a1.toInt ≤ 1) → (0 ≤ v66_3.toInt ∧ v66_3.toInt ≤ 3) → (0 ≤ v81_4.toInt ∧ v81_4.toInt ≤ 39) → (0 ≤ (pI P81 a0 0).toInt ∧ (pI P81 a0 0).toInt ≤ 0) → (∀ b, pR P81 a0 10 = some b → 1 ≤ (pI P81 b (a1.toInt.toNat)).toInt ∧ (pI P81 b (a1.toInt.toNat)).toInt ≤ 16) → (∀ b920, pR P81 a0 20 = some b920 → v81_4.toInt < (pI P81 b920 (v66_3.toInt.toNat)).toInt) → G E ({ frames := 3, cells := 0, slots := 0, locals := 192 } : Room) D cy 5 P81 0 0 117 [(0, .ref a0), (1, .int a1), (3, .int v66_3), (4, .int v81_4)] [] := by
            intro hv117_1 hv117_3 hv117_4 hq117_0 hq117_1 rel117_0
            have h5430 := X81.at ha0
            obtain ⟨b5431, e5432, h5433⟩ := I81.fld (h5430) 10 13 2 rfl
            have hq117_1 := hq117_1 b5431 e5432
            obtain ⟨b5434, e5435, h5436⟩ := I81.fld (h5430) 20 13 20 rfl
            have rel117_0 := rel117_0 b5434 e5435
            have h5437 := I81.arr e5435 rfl (v66_3.toInt.toNat)
            refine g_aload_n C dX12_book_117 rfl 0 rfl ?_
            refine g_iload_n C dX12_book_118 rfl 2 rfl ?_
            refine g_iload C dX12_book_119 3 rfl ?_
            refine g_callVV (rest := []) C mv_X12_185 [.int v66_3, .int v81_4] (s_X12_takesOut I81 (by omega) (by omega) (fun b9 e9 => by rw [e5435] at e9; cases e9; show 1 ≤ (pI P81 b5434 (v66_3.toInt.toNat)).toInt ∧ (pI P81 b5434 (v66_3.toInt.toNat)).toInt ≤ 40; omega)) (h5430).1 (h5430).2 rfl rfl (by decide) (Nat.le_of_ble_eq_true rfl) (by decide) dX12_book_121 (fun Y5439 h5440 => ?_)
            obtain ⟨Iy5441, Xy5442, p5443⟩ := h5440
            have p5443 := p5443 b5434 e5435
            have p5443 : (pI Y5439 b5434 (v66_3.toInt.toNat)).toInt = (pI P81 b5434 (v66_3.toInt.toNat)).toInt - 1 := p5443
            have q5444 := Xy5442.keepF 0 (by decide)
            have q5445 := Xy5442.keepA e5432 (by decide) rfl (a1.toInt.toNat)
            have Xz5446 : EM [0, 10, 11, 12, 13, 14, 15, 17, 20, 21, 22, 23, 24, 25, 26] a0 P Y5439 := EM.tr ha0 X81 (Xy5442.mono (by decide))
            have e5447 := Xy5442.ref h5430 (by decide) e5432
            have e5448 := Xy5442.ref h5430 (by decide) e5435
            have h5449 := Xy5442.at h5430
            have h5450 := Xy5442.ar h5433
            have h5451 := Xy5442.ar h5436
            exact J124 Y5439 Iy5441 Xz5446 (by omega) (by omega) (by omega) (by omega) (fun b9 e9 => by rw [e5447] at e9; cases e9; omega) (by intro b920 e920; rw [e5448] at e920; cases e920; show v81_4.toInt ≤ (pI Y5439 b5434 (v66_3.toInt.toNat)).toInt; omega)
          refine g_iload C dX12_book_81 3 rfl ?_
          refine b_if_lt C 130 dX12_book_83 (by decide) (fun h5452 => ?_) (fun h5452 => ?_)
          · have h5452 : v81_4.toInt < 0 := h5452
            refine s_iinc (lv0 := [(0, .ref a0), (1, .int a1), (4, .int v81_4)]) (m := 1) C dX12_book_130 2 rfl (by decide) rfl (by decide) (by omega) (fun z5453 h5454 => ?_)
            have h5454 : z5453.toInt = v66_3.toInt + 1 := h5454
            refine g_goto C 66 dX12_book_133 (by decide) ?_
            refine g_lv (lv' := [(0, .ref a0), (1, .int a1), (3, .int z5453)]) [1, 2, 0] rfl ?_
            exact ih66 P81 z5453 (by omega) I81 X81 (by omega) (by omega) (by omega) (fun b9 e9 => by rw [e5414] at e9; cases e9; omega)
          · have h5452 : 0 ≤ v81_4.toInt := h5452
            refine g_aload_n C dX12_book_86 rfl 0 rfl ?_
            obtain ⟨b5455, e5456, h5457⟩ := I81.fld (h5412) 22 13 800 rfl
            refine g_getR C fi_X12_75 rfl e5456 (h5412).1 (h5412).2 dX12_book_87 ?_
            refine g_bipush (v := 40) C dX12_book_90 (by decide) ?_
            refine g_iload_n C dX12_book_92 rfl 2 rfl ?_
            refine s_imul C dX12_book_93 (by show -2147483648 ≤ 40 * v66_3.toInt ∧ 40 * v66_3.toInt ≤ 2147483647; omega) (fun z5458 h5459 => ?_)
            have h5459 : z5458.toInt = 40 * v66_3.toInt := h5459
            refine g_iload C dX12_book_94 3 rfl ?_
            refine s_iadd C dX12_book_96 (by show -2147483648 ≤ z5458.toInt + v81_4.toInt ∧ z5458.toInt + v81_4.toInt ≤ 2147483647; omega) (fun z5460 h5461 => ?_)
            have h5461 : z5460.toInt = z5458.toInt + v81_4.toInt := h5461
            refine g_iald (j := (z5460.toInt.toNat)) C h5457.1 h5457.2.1 (ix_in h5457.2.2 (by omega)) dX12_book_97 ?_
            have h5462 := I81.arr e5456 rfl (z5460.toInt.toNat)
            refine g_iload_n C dX12_book_98 rfl 1 rfl ?_
            refine b_icmp_eq C 117 dX12_book_99 (by decide) (fun h5463 => ?_) (fun h5463 => ?_)
            · have h5463 : (pI P81 b5455 (z5460.toInt.toNat)).toInt = a1.toInt := congrArg Int32.toInt h5463
              exact J117 (by omega) (by omega) (by omega) (by omega) (fun b9 e9 => by rw [e5414] at e9; cases e9; omega) (by intro b920 e920; rw [e5417] at e920; cases e920; show v81_4.toInt < (pI P81 b5416 (v66_3.toInt.toNat)).toInt; omega)
            · have h5463 : (pI P81 b5455 (z5460.toInt.toNat)).toInt ≠ a1.toInt := ti_ne h5463
              refine g_aload_n C dX12_book_102 rfl 0 rfl ?_
              refine g_getR C fi_X12_75 rfl e5456 (h5412).1 (h5412).2 dX12_book_103 ?_
              refine g_bipush (v := 40) C dX12_book_106 (by decide) ?_
              refine g_iload_n C dX12_book_108 rfl 2 rfl ?_
              refine s_imul C dX12_book_109 (by show -2147483648 ≤ 40 * v66_3.toInt ∧ 40 * v66_3.toInt ≤ 2147483647; omega) (fun z5464 h5465 => ?_)
              have h5465 : z5464.toInt = 40 * v66_3.toInt := h5465
              refine g_iload C dX12_book_110 3 rfl ?_
              refine s_iadd C dX12_book_112 (by show -2147483648 ≤ z5464.toInt + v81_4.toInt ∧ z5464.toInt + v81_4.toInt ≤ 2147483647; omega) (fun z5466 h5467 => ?_)
              have h5467 : z5466.toInt = z5464.toInt + v81_4.toInt := h5467
              refine g_iald (j := (z5466.toInt.toNat)) C h5457.1 h5457.2.1 (ix_in h5457.2.2 (by omega)) dX12_book_113 ?_
              have h5468 := I81.arr e5456 rfl (z5466.toInt.toNat)
              refine b_if_ge C 124 dX12_book_114 (by decide) (fun h5469 => ?_) (fun h5469 => ?_)
              · have h5469 : 0 ≤ (pI P81 b5455 (z5466.toInt.toNat)).toInt := h5469
                exact J124 P81 I81 X81 (by omega) (by omega) (by omega) (by omega) (fun b9 e9 => by rw [e5414] at e9; cases e9; omega) (by intro b920 e920; rw [e5417] at e920; cases e920; show v81_4.toInt ≤ (pI P81 b5416 (v66_3.toInt.toNat)).toInt; omega)
              · have h5469 : (pI P81 b5455 (z5466.toInt.toNat)).toInt < 0 := h5469
                exact J117 (by omega) (by omega) (by omega) (by omega) (fun b9 e9 => by rw [e5414] at e9; cases e9; omega) (by intro b920 e920; rw [e5417] at e920; cases e920; show v81_4.toInt < (pI P81 b5416 (v66_3.toInt.toNat)).toInt; omega)
      refine g_iload_n C dX12_book_66 rfl 2 rfl ?_
      refine g_iconst (v := 4) C dX12_book_67 (by decide) ?_
      refine b_icmp_ge C 136 dX12_book_68 (by decide) (fun h5470 => ?_) (fun h5470 => ?_)
      · have h5470 : 4 ≤ v66_3.toInt := h5470
        refine g_aload_n C dX12_book_136 rfl 0 rfl ?_
        refine g_callVV (rest := []) C mv_X12_189 [] (s_X12_forgetsMarks I66) (h5408).1 (h5408).2 rfl rfl (by decide) (Nat.le_of_ble_eq_true rfl) (by decide) dX12_book_137 (fun Y5472 h5473 => ?_)
        obtain ⟨Iy5474, Xy5475⟩ := h5473
        have q5476 := Xy5475.keepF 0 (by decide)
        have q5477 := Xy5475.keepA e5410 (by decide) rfl (a1.toInt.toNat)
        have Xz5478 : EM [0, 10, 11, 12, 13, 14, 15, 17, 20, 21, 22, 23, 24, 25, 26] a0 P Y5472 := EM.tr ha0 X66 (Xy5475.mono (by decide))
        have e5479 := Xy5475.ref h5408 (by decide) e5410
        have h5480 := Xy5475.at h5408
        have h5481 := Xy5475.ar h5411
        refine g_iconst (v := 1) C dX12_book_140 (by decide) ?_
        exact ret _ _ _ _ _ _ dX12_book_141 rfl (by decide) (by decide) ⟨Iy5474, Xz5478, (by decide), Or.inr (by omega)⟩
      · have h5470 : v66_3.toInt < 4 := h5470
        refine g_aload_n C dX12_book_71 rfl 0 rfl ?_
        obtain ⟨b5482, e5483, h5484⟩ := I66.fld (h5408) 20 13 20 rfl
        refine g_getR C fi_X12_69 rfl e5483 (h5408).1 (h5408).2 dX12_book_72 ?_
        refine g_iload_n C dX12_book_75 rfl 2 rfl ?_
        refine g_iald (j := (v66_3.toInt.toNat)) C h5484.1 h5484.2.1 (ix_in h5484.2.2 (by omega)) dX12_book_76 ?_
        have h5485 := I66.arr e5483 rfl (v66_3.toInt.toNat)
        refine g_iconst (v := 1) C dX12_book_77 (by decide) ?_
        refine s_isub C dX12_book_78 (by show -2147483648 ≤ (pI P66 b5482 (v66_3.toInt.toNat)).toInt - 1 ∧ (pI P66 b5482 (v66_3.toInt.toNat)).toInt - 1 ≤ 2147483647; omega) (fun z5486 h5487 => ?_)
        have h5487 : z5486.toInt = (pI P66 b5482 (v66_3.toInt.toNat)).toInt - 1 := h5487
        refine g_istore (lv' := [(4, .int z5486), (0, .ref a0), (1, .int a1), (3, .int v66_3)]) C dX12_book_79 (by decide) rfl ?_
        refine g_lv (lv' := [(0, .ref a0), (1, .int a1), (3, .int v66_3), (4, .int z5486)]) [1, 2, 3, 0] rfl ?_
        exact J81 _ P66 z5486 (Nat.lt_succ_self _) I66 X66 (by omega) (by omega) (by omega) (by omega) (fun b9 e9 => by rw [e5410] at e9; cases e9; omega) (by intro b920 e920; rw [e5483] at e920; cases e920; show z5486.toInt < (pI P66 b5482 (v66_3.toInt.toNat)).toInt; omega)
  have J35 : ∀ (n35 : Nat) (P35 : PP) (v35_3 : Int32), (16 - v35_3.toInt).toNat < n35 → (IM P35 a0) → (EM [0, 10, 11, 12, 13, 14, 15, 17, 20, 21, 22, 23, 24, 25, 26] a0 P P35) → (0 ≤ a1.toInt ∧ a1.toInt ≤ 1) → (0 ≤ v35_3.toInt ∧ v35_3.toInt ≤ 16) → (0 ≤ (pI P35 a0 0).toInt ∧ (pI P35 a0 0).toInt ≤ 0) → (∀ b, pR P35 a0 10 = some b → 1 ≤ (pI P35 b (a1.toInt.toNat)).toInt ∧ (pI P35 b (a1.toInt.toNat)).toInt ≤ 16) → G E ({ frames := 3, cells := 0, slots := 0, locals := 192 } : Room) D cy 5 P35 0 0 35 [(0, .ref a0), (1, .int a1), (3, .int v35_3)] [] := by
    intro n35
    induction n35 with
    | zero => intro P35 v35_3 hm35 I35 X35 hv35_1 hv35_3 hq35_0 hq35_1; omega
    | succ n35 ih35 =>
      intro P35 v35_3 hm35 I35 X35 hv35_1 hv35_3 hq35_0 hq35_1
      have h5488 := X35.at ha0
      obtain ⟨b5489, e5490, h5491⟩ := I35.fld (h5488) 10 13 2 rfl
      have hq35_1 := hq35_1 b5489 e5490
      refine g_iload_n C dX12_book_35 rfl 2 rfl ?_
      refine g_bipush (v := 16) C dX12_book_36 (by decide) ?_
      refine b_icmp_ge C 59 dX12_book_38 (by decide) (fun h5492 => ?_) (fun h5492 => ?_)
      · have h5492 : 16 ≤ v35_3.toInt := h5492
        refine g_aload_n C dX12_book_59 rfl 0 rfl ?_
        refine g_iload_n C dX12_book_60 rfl 1 rfl ?_
        refine g_callVV (rest := []) C mv_X12_182 [.int a1] (s_X12_forgetsDraw I35 (by omega)) (h5488).1 (h5488).2 rfl rfl (by decide) (Nat.le_of_ble_eq_true rfl) (by decide) dX12_book_61 (fun Y5494 h5495 => ?_)
        obtain ⟨Iy5496, Xy5497⟩ := h5495
        have q5498 := Xy5497.keepF 0 (by decide)
        have q5499 := Xy5497.keepA e5490 (by decide) rfl (a1.toInt.toNat)
        have Xz5500 : EM [0, 10, 11, 12, 13, 14, 15, 17, 20, 21, 22, 23, 24, 25, 26] a0 P Y5494 := EM.tr ha0 X35 (Xy5497.mono (by decide))
        have e5501 := Xy5497.ref h5488 (by decide) e5490
        have h5502 := Xy5497.at h5488
        have h5503 := Xy5497.ar h5491
        refine g_iconst (v := 0) C dX12_book_64 (by decide) ?_
        refine g_istore_n (lv' := [(3, .int 0), (0, .ref a0), (1, .int a1)]) C dX12_book_65 rfl (by decide) rfl ?_
        refine g_lv (lv' := [(0, .ref a0), (1, .int a1), (3, .int 0)]) [1, 2, 0] rfl ?_
        exact J66 _ Y5494 0 (Nat.lt_succ_self _) Iy5496 Xz5500 (by omega) (by decide) (by omega) (fun b9 e9 => by rw [e5501] at e9; cases e9; omega)
      · have h5492 : v35_3.toInt < 16 := h5492
        refine g_aload_n C dX12_book_41 rfl 0 rfl ?_
        obtain ⟨b5504, e5505, h5506⟩ := I35.fld (h5488) 11 13 32 rfl
        refine g_getR C fi_X12_48 rfl e5505 (h5488).1 (h5488).2 dX12_book_42 ?_
        refine g_bipush (v := 16) C dX12_book_45 (by decide) ?_
        refine g_iload_n C dX12_book_47 rfl 1 rfl ?_
        refine s_imul C dX12_book_48 (by show -2147483648 ≤ 16 * a1.toInt ∧ 16 * a1.toInt ≤ 2147483647; omega) (fun z5507 h5508 => ?_)
        have h5508 : z5507.toInt = 16 * a1.toInt := h5508
        refine g_iload_n C dX12_book_49 rfl 2 rfl ?_
        refine s_iadd C dX12_book_50 (by show -2147483648 ≤ z5507.toInt + v35_3.toInt ∧ z5507.toInt + v35_3.toInt ≤ 2147483647; omega) (fun z5509 h5510 => ?_)
        have h5510 : z5509.toInt = z5507.toInt + v35_3.toInt := h5510
        refine g_iconst (v := 0) C dX12_book_51 (by decide) ?_
        refine g_iast (j := (z5509.toInt.toNat)) C h5506.1 h5506.2.1 (ix_in h5506.2.2 (by omega)) dX12_book_52 ?_
        refine gqW (ks := [11]) (I35.setA e5505 h5506 (by decide) (arOk.none rfl)) (EM.setA I35 e5505 rfl (by decide)) (fun Y5511 Iy5512 Xy5513 w5514 => ?_)
        have w5514 : (pI Y5511 b5504 (z5509.toInt.toNat)).toInt = 0 := w5514
        have q5515 := Xy5513.keepF 0 (by decide)
        have q5516 := Xy5513.keepA e5490 (by decide) rfl (a1.toInt.toNat)
        have Xz5517 : EM [0, 10, 11, 12, 13, 14, 15, 17, 20, 21, 22, 23, 24, 25, 26] a0 P Y5511 := EM.tr ha0 X35 (Xy5513.mono (by decide))
        have e5518 := Xy5513.ref h5488 (by decide) e5490
        have e5519 := Xy5513.ref h5488 (by decide) e5505
        have h5520 := Xy5513.at h5488
        have h5521 := Xy5513.ar h5491
        have h5522 := Xy5513.ar h5506
        refine s_iinc (lv0 := [(0, .ref a0), (1, .int a1)]) (m := 1) C dX12_book_53 2 rfl (by decide) rfl (by decide) (by omega) (fun z5523 h5524 => ?_)
        have h5524 : z5523.toInt = v35_3.toInt + 1 := h5524
        refine g_goto C 35 dX12_book_56 (by decide) ?_
        refine g_lv (lv' := [(0, .ref a0), (1, .int a1), (3, .int z5523)]) [1, 2, 0] rfl ?_
        exact ih35 Y5511 z5523 (by omega) Iy5512 Xz5517 (by omega) (by omega) (by omega) (fun b9 e9 => by rw [e5518] at e9; cases e9; omega)
  have J24 : ∀ (P24 : PP), (IM P24 a0) → (EM [0, 10, 11, 12, 13, 14, 15, 17, 20, 21, 22, 23, 24, 25, 26] a0 P P24) → (0 ≤ (pI P24 a0 0).toInt ∧ (pI P24 a0 0).toInt ≤ 0) → G E ({ frames := 3, cells := 0, slots := 0, locals := 192 } : Room) D cy 5 P24 0 0 24 [] [] := by
    intro P24 I24 X24 hq24_0
    have h5525 := X24.at ha0
    refine g_iconst (v := 0) C dX12_book_24 (by decide) ?_
    exact ret _ _ _ _ _ _ dX12_book_25 rfl (by decide) (by decide) ⟨I24, X24, (by decide), Or.inl rfl⟩
  refine g_aload_n C dX12_book_0 rfl 0 rfl ?_
  refine g_iconst (v := 0) C dX12_book_1 (by decide) ?_
  refine g_putI C fi_X12_1 rfl (ha0).1 (ha0).2 dX12_book_2 ?_
  refine gqW (ks := [0]) (I.setI (rgOk.of rfl (by decide))) (EM.setI I (by decide)) (fun Y5526 Iy5527 Xy5528 w5529 => ?_)
  have w5529 : (pI Y5526 a0 0).toInt = 0 := w5529
  have Xz5530 : EM [0, 10, 11, 12, 13, 14, 15, 17, 20, 21, 22, 23, 24, 25, 26] a0 P Y5526 := Xy5528.mono (by decide)
  have h5531 := Xy5528.at ha0
  refine g_iload_n C dX12_book_5 rfl 1 rfl ?_
  refine g_iconst (v := 0) C dX12_book_6 (by decide) ?_
  refine g_iconst (v := 1) C dX12_book_7 (by decide) ?_
  refine g_callSI (b := 0) (ci := 0) (rest := []) C ms_X12_178 [.int a1, .int 0, .int 1] (s_X12_within Iy5527.1) rfl rfl (by decide) (Nat.le_of_ble_eq_true rfl) (by decide) dX12_book_8 (fun r5532 Y5533 h5534 => ?_)
  obtain ⟨rfl, h5534⟩ := h5534
  obtain ⟨h5534, hi5535⟩ := h5534
  have hi5535 : r5532.toInt = 0 ∨ (0 ≤ a1.toInt ∧ a1.toInt ≤ 1) := hi5535
  have h5534 : 0 ≤ r5532.toInt ∧ r5532.toInt ≤ 1 := h5534
  refine b_if_eq C 24 dX12_book_11 (by decide) (fun h5536 => ?_) (fun h5536 => ?_)
  · have h5536 : r5532.toInt = 0 := congrArg Int32.toInt h5536
    clear hi5535
    refine g_lv (lv' := []) [] rfl ?_
    exact J24 Y5526 Iy5527 Xz5530 (by omega)
  · have h5536 : r5532.toInt ≠ 0 := ti_ne h5536
    replace hi5535 := hi5535.resolve_left (by omega)
    refine g_iload_n C dX12_book_14 rfl 2 rfl ?_
    refine g_iconst (v := 1) C dX12_book_15 (by decide) ?_
    refine g_bipush (v := 16) C dX12_book_16 (by decide) ?_
    refine g_callSI (b := 0) (ci := 0) (rest := []) C ms_X12_178 [.int a2, .int 1, .int 16] (s_X12_within Iy5527.1) rfl rfl (by decide) (Nat.le_of_ble_eq_true rfl) (by decide) dX12_book_18 (fun r5537 Y5538 h5539 => ?_)
    obtain ⟨rfl, h5539⟩ := h5539
    obtain ⟨h5539, hi5540⟩ := h5539
    have hi5540 : r5537.toInt = 0 ∨ (1 ≤ a2.toInt ∧ a2.toInt ≤ 16) := hi5540
    have h5539 : 0 ≤ r5537.toInt ∧ r5537.toInt ≤ 1 := h5539
    refine b_if_ne C 26 dX12_book_21 (by decide) (fun h5541 => ?_) (fun h5541 => ?_)
    · have h5541 : r5537.toInt ≠ 0 := ti_ne h5541
      replace hi5540 := hi5540.resolve_left (by omega)
      refine g_aload_n C dX12_book_26 rfl 0 rfl ?_
      obtain ⟨b5542, e5543, h5544⟩ := Iy5527.fld (h5531) 10 13 2 rfl
      refine g_getR C fi_X12_45 rfl e5543 (h5531).1 (h5531).2 dX12_book_27 ?_
      refine g_iload_n C dX12_book_30 rfl 1 rfl ?_
      refine g_iload_n C dX12_book_31 rfl 2 rfl ?_
      refine g_iast (j := (a1.toInt.toNat)) C h5544.1 h5544.2.1 (ix_in h5544.2.2 (by omega)) dX12_book_32 ?_
      refine gqW (ks := [10]) (Iy5527.setA e5543 h5544 (by decide) (arOk.of rfl (by omega))) (EM.setA Iy5527 e5543 rfl (by decide)) (fun Y5545 Iy5546 Xy5547 w5548 => ?_)
      have w5548 : (pI Y5545 b5542 (a1.toInt.toNat)).toInt = a2.toInt := w5548
      have q5549 := Xy5547.keepF 0 (by decide)
      have Xz5550 : EM [0, 10, 11, 12, 13, 14, 15, 17, 20, 21, 22, 23, 24, 25, 26] a0 P Y5545 := EM.tr ha0 Xz5530 (Xy5547.mono (by decide))
      have e5551 := Xy5547.ref h5531 (by decide) e5543
      have h5552 := Xy5547.at h5531
      have h5553 := Xy5547.ar h5544
      refine g_iconst (v := 0) C dX12_book_33 (by decide) ?_
      refine g_istore_n (lv' := [(3, .int 0), (0, .ref a0), (1, .int a1), (2, .int a2)]) C dX12_book_34 rfl (by decide) rfl ?_
      refine g_lv (lv' := [(0, .ref a0), (1, .int a1), (3, .int 0)]) [1, 2, 0] rfl ?_
      exact J35 _ Y5545 0 (Nat.lt_succ_self _) Iy5546 Xz5550 (by omega) (by decide) (by omega) (fun b9 e9 => by rw [e5551] at e9; cases e9; omega)
    · have h5541 : r5537.toInt = 0 := congrArg Int32.toInt h5541
      clear hi5540
      refine g_lv (lv' := []) [] rfl ?_
      exact J24 Y5526 Iy5527 Xz5530 (by omega)
theorem dX12_byteOf_0 : decode cX12_byteOf 0 = .ok (.iload_n 0, 1) := by decide +kernel
theorem dX12_byteOf_1 : decode cX12_byteOf 1 = .ok (.bipush 8, 2) := by decide +kernel
theorem dX12_byteOf_3 : decode cX12_byteOf 3 = .ok (.iload_n 1, 1) := by decide +kernel
theorem dX12_byteOf_4 : decode cX12_byteOf 4 = .ok (.imul, 1) := by decide +kernel
theorem dX12_byteOf_5 : decode cX12_byteOf 5 = .ok (.ishr, 1) := by decide +kernel
theorem dX12_byteOf_6 : decode cX12_byteOf 6 = .ok (.sipush 255, 3) := by decide +kernel
theorem dX12_byteOf_9 : decode cX12_byteOf 9 = .ok (.iand, 1) := by decide +kernel
theorem dX12_byteOf_10 : decode cX12_byteOf 10 = .ok (.ireturn, 1) := by decide +kernel
set_option maxHeartbeats 4000000 in
set_option maxRecDepth 100000 in
theorem s_X12_byteOf {P : PP} {a0 : Int32} {a1 : Int32} (I : IV P) : CtrI yX12_byteOf cX12_byteOf 2 (some Jvm.ClassFile.FieldType.int) ({ frames := 1, cells := 0, slots := 0, locals := 64 } : Room) 0 0 P [.int a0, .int a1] (fun r P2 => P = P2 ∧ (0 ≤ r.toInt ∧ r.toInt ≤ 255)) := by
  refine enI (lv := [(0, .int a0), (1, .int a1)]) (by decide) (Nat.le_of_ble_eq_true rfl) rfl (fun E D cy C Ci0 ret => ?_)
  refine g_iload_n C dX12_byteOf_0 rfl 0 rfl ?_
  refine g_bipush (v := 8) C dX12_byteOf_1 (by decide) ?_
  refine g_iload_n C dX12_byteOf_3 rfl 1 rfl ?_
  refine a_imul C dX12_byteOf_4 (fun z5560 => ?_)
  refine a_ishr C dX12_byteOf_5 (fun z5562 => ?_)
  refine g_sipush (v := 255) C dX12_byteOf_6 (by decide) ?_
  refine s_iand C dX12_byteOf_9 (by show 0 ≤ 255; omega) (fun z5564 h5565 => ?_)
  have h5565 : 0 ≤ z5564.toInt ∧ z5564.toInt ≤ 255 := h5565
  exact ret _ _ _ _ _ _ dX12_byteOf_10 rfl (by decide) (by decide) ⟨rfl, (by omega)⟩
theorem dX12_chances_0 : decode cX12_chances 0 = .ok (.aload_n 0, 1) := by decide +kernel
theorem dX12_chances_1 : decode cX12_chances 1 = .ok (.iconst 0, 1) := by decide +kernel
theorem dX12_chances_2 : decode cX12_chances 2 = .ok (.putfield 1, 3) := by decide +kernel
theorem dX12_chances_5 : decode cX12_chances 5 = .ok (.aload_n 0, 1) := by decide +kernel
theorem dX12_chances_6 : decode cX12_chances 6 = .ok (.iload_n 1, 1) := by decide +kernel
theorem dX12_chances_7 : decode cX12_chances 7 = .ok (.iload_n 2, 1) := by decide +kernel
theorem dX12_chances_8 : decode cX12_chances 8 = .ok (.iload 4, 2) := by decide +kernel
theorem dX12_chances_10 : decode cX12_chances 10 = .ok (.invokevirtual 377, 3) := by decide +kernel
theorem dX12_chances_13 : decode cX12_chances 13 = .ok (.ifCond .eq 12, 3) := by decide +kernel
theorem dX12_chances_16 : decode cX12_chances 16 = .ok (.iload_n 3, 1) := by decide +kernel
theorem dX12_chances_17 : decode cX12_chances 17 = .ok (.iconst 0, 1) := by decide +kernel
theorem dX12_chances_18 : decode cX12_chances 18 = .ok (.iload_n 2, 1) := by decide +kernel
theorem dX12_chances_19 : decode cX12_chances 19 = .ok (.invokestatic 178, 3) := by decide +kernel
theorem dX12_chances_22 : decode cX12_chances 22 = .ok (.ifCond .ne 5, 3) := by decide +kernel
theorem dX12_chances_27 : decode cX12_chances 27 = .ok (.aload_n 0, 1) := by decide +kernel
theorem dX12_chances_28 : decode cX12_chances 28 = .ok (.iload_n 1, 1) := by decide +kernel
theorem dX12_chances_29 : decode cX12_chances 29 = .ok (.iload_n 2, 1) := by decide +kernel
theorem dX12_chances_30 : decode cX12_chances 30 = .ok (.invokevirtual 380, 3) := by decide +kernel
theorem dX12_chancesOf_0 : decode cX12_chancesOf 0 = .ok (.iconst 0, 1) := by decide +kernel
theorem dX12_chancesOf_1 : decode cX12_chancesOf 1 = .ok (.istore 5, 2) := by decide +kernel
theorem dX12_chancesOf_3 : decode cX12_chancesOf 3 = .ok (.iconst 0, 1) := by decide +kernel
theorem dX12_chancesOf_4 : decode cX12_chancesOf 4 = .ok (.istore 6, 2) := by decide +kernel
theorem dX12_chancesOf_6 : decode cX12_chancesOf 6 = .ok (.iload 6, 2) := by decide +kernel
theorem dX12_chancesOf_8 : decode cX12_chancesOf 8 = .ok (.iconst 1, 1) := by decide +kernel
theorem dX12_chancesOf_9 : decode cX12_chancesOf 9 = .ok (.iload_n 2, 1) := by decide +kernel
theorem dX12_chancesOf_10 : decode cX12_chancesOf 10 = .ok (.ishl, 1) := by decide +kernel
theorem dX12_chancesOf_11 : decode cX12_chancesOf 11 = .ok (.if_icmp .ge 112, 3) := by decide +kernel
theorem dX12_chancesOf_14 : decode cX12_chancesOf 14 = .ok (.iload 6, 2) := by decide +kernel
theorem dX12_chancesOf_16 : decode cX12_chancesOf 16 = .ok (.invokestatic 264, 3) := by decide +kernel
theorem dX12_chancesOf_19 : decode cX12_chancesOf 19 = .ok (.iload_n 3, 1) := by decide +kernel
theorem dX12_chancesOf_20 : decode cX12_chancesOf 20 = .ok (.if_icmp .ne 97, 3) := by decide +kernel
theorem dX12_chancesOf_23 : decode cX12_chancesOf 23 = .ok (.aload_n 0, 1) := by decide +kernel
theorem dX12_chancesOf_24 : decode cX12_chancesOf 24 = .ok (.iload_n 1, 1) := by decide +kernel
theorem dX12_chancesOf_25 : decode cX12_chancesOf 25 = .ok (.invokevirtual 312, 3) := by decide +kernel
theorem dX12_chancesOf_28 : decode cX12_chancesOf 28 = .ok (.iconst 0, 1) := by decide +kernel
theorem dX12_chancesOf_29 : decode cX12_chancesOf 29 = .ok (.istore 7, 2) := by decide +kernel
theorem dX12_chancesOf_31 : decode cX12_chancesOf 31 = .ok (.iload 7, 2) := by decide +kernel
theorem dX12_chancesOf_33 : decode cX12_chancesOf 33 = .ok (.iload_n 2, 1) := by decide +kernel
theorem dX12_chancesOf_34 : decode cX12_chancesOf 34 = .ok (.if_icmp .ge 33, 3) := by decide +kernel
theorem dX12_chancesOf_37 : decode cX12_chancesOf 37 = .ok (.iload 6, 2) := by decide +kernel
theorem dX12_chancesOf_39 : decode cX12_chancesOf 39 = .ok (.iload 7, 2) := by decide +kernel
theorem dX12_chancesOf_41 : decode cX12_chancesOf 41 = .ok (.ishr, 1) := by decide +kernel
theorem dX12_chancesOf_42 : decode cX12_chancesOf 42 = .ok (.iconst 1, 1) := by decide +kernel
theorem dX12_chancesOf_43 : decode cX12_chancesOf 43 = .ok (.iand, 1) := by decide +kernel
theorem dX12_chancesOf_44 : decode cX12_chancesOf 44 = .ok (.iconst 1, 1) := by decide +kernel
theorem dX12_chancesOf_45 : decode cX12_chancesOf 45 = .ok (.if_icmp .ne 16, 3) := by decide +kernel
theorem dX12_chancesOf_48 : decode cX12_chancesOf 48 = .ok (.aload_n 0, 1) := by decide +kernel
theorem dX12_chancesOf_49 : decode cX12_chancesOf 49 = .ok (.aload_n 0, 1) := by decide +kernel
theorem dX12_chancesOf_50 : decode cX12_chancesOf 50 = .ok (.getfield 121, 3) := by decide +kernel
theorem dX12_chancesOf_53 : decode cX12_chancesOf 53 = .ok (.iload 7, 2) := by decide +kernel
theorem dX12_chancesOf_55 : decode cX12_chancesOf 55 = .ok (.iaload, 1) := by decide +kernel
theorem dX12_chancesOf_56 : decode cX12_chancesOf 56 = .ok (.iconst 0, 1) := by decide +kernel
theorem dX12_chancesOf_57 : decode cX12_chancesOf 57 = .ok (.iconst (-1), 1) := by decide +kernel
theorem dX12_chancesOf_58 : decode cX12_chancesOf 58 = .ok (.invokevirtual 308, 3) := by decide +kernel
theorem dX12_chancesOf_61 : decode cX12_chancesOf 61 = .ok (.iinc 7 1, 3) := by decide +kernel
theorem dX12_chancesOf_64 : decode cX12_chancesOf 64 = .ok (.goto (-33), 3) := by decide +kernel
theorem dX12_chancesOf_67 : decode cX12_chancesOf 67 = .ok (.iload 4, 2) := by decide +kernel
theorem dX12_chancesOf_69 : decode cX12_chancesOf 69 = .ok (.ifCond .ne 10, 3) := by decide +kernel
theorem dX12_chancesOf_79 : decode cX12_chancesOf 79 = .ok (.aload_n 0, 1) := by decide +kernel
theorem dX12_chancesOf_80 : decode cX12_chancesOf 80 = .ok (.invokevirtual 346, 3) := by decide +kernel
theorem dX12_chancesOf_117 : decode cX12_chancesOf 117 = .ok (.iinc 6 1, 3) := by decide +kernel
theorem dX12_chancesOf_120 : decode cX12_chancesOf 120 = .ok (.goto (-114), 3) := by decide +kernel
theorem dX12_chancesOf_123 : decode cX12_chancesOf 123 = .ok (.iload 5, 2) := by decide +kernel
theorem dX12_chancesOf_125 : decode cX12_chancesOf 125 = .ok (.ireturn, 1) := by decide +kernel
theorem dX12_findSolved_0 : decode cX12_findSolved 0 = .ok (.aload_n 0, 1) := by decide +kernel
theorem dX12_findSolved_1 : decode cX12_findSolved 1 = .ok (.iconst 0, 1) := by decide +kernel
theorem dX12_findSolved_2 : decode cX12_findSolved 2 = .ok (.putfield 324, 3) := by decide +kernel
theorem dX12_findSolved_5 : decode cX12_findSolved 5 = .ok (.aload_n 0, 1) := by decide +kernel
theorem dX12_findSolved_6 : decode cX12_findSolved 6 = .ok (.iconst 1, 1) := by decide +kernel
theorem dX12_findSolved_7 : decode cX12_findSolved 7 = .ok (.putfield 326, 3) := by decide +kernel
theorem dX12_findSolved_10 : decode cX12_findSolved 10 = .ok (.iconst 0, 1) := by decide +kernel
theorem dX12_findSolved_11 : decode cX12_findSolved 11 = .ok (.istore_n 1, 1) := by decide +kernel
theorem dX12_findSolved_12 : decode cX12_findSolved 12 = .ok (.iload_n 1, 1) := by decide +kernel
theorem dX12_findSolved_13 : decode cX12_findSolved 13 = .ok (.bipush 20, 2) := by decide +kernel
theorem dX12_findSolved_15 : decode cX12_findSolved 15 = .ok (.if_icmp .ge 16, 3) := by decide +kernel
theorem dX12_findSolved_18 : decode cX12_findSolved 18 = .ok (.aload_n 0, 1) := by decide +kernel
theorem dX12_findSolved_19 : decode cX12_findSolved 19 = .ok (.getfield 106, 3) := by decide +kernel
theorem dX12_findSolved_22 : decode cX12_findSolved 22 = .ok (.iload_n 1, 1) := by decide +kernel
theorem dX12_findSolved_23 : decode cX12_findSolved 23 = .ok (.iconst 0, 1) := by decide +kernel
theorem dX12_findSolved_24 : decode cX12_findSolved 24 = .ok (.iastore, 1) := by decide +kernel
theorem dX12_findSolved_25 : decode cX12_findSolved 25 = .ok (.iinc 1 1, 3) := by decide +kernel
theorem dX12_findSolved_28 : decode cX12_findSolved 28 = .ok (.goto (-16), 3) := by decide +kernel
theorem dX12_findSolved_31 : decode cX12_findSolved 31 = .ok (.iconst 0, 1) := by decide +kernel
theorem dX12_findSolved_32 : decode cX12_findSolved 32 = .ok (.istore_n 1, 1) := by decide +kernel
theorem dX12_findSolved_33 : decode cX12_findSolved 33 = .ok (.iload_n 1, 1) := by decide +kernel
theorem dX12_findSolved_34 : decode cX12_findSolved 34 = .ok (.aload_n 0, 1) := by decide +kernel
theorem dX12_findSolved_35 : decode cX12_findSolved 35 = .ok (.getfield 305, 3) := by decide +kernel
theorem dX12_findSolved_38 : decode cX12_findSolved 38 = .ok (.if_icmp .ge 224, 3) := by decide +kernel
theorem dX12_findSolved_41 : decode cX12_findSolved 41 = .ok (.aload_n 0, 1) := by decide +kernel
theorem dX12_findSolved_42 : decode cX12_findSolved 42 = .ok (.getfield 91, 3) := by decide +kernel
theorem dX12_findSolved_45 : decode cX12_findSolved 45 = .ok (.iload_n 1, 1) := by decide +kernel
theorem dX12_findSolved_46 : decode cX12_findSolved 46 = .ok (.iaload, 1) := by decide +kernel
theorem dX12_findSolved_47 : decode cX12_findSolved 47 = .ok (.istore_n 2, 1) := by decide +kernel
theorem dX12_findSolved_48 : decode cX12_findSolved 48 = .ok (.aload_n 0, 1) := by decide +kernel
theorem dX12_findSolved_49 : decode cX12_findSolved 49 = .ok (.getfield 94, 3) := by decide +kernel
theorem dX12_findSolved_52 : decode cX12_findSolved 52 = .ok (.iload_n 1, 1) := by decide +kernel
theorem dX12_findSolved_53 : decode cX12_findSolved 53 = .ok (.iaload, 1) := by decide +kernel
theorem dX12_findSolved_54 : decode cX12_findSolved 54 = .ok (.istore_n 3, 1) := by decide +kernel
theorem dX12_findSolved_55 : decode cX12_findSolved 55 = .ok (.iconst 0, 1) := by decide +kernel
theorem dX12_findSolved_56 : decode cX12_findSolved 56 = .ok (.istore 4, 2) := by decide +kernel
theorem dX12_findSolved_58 : decode cX12_findSolved 58 = .ok (.iload 4, 2) := by decide +kernel
theorem dX12_findSolved_60 : decode cX12_findSolved 60 = .ok (.bipush 20, 2) := by decide +kernel
theorem dX12_findSolved_62 : decode cX12_findSolved 62 = .ok (.if_icmp .ge 49, 3) := by decide +kernel
theorem dX12_findSolved_65 : decode cX12_findSolved 65 = .ok (.iload_n 2, 1) := by decide +kernel
theorem dX12_findSolved_66 : decode cX12_findSolved 66 = .ok (.iload 4, 2) := by decide +kernel
theorem dX12_findSolved_68 : decode cX12_findSolved 68 = .ok (.ishr, 1) := by decide +kernel
theorem dX12_findSolved_69 : decode cX12_findSolved 69 = .ok (.iconst 1, 1) := by decide +kernel
theorem dX12_findSolved_70 : decode cX12_findSolved 70 = .ok (.iand, 1) := by decide +kernel
theorem dX12_findSolved_71 : decode cX12_findSolved 71 = .ok (.iconst 1, 1) := by decide +kernel
theorem dX12_findSolved_72 : decode cX12_findSolved 72 = .ok (.if_icmp .ne 33, 3) := by decide +kernel
theorem dX12_findSolved_75 : decode cX12_findSolved 75 = .ok (.aload_n 0, 1) := by decide +kernel
theorem dX12_findSolved_76 : decode cX12_findSolved 76 = .ok (.getfield 106, 3) := by decide +kernel
theorem dX12_findSolved_79 : decode cX12_findSolved 79 = .ok (.iload 4, 2) := by decide +kernel
theorem dX12_findSolved_81 : decode cX12_findSolved 81 = .ok (.iaload, 1) := by decide +kernel
theorem dX12_findSolved_82 : decode cX12_findSolved 82 = .ok (.ifCond .eq 23, 3) := by decide +kernel
theorem dX12_findSolved_85 : decode cX12_findSolved 85 = .ok (.iload_n 2, 1) := by decide +kernel
theorem dX12_findSolved_86 : decode cX12_findSolved 86 = .ok (.aload_n 0, 1) := by decide +kernel
theorem dX12_findSolved_87 : decode cX12_findSolved 87 = .ok (.getfield 106, 3) := by decide +kernel
theorem dX12_findSolved_90 : decode cX12_findSolved 90 = .ok (.iload 4, 2) := by decide +kernel
theorem dX12_findSolved_92 : decode cX12_findSolved 92 = .ok (.iaload, 1) := by decide +kernel
theorem dX12_findSolved_93 : decode cX12_findSolved 93 = .ok (.ixor, 1) := by decide +kernel
theorem dX12_findSolved_94 : decode cX12_findSolved 94 = .ok (.istore_n 2, 1) := by decide +kernel
theorem dX12_findSolved_95 : decode cX12_findSolved 95 = .ok (.iload_n 3, 1) := by decide +kernel
theorem dX12_findSolved_96 : decode cX12_findSolved 96 = .ok (.aload_n 0, 1) := by decide +kernel
theorem dX12_findSolved_97 : decode cX12_findSolved 97 = .ok (.getfield 109, 3) := by decide +kernel
theorem dX12_findSolved_100 : decode cX12_findSolved 100 = .ok (.iload 4, 2) := by decide +kernel
theorem dX12_findSolved_102 : decode cX12_findSolved 102 = .ok (.iaload, 1) := by decide +kernel
theorem dX12_findSolved_103 : decode cX12_findSolved 103 = .ok (.ixor, 1) := by decide +kernel
theorem dX12_findSolved_104 : decode cX12_findSolved 104 = .ok (.istore_n 3, 1) := by decide +kernel
theorem dX12_findSolved_105 : decode cX12_findSolved 105 = .ok (.iinc 4 1, 3) := by decide +kernel
theorem dX12_findSolved_108 : decode cX12_findSolved 108 = .ok (.goto (-50), 3) := by decide +kernel
theorem dX12_findSolved_111 : decode cX12_findSolved 111 = .ok (.iconst (-1), 1) := by decide +kernel
theorem dX12_findSolved_112 : decode cX12_findSolved 112 = .ok (.istore 4, 2) := by decide +kernel
theorem dX12_findSolved_114 : decode cX12_findSolved 114 = .ok (.bipush 19, 2) := by decide +kernel
theorem dX12_findSolved_116 : decode cX12_findSolved 116 = .ok (.istore 5, 2) := by decide +kernel
theorem dX12_findSolved_118 : decode cX12_findSolved 118 = .ok (.iload 5, 2) := by decide +kernel
theorem dX12_findSolved_120 : decode cX12_findSolved 120 = .ok (.ifCond .lt 28, 3) := by decide +kernel
theorem dX12_findSolved_123 : decode cX12_findSolved 123 = .ok (.iload_n 2, 1) := by decide +kernel
theorem dX12_findSolved_124 : decode cX12_findSolved 124 = .ok (.iload 5, 2) := by decide +kernel
theorem dX12_findSolved_126 : decode cX12_findSolved 126 = .ok (.ishr, 1) := by decide +kernel
theorem dX12_findSolved_127 : decode cX12_findSolved 127 = .ok (.iconst 1, 1) := by decide +kernel
theorem dX12_findSolved_128 : decode cX12_findSolved 128 = .ok (.iand, 1) := by decide +kernel
theorem dX12_findSolved_129 : decode cX12_findSolved 129 = .ok (.iconst 1, 1) := by decide +kernel
theorem dX12_findSolved_130 : decode cX12_findSolved 130 = .ok (.if_icmp .ne 8, 3) := by decide +kernel
theorem dX12_findSolved_133 : decode cX12_findSolved 133 = .ok (.iload 5, 2) := by decide +kernel
theorem dX12_findSolved_135 : decode cX12_findSolved 135 = .ok (.goto 5, 3) := by decide +kernel
theorem dX12_findSolved_138 : decode cX12_findSolved 138 = .ok (.iload 4, 2) := by decide +kernel
theorem dX12_findSolved_140 : decode cX12_findSolved 140 = .ok (.istore 4, 2) := by decide +kernel
theorem dX12_findSolved_142 : decode cX12_findSolved 142 = .ok (.iinc 5 (-1), 3) := by decide +kernel
theorem dX12_findSolved_145 : decode cX12_findSolved 145 = .ok (.goto (-27), 3) := by decide +kernel
theorem dX12_findSolved_148 : decode cX12_findSolved 148 = .ok (.iload 4, 2) := by decide +kernel
theorem dX12_findSolved_150 : decode cX12_findSolved 150 = .ok (.ifCond .ge 26, 3) := by decide +kernel
theorem dX12_findSolved_153 : decode cX12_findSolved 153 = .ok (.aload_n 0, 1) := by decide +kernel
theorem dX12_findSolved_154 : decode cX12_findSolved 154 = .ok (.aload_n 0, 1) := by decide +kernel
theorem dX12_findSolved_155 : decode cX12_findSolved 155 = .ok (.getfield 326, 3) := by decide +kernel
theorem dX12_findSolved_158 : decode cX12_findSolved 158 = .ok (.ifCond .eq 11, 3) := by decide +kernel
theorem dX12_findSolved_161 : decode cX12_findSolved 161 = .ok (.iload_n 3, 1) := by decide +kernel
theorem dX12_findSolved_162 : decode cX12_findSolved 162 = .ok (.ifCond .ne 7, 3) := by decide +kernel
theorem dX12_findSolved_165 : decode cX12_findSolved 165 = .ok (.iconst 1, 1) := by decide +kernel
theorem dX12_findSolved_166 : decode cX12_findSolved 166 = .ok (.goto 4, 3) := by decide +kernel
theorem dX12_findSolved_169 : decode cX12_findSolved 169 = .ok (.iconst 0, 1) := by decide +kernel
theorem dX12_findSolved_170 : decode cX12_findSolved 170 = .ok (.putfield 326, 3) := by decide +kernel
theorem dX12_findSolved_173 : decode cX12_findSolved 173 = .ok (.goto 83, 3) := by decide +kernel
theorem dX12_findSolved_176 : decode cX12_findSolved 176 = .ok (.iconst 0, 1) := by decide +kernel
theorem dX12_findSolved_177 : decode cX12_findSolved 177 = .ok (.istore 5, 2) := by decide +kernel
theorem dX12_findSolved_179 : decode cX12_findSolved 179 = .ok (.iload 5, 2) := by decide +kernel
theorem dX12_findSolved_181 : decode cX12_findSolved 181 = .ok (.bipush 20, 2) := by decide +kernel
theorem dX12_findSolved_183 : decode cX12_findSolved 183 = .ok (.if_icmp .ge 47, 3) := by decide +kernel
theorem dX12_findSolved_186 : decode cX12_findSolved 186 = .ok (.aload_n 0, 1) := by decide +kernel
theorem dX12_findSolved_187 : decode cX12_findSolved 187 = .ok (.getfield 106, 3) := by decide +kernel
theorem dX12_findSolved_190 : decode cX12_findSolved 190 = .ok (.iload 5, 2) := by decide +kernel
theorem dX12_findSolved_192 : decode cX12_findSolved 192 = .ok (.iaload, 1) := by decide +kernel
theorem dX12_findSolved_193 : decode cX12_findSolved 193 = .ok (.iload 4, 2) := by decide +kernel
theorem dX12_findSolved_195 : decode cX12_findSolved 195 = .ok (.ishr, 1) := by decide +kernel
theorem dX12_findSolved_196 : decode cX12_findSolved 196 = .ok (.iconst 1, 1) := by decide +kernel
theorem dX12_findSolved_197 : decode cX12_findSolved 197 = .ok (.iand, 1) := by decide +kernel
theorem dX12_findSolved_198 : decode cX12_findSolved 198 = .ok (.iconst 1, 1) := by decide +kernel
theorem dX12_findSolved_199 : decode cX12_findSolved 199 = .ok (.if_icmp .ne 25, 3) := by decide +kernel
theorem dX12_findSolved_202 : decode cX12_findSolved 202 = .ok (.aload_n 0, 1) := by decide +kernel
theorem dX12_findSolved_203 : decode cX12_findSolved 203 = .ok (.getfield 106, 3) := by decide +kernel
theorem dX12_findSolved_206 : decode cX12_findSolved 206 = .ok (.iload 5, 2) := by decide +kernel
theorem dX12_findSolved_208 : decode cX12_findSolved 208 = .ok (.dup2, 1) := by decide +kernel
theorem dX12_findSolved_209 : decode cX12_findSolved 209 = .ok (.iaload, 1) := by decide +kernel
theorem dX12_findSolved_210 : decode cX12_findSolved 210 = .ok (.iload_n 2, 1) := by decide +kernel
theorem dX12_findSolved_211 : decode cX12_findSolved 211 = .ok (.ixor, 1) := by decide +kernel
theorem dX12_findSolved_212 : decode cX12_findSolved 212 = .ok (.iastore, 1) := by decide +kernel
theorem dX12_findSolved_213 : decode cX12_findSolved 213 = .ok (.aload_n 0, 1) := by decide +kernel
theorem dX12_findSolved_214 : decode cX12_findSolved 214 = .ok (.getfield 109, 3) := by decide +kernel
theorem dX12_findSolved_217 : decode cX12_findSolved 217 = .ok (.iload 5, 2) := by decide +kernel
theorem dX12_findSolved_219 : decode cX12_findSolved 219 = .ok (.dup2, 1) := by decide +kernel
theorem dX12_findSolved_220 : decode cX12_findSolved 220 = .ok (.iaload, 1) := by decide +kernel
theorem dX12_findSolved_221 : decode cX12_findSolved 221 = .ok (.iload_n 3, 1) := by decide +kernel
theorem dX12_findSolved_222 : decode cX12_findSolved 222 = .ok (.ixor, 1) := by decide +kernel
theorem dX12_findSolved_223 : decode cX12_findSolved 223 = .ok (.iastore, 1) := by decide +kernel
theorem dX12_findSolved_224 : decode cX12_findSolved 224 = .ok (.iinc 5 1, 3) := by decide +kernel
theorem dX12_findSolved_227 : decode cX12_findSolved 227 = .ok (.goto (-48), 3) := by decide +kernel
theorem dX12_findSolved_230 : decode cX12_findSolved 230 = .ok (.aload_n 0, 1) := by decide +kernel
theorem dX12_findSolved_231 : decode cX12_findSolved 231 = .ok (.getfield 106, 3) := by decide +kernel
theorem dX12_findSolved_234 : decode cX12_findSolved 234 = .ok (.iload 4, 2) := by decide +kernel
theorem dX12_findSolved_236 : decode cX12_findSolved 236 = .ok (.iload_n 2, 1) := by decide +kernel
theorem dX12_findSolved_237 : decode cX12_findSolved 237 = .ok (.iastore, 1) := by decide +kernel
theorem dX12_findSolved_238 : decode cX12_findSolved 238 = .ok (.aload_n 0, 1) := by decide +kernel
theorem dX12_findSolved_239 : decode cX12_findSolved 239 = .ok (.getfield 109, 3) := by decide +kernel
theorem dX12_findSolved_242 : decode cX12_findSolved 242 = .ok (.iload 4, 2) := by decide +kernel
theorem dX12_findSolved_244 : decode cX12_findSolved 244 = .ok (.iload_n 3, 1) := by decide +kernel
theorem dX12_findSolved_245 : decode cX12_findSolved 245 = .ok (.iastore, 1) := by decide +kernel
theorem dX12_findSolved_246 : decode cX12_findSolved 246 = .ok (.aload_n 0, 1) := by decide +kernel
theorem dX12_findSolved_247 : decode cX12_findSolved 247 = .ok (.dup, 1) := by decide +kernel
theorem dX12_findSolved_248 : decode cX12_findSolved 248 = .ok (.getfield 324, 3) := by decide +kernel
theorem dX12_findSolved_251 : decode cX12_findSolved 251 = .ok (.iconst 1, 1) := by decide +kernel
theorem dX12_findSolved_252 : decode cX12_findSolved 252 = .ok (.iadd, 1) := by decide +kernel
theorem dX12_findSolved_253 : decode cX12_findSolved 253 = .ok (.putfield 324, 3) := by decide +kernel
theorem dX12_findSolved_256 : decode cX12_findSolved 256 = .ok (.iinc 1 1, 3) := by decide +kernel
theorem dX12_findSolved_259 : decode cX12_findSolved 259 = .ok (.goto (-226), 3) := by decide +kernel
theorem dX12_findSolved_262 : decode cX12_findSolved 262 = .ok (.return_, 1) := by decide +kernel
set_option maxHeartbeats 4000000 in
set_option maxRecDepth 100000 in
theorem s_X12_findSolved {P : PP} {a0 : Nat} (I : IM P a0) : CtrV yX12_findSolved cX12_findSolved 6 none ({ frames := 1, cells := 0, slots := 0, locals := 64 } : Room) 0 0 P [.ref a0] (fun P2 => IM P2 a0 ∧ EM [35, 36, 37, 38] a0 P P2) := by
  refine enV (lv := [(0, .ref a0)]) (by decide) (Nat.le_of_ble_eq_true rfl) rfl (fun E D cy C Ci0 ret => ?_)
  have ha0 := I.2.1
  have J33 : ∀ (n33 : Nat) (P33 : PP) (v33_1 : Int32), (100 - v33_1.toInt).toNat < n33 → (IM P33 a0) → (EM [35, 36, 37, 38] a0 P P33) → (0 ≤ v33_1.toInt ∧ v33_1.toInt ≤ 100) → G E ({ frames := 1, cells := 0, slots := 0, locals := 64 } : Room) D cy 6 P33 0 0 33 [(0, .ref a0), (1, .int v33_1)] [] := by
    intro n33
    induction n33 with
    | zero => intro P33 v33_1 hm33 I33 X33 hv33_1; omega
    | succ n33 ih33 =>
      intro P33 v33_1 hm33 I33 X33 hv33_1
      have h12147 := X33.at ha0
      have J256 : ∀ (P256 : PP), (IM P256 a0) → (EM [35, 36, 37, 38] a0 P P256) → (0 ≤ v33_1.toInt ∧ v33_1.toInt ≤ 64) → (1 ≤ (pI P256 a0 28).toInt ∧ (pI P256 a0 28).toInt ≤ 64) → G E ({ frames := 1, cells := 0, slots := 0, locals := 64 } : Room) D cy 6 P256 0 0 256 [(0, .ref a0), (1, .int v33_1)] [] := by
        intro P256 I256 X256 hv256_1 hq256_0
        have h12148 := X256.at ha0
        refine s_iinc (lv0 := [(0, .ref a0)]) (m := 1) C dX12_findSolved_256 1 rfl (by decide) rfl (by decide) (by omega) (fun z12149 h12150 => ?_)
        have h12150 : z12149.toInt = v33_1.toInt + 1 := h12150
        refine g_goto C 33 dX12_findSolved_259 (by decide) ?_
        refine g_lv (lv' := [(0, .ref a0), (1, .int z12149)]) [1, 0] rfl ?_
        exact ih33 P256 z12149 (by omega) I256 X256 (by omega)
      have J179 : ∀ (n179 : Nat) (P179 : PP) (v179_2 : Int32) (v179_3 : Int32) (v179_4 : Int32) (v179_5 : Int32), (20 - v179_5.toInt).toNat < n179 → (IM P179 a0) → (EM [35, 36, 37, 38] a0 P P179) → (0 ≤ v33_1.toInt ∧ v33_1.toInt ≤ 64) → (0 ≤ v179_4.toInt ∧ v179_4.toInt ≤ 19) → (0 ≤ v179_5.toInt ∧ v179_5.toInt ≤ 20) → (1 ≤ (pI P179 a0 28).toInt ∧ (pI P179 a0 28).toInt ≤ 64) → G E ({ frames := 1, cells := 0, slots := 0, locals := 64 } : Room) D cy 6 P179 0 0 179 [(0, .ref a0), (1, .int v33_1), (2, .int v179_2), (3, .int v179_3), (4, .int v179_4), (5, .int v179_5)] [] := by
        intro n179
        induction n179 with
        | zero => intro P179 v179_2 v179_3 v179_4 v179_5 hm179 I179 X179 hv179_1 hv179_4 hv179_5 hq179_0; omega
        | succ n179 ih179 =>
          intro P179 v179_2 v179_3 v179_4 v179_5 hm179 I179 X179 hv179_1 hv179_4 hv179_5 hq179_0
          have h12151 := X179.at ha0
          have J224 : ∀ (P224 : PP), (IM P224 a0) → (EM [35, 36, 37, 38] a0 P P224) → (0 ≤ v33_1.toInt ∧ v33_1.toInt ≤ 64) → (0 ≤ v179_5.toInt ∧ v179_5.toInt ≤ 19) → (1 ≤ (pI P224 a0 28).toInt ∧ (pI P224 a0 28).toInt ≤ 64) → G E ({ frames := 1, cells := 0, slots := 0, locals := 64 } : Room) D cy 6 P224 0 0 224 [(0, .ref a0), (1, .int v33_1), (2, .int v179_2), (3, .int v179_3), (4, .int v179_4), (5, .int v179_5)] [] := by
            intro P224 I224 X224 hv224_1 hv224_5 hq224_0
            have h12152 := X224.at ha0
            refine s_iinc (lv0 := [(0, .ref a0), (1, .int v33_1), (2, .int v179_2), (3, .int v179_3), (4, .int v179_4)]) (m := 1) C dX12_findSolved_224 5 rfl (by decide) rfl (by decide) (by omega) (fun z12153 h12154 => ?_)
            have h12154 : z12153.toInt = v179_5.toInt + 1 := h12154
            refine g_goto C 179 dX12_findSolved_227 (by decide) ?_
            refine g_lv (lv' := [(0, .ref a0), (1, .int v33_1), (2, .int v179_2), (3, .int v179_3), (4, .int v179_4), (5, .int z12153)]) [1, 2, 3, 4, 5, 0] rfl ?_
            exact ih179 P224 v179_2 v179_3 v179_4 z12153 (by omega) I224 X224 (by omega) (by omega) (by omega) (by omega)
          refine g_iload C dX12_findSolved_179 5 rfl ?_
          refine g_bipush (v := 20) C dX12_findSolved_181 (by decide) ?_
          refine b_icmp_ge C 230 dX12_findSolved_183 (by decide) (fun h12155 => ?_) (fun h12155 => ?_)
          · have h12155 : 20 ≤ v179_5.toInt := h12155
            refine g_aload_n C dX12_findSolved_230 rfl 0 rfl ?_
            obtain ⟨b12156, e12157, h12158⟩ := I179.fld (h12151) 37 13 20 rfl
            refine g_getR C fi_X12_106 rfl e12157 (h12151).1 (h12151).2 dX12_findSolved_231 ?_
            refine g_iload C dX12_findSolved_234 4 rfl ?_
            refine g_iload_n C dX12_findSolved_236 rfl 2 rfl ?_
            refine g_iast (j := (v179_4.toInt.toNat)) C h12158.1 h12158.2.1 (ix_in h12158.2.2 (by omega)) dX12_findSolved_237 ?_
            refine gqW (ks := [37]) (I179.setA e12157 h12158 (by decide) (arOk.none rfl)) (EM.setA I179 e12157 rfl (by decide)) (fun Y12159 Iy12160 Xy12161 w12162 => ?_)
            have w12162 : (pI Y12159 b12156 (v179_4.toInt.toNat)).toInt = v179_2.toInt := w12162
            have q12163 := Xy12161.keepF 28 (by decide)
            have Xz12164 : EM [35, 36, 37, 38] a0 P Y12159 := EM.tr ha0 X179 (Xy12161.mono (by decide))
            have e12165 := Xy12161.ref h12151 (by decide) e12157
            have h12166 := Xy12161.at h12151
            have h12167 := Xy12161.ar h12158
            refine g_aload_n C dX12_findSolved_238 rfl 0 rfl ?_
            obtain ⟨b12168, e12169, h12170⟩ := Iy12160.fld (h12166) 38 13 20 rfl
            refine g_getR C fi_X12_109 rfl e12169 (h12166).1 (h12166).2 dX12_findSolved_239 ?_
            refine g_iload C dX12_findSolved_242 4 rfl ?_
            refine g_iload_n C dX12_findSolved_244 rfl 3 rfl ?_
            refine g_iast (j := (v179_4.toInt.toNat)) C h12170.1 h12170.2.1 (ix_in h12170.2.2 (by omega)) dX12_findSolved_245 ?_
            refine gqW (ks := [38]) (Iy12160.setA e12169 h12170 (by decide) (arOk.none rfl)) (EM.setA Iy12160 e12169 rfl (by decide)) (fun Y12171 Iy12172 Xy12173 w12174 => ?_)
            have w12174 : (pI Y12171 b12168 (v179_4.toInt.toNat)).toInt = v179_3.toInt := w12174
            have q12175 := Xy12173.keepF 28 (by decide)
            have q12176 := Xy12173.keepA e12165 (by decide) rfl (v179_4.toInt.toNat)
            have Xz12177 : EM [35, 36, 37, 38] a0 P Y12171 := EM.tr ha0 Xz12164 (Xy12173.mono (by decide))
            have e12178 := Xy12173.ref h12166 (by decide) e12165
            have e12179 := Xy12173.ref h12166 (by decide) e12169
            have h12180 := Xy12173.at h12166
            have h12181 := Xy12173.ar h12167
            have h12182 := Xy12173.ar h12170
            refine g_aload_n C dX12_findSolved_246 rfl 0 rfl ?_
            refine g_dup C dX12_findSolved_247 rfl ?_
            refine g_getI C fi_X12_324 (by decide) (h12180).1 (h12180).2 dX12_findSolved_248 ?_
            refine g_iconst (v := 1) C dX12_findSolved_251 (by decide) ?_
            refine a_iadd C dX12_findSolved_252 (fun z12183 => ?_)
            refine g_putI C fi_X12_324 rfl (h12180).1 (h12180).2 dX12_findSolved_253 ?_
            refine gqW (ks := [35]) (Iy12172.setI (rgOk.none rfl)) (EM.setI Iy12172 (by decide)) (fun Y12185 Iy12186 Xy12187 w12188 => ?_)
            have w12188 : (pI Y12185 a0 35).toInt = z12183.toInt := w12188
            have q12189 := Xy12187.keepF 28 (by decide)
            have q12190 := Xy12187.keepA e12178 (by decide) rfl (v179_4.toInt.toNat)
            have q12191 := Xy12187.keepA e12179 (by decide) rfl (v179_4.toInt.toNat)
            have Xz12192 : EM [35, 36, 37, 38] a0 P Y12185 := EM.tr ha0 Xz12177 (Xy12187.mono (by decide))
            have e12193 := Xy12187.ref h12180 (by decide) e12178
            have e12194 := Xy12187.ref h12180 (by decide) e12179
            have h12195 := Xy12187.at h12180
            have h12196 := Xy12187.ar h12181
            have h12197 := Xy12187.ar h12182
            refine g_lv (lv' := [(0, .ref a0), (1, .int v33_1)]) [0, 1] rfl ?_
            exact J256 Y12185 Iy12186 Xz12192 (by omega) (by omega)
          · have h12155 : v179_5.toInt < 20 := h12155
            refine g_aload_n C dX12_findSolved_186 rfl 0 rfl ?_
            obtain ⟨b12198, e12199, h12200⟩ := I179.fld (h12151) 37 13 20 rfl
            refine g_getR C fi_X12_106 rfl e12199 (h12151).1 (h12151).2 dX12_findSolved_187 ?_
            refine g_iload C dX12_findSolved_190 5 rfl ?_
            refine g_iald (j := (v179_5.toInt.toNat)) C h12200.1 h12200.2.1 (ix_in h12200.2.2 (by omega)) dX12_findSolved_192 ?_
            refine g_iload C dX12_findSolved_193 4 rfl ?_
            refine a_ishr C dX12_findSolved_195 (fun z12201 => ?_)
            refine g_iconst (v := 1) C dX12_findSolved_196 (by decide) ?_
            refine s_iand C dX12_findSolved_197 (by show 0 ≤ 1; omega) (fun z12203 h12204 => ?_)
            have h12204 : 0 ≤ z12203.toInt ∧ z12203.toInt ≤ 1 := h12204
            refine g_iconst (v := 1) C dX12_findSolved_198 (by decide) ?_
            refine b_icmp_ne C 224 dX12_findSolved_199 (by decide) (fun h12205 => ?_) (fun h12205 => ?_)
            · have h12205 : z12203.toInt ≠ 1 := ti_ne h12205
              exact J224 P179 I179 X179 (by omega) (by omega) (by omega)
            · have h12205 : z12203.toInt = 1 := congrArg Int32.toInt h12205
              refine g_aload_n C dX12_findSolved_202 rfl 0 rfl ?_
              refine g_getR C fi_X12_106 rfl e12199 (h12151).1 (h12151).2 dX12_findSolved_203 ?_
              refine g_iload C dX12_findSolved_206 5 rfl ?_
              refine g_dup2_11 C dX12_findSolved_208 rfl rfl ?_
              refine g_iald (j := (v179_5.toInt.toNat)) C h12200.1 h12200.2.1 (ix_in h12200.2.2 (by omega)) dX12_findSolved_209 ?_
              refine g_iload_n C dX12_findSolved_210 rfl 2 rfl ?_
              refine a_ixor C dX12_findSolved_211 (fun z12206 => ?_)
              refine g_iast (j := (v179_5.toInt.toNat)) C h12200.1 h12200.2.1 (ix_in h12200.2.2 (by omega)) dX12_findSolved_212 ?_
              refine gqW (ks := [37]) (I179.setA e12199 h12200 (by decide) (arOk.none rfl)) (EM.setA I179 e12199 rfl (by decide)) (fun Y12208 Iy12209 Xy12210 w12211 => ?_)
              have w12211 : (pI Y12208 b12198 (v179_5.toInt.toNat)).toInt = z12206.toInt := w12211
              have q12212 := Xy12210.keepF 28 (by decide)
              have Xz12213 : EM [35, 36, 37, 38] a0 P Y12208 := EM.tr ha0 X179 (Xy12210.mono (by decide))
              have e12214 := Xy12210.ref h12151 (by decide) e12199
              have h12215 := Xy12210.at h12151
              have h12216 := Xy12210.ar h12200
              refine g_aload_n C dX12_findSolved_213 rfl 0 rfl ?_
              obtain ⟨b12217, e12218, h12219⟩ := Iy12209.fld (h12215) 38 13 20 rfl
              refine g_getR C fi_X12_109 rfl e12218 (h12215).1 (h12215).2 dX12_findSolved_214 ?_
              refine g_iload C dX12_findSolved_217 5 rfl ?_
              refine g_dup2_11 C dX12_findSolved_219 rfl rfl ?_
              refine g_iald (j := (v179_5.toInt.toNat)) C h12219.1 h12219.2.1 (ix_in h12219.2.2 (by omega)) dX12_findSolved_220 ?_
              refine g_iload_n C dX12_findSolved_221 rfl 3 rfl ?_
              refine a_ixor C dX12_findSolved_222 (fun z12220 => ?_)
              refine g_iast (j := (v179_5.toInt.toNat)) C h12219.1 h12219.2.1 (ix_in h12219.2.2 (by omega)) dX12_findSolved_223 ?_
              refine gqW (ks := [38]) (Iy12209.setA e12218 h12219 (by decide) (arOk.none rfl)) (EM.setA Iy12209 e12218 rfl (by decide)) (fun Y12222 Iy12223 Xy12224 w12225 => ?_)
              have w12225 : (pI Y12222 b12217 (v179_5.toInt.toNat)).toInt = z12220.toInt := w12225
              have q12226 := Xy12224.keepF 28 (by decide)
              have q12227 := Xy12224.keepA e12214 (by decide) rfl (v179_5.toInt.toNat)
              have Xz12228 : EM [35, 36, 37, 38] a0 P Y12222 := EM.tr ha0 Xz12213 (Xy12224.mono (by decide))
              have e12229 := Xy12224.ref h12215 (by decide) e12214
              have e12230 := Xy12224.ref h12215 (by decide) e12218
              have h12231 := Xy12224.at h12215
              have h12232 := Xy12224.ar h12216
              have h12233 := Xy12224.ar h12219
              exact J224 Y12222 Iy12223 Xz12228 (by omega) (by omega) (by omega)
      have J170 : ∀ (v170_s0 : Int32), (0 ≤ v33_1.toInt ∧ v33_1.toInt ≤ 64) → (0 ≤ v170_s0.toInt ∧ v170_s0.toInt ≤ 1) → (1 ≤ (pI P33 a0 28).toInt ∧ (pI P33 a0 28).toInt ≤ 64) → G E ({ frames := 1, cells := 0, slots := 0, locals := 64 } : Room) D cy 6 P33 0 0 170 [(0, .ref a0), (1, .int v33_1)] [.int v170_s0, .ref a0] := by
        intro v170_s0 hv170_1 hv170_s0 hq170_0
        have h12234 := X33.at ha0
        refine g_putZ C fi_X12_326 rfl (b01 (by omega)) (h12234).1 (h12234).2 dX12_findSolved_170 ?_
        refine gqW (ks := [36]) (I33.setI (rgOk.of rfl (by omega))) (EM.setI I33 (by decide)) (fun Y12235 Iy12236 Xy12237 w12238 => ?_)
        have w12238 : (pI Y12235 a0 36).toInt = v170_s0.toInt := w12238
        have q12239 := Xy12237.keepF 28 (by decide)
        have Xz12240 : EM [35, 36, 37, 38] a0 P Y12235 := EM.tr ha0 X33 (Xy12237.mono (by decide))
        have h12241 := Xy12237.at h12234
        refine g_goto C 256 dX12_findSolved_173 (by decide) ?_
        exact J256 Y12235 Iy12236 Xz12240 (by omega) (by omega)
      have J169 : (0 ≤ v33_1.toInt ∧ v33_1.toInt ≤ 64) → (1 ≤ (pI P33 a0 28).toInt ∧ (pI P33 a0 28).toInt ≤ 64) → (0 ≤ (pI P33 a0 36).toInt ∧ (pI P33 a0 36).toInt ≤ 1) → G E ({ frames := 1, cells := 0, slots := 0, locals := 64 } : Room) D cy 6 P33 0 0 169 [(0, .ref a0), (1, .int v33_1)] [.ref a0] := by
        intro hv169_1 hq169_0 hq169_1
        have h12242 := X33.at ha0
        refine g_iconst (v := 0) C dX12_findSolved_169 (by decide) ?_
        exact J170 0 (by omega) (by decide) (by omega)
      have J118 : ∀ (n118 : Nat) (v118_2 : Int32) (v118_3 : Int32) (v118_4 : Int32) (v118_5 : Int32), (v118_5.toInt - (-1)).toNat < n118 → (0 ≤ v33_1.toInt ∧ v33_1.toInt ≤ 64) → (-1 ≤ v118_4.toInt ∧ v118_4.toInt ≤ 19) → (-1 ≤ v118_5.toInt ∧ v118_5.toInt ≤ 19) → (1 ≤ (pI P33 a0 28).toInt ∧ (pI P33 a0 28).toInt ≤ 64) → G E ({ frames := 1, cells := 0, slots := 0, locals := 64 } : Room) D cy 6 P33 0 0 118 [(0, .ref a0), (1, .int v33_1), (2, .int v118_2), (3, .int v118_3), (4, .int v118_4), (5, .int v118_5)] [] := by
        intro n118
        induction n118 with
        | zero => intro v118_2 v118_3 v118_4 v118_5 hm118 hv118_1 hv118_4 hv118_5 hq118_0; omega
        | succ n118 ih118 =>
          intro v118_2 v118_3 v118_4 v118_5 hm118 hv118_1 hv118_4 hv118_5 hq118_0
          have h12243 := X33.at ha0
          have J140 : ∀ (v140_s0 : Int32), (0 ≤ v33_1.toInt ∧ v33_1.toInt ≤ 64) → (0 ≤ v118_5.toInt ∧ v118_5.toInt ≤ 19) → (-1 ≤ v140_s0.toInt ∧ v140_s0.toInt ≤ 19) → (1 ≤ (pI P33 a0 28).toInt ∧ (pI P33 a0 28).toInt ≤ 64) → G E ({ frames := 1, cells := 0, slots := 0, locals := 64 } : Room) D cy 6 P33 0 0 140 [(0, .ref a0), (1, .int v33_1), (2, .int v118_2), (3, .int v118_3), (5, .int v118_5)] [.int v140_s0] := by
            intro v140_s0 hv140_1 hv140_5 hv140_s0 hq140_0
            have h12244 := X33.at ha0
            refine g_istore (lv' := [(4, .int v140_s0), (0, .ref a0), (1, .int v33_1), (2, .int v118_2), (3, .int v118_3), (5, .int v118_5)]) C dX12_findSolved_140 (by decide) rfl ?_
            refine s_iinc (lv0 := [(4, .int v140_s0), (0, .ref a0), (1, .int v33_1), (2, .int v118_2), (3, .int v118_3)]) (m := -1) C dX12_findSolved_142 5 rfl (by decide) rfl (by decide) (by omega) (fun z12245 h12246 => ?_)
            have h12246 : z12245.toInt = v118_5.toInt + (-1) := h12246
            refine g_goto C 118 dX12_findSolved_145 (by decide) ?_
            refine g_lv (lv' := [(0, .ref a0), (1, .int v33_1), (2, .int v118_2), (3, .int v118_3), (4, .int v140_s0), (5, .int z12245)]) [2, 3, 4, 5, 1, 0] rfl ?_
            exact ih118 v118_2 v118_3 v140_s0 z12245 (by omega) (by omega) (by omega) (by omega) (by omega)
          refine g_iload C dX12_findSolved_118 5 rfl ?_
          refine b_if_lt C 148 dX12_findSolved_120 (by decide) (fun h12247 => ?_) (fun h12247 => ?_)
          · have h12247 : v118_5.toInt < 0 := h12247
            refine g_iload C dX12_findSolved_148 4 rfl ?_
            refine b_if_ge C 176 dX12_findSolved_150 (by decide) (fun h12248 => ?_) (fun h12248 => ?_)
            · have h12248 : 0 ≤ v118_4.toInt := h12248
              refine g_iconst (v := 0) C dX12_findSolved_176 (by decide) ?_
              refine g_istore (lv' := [(5, .int 0), (0, .ref a0), (1, .int v33_1), (2, .int v118_2), (3, .int v118_3), (4, .int v118_4)]) C dX12_findSolved_177 (by decide) rfl ?_
              refine g_lv (lv' := [(0, .ref a0), (1, .int v33_1), (2, .int v118_2), (3, .int v118_3), (4, .int v118_4), (5, .int 0)]) [1, 2, 3, 4, 5, 0] rfl ?_
              exact J179 _ P33 v118_2 v118_3 v118_4 0 (Nat.lt_succ_self _) I33 X33 (by omega) (by omega) (by decide) (by omega)
            · have h12248 : v118_4.toInt < 0 := h12248
              refine g_aload_n C dX12_findSolved_153 rfl 0 rfl ?_
              refine g_aload_n C dX12_findSolved_154 rfl 0 rfl ?_
              refine g_getI C fi_X12_326 (by decide) (h12243).1 (h12243).2 dX12_findSolved_155 ?_
              have h12249 := I33.rg (h12243) 36 rfl
              refine b_if_eq C 169 dX12_findSolved_158 (by decide) (fun h12250 => ?_) (fun h12250 => ?_)
              · have h12250 : (pI P33 a0 36).toInt = 0 := congrArg Int32.toInt h12250
                refine g_lv (lv' := [(0, .ref a0), (1, .int v33_1)]) [0, 1] rfl ?_
                exact J169 (by omega) (by omega) (by omega)
              · have h12250 : (pI P33 a0 36).toInt ≠ 0 := ti_ne h12250
                refine g_iload_n C dX12_findSolved_161 rfl 3 rfl ?_
                have u12252 := ti_rng v118_3
                refine b_if_ne C 169 dX12_findSolved_162 (by decide) (fun h12251 => ?_) (fun h12251 => ?_)
                · have h12251 : v118_3.toInt ≠ 0 := ti_ne h12251
                  refine g_lv (lv' := [(0, .ref a0), (1, .int v33_1)]) [0, 1] rfl ?_
                  exact J169 (by omega) (by omega) (by omega)
                · have h12251 : v118_3.toInt = 0 := congrArg Int32.toInt h12251
                  refine g_iconst (v := 1) C dX12_findSolved_165 (by decide) ?_
                  refine g_goto C 170 dX12_findSolved_166 (by decide) ?_
                  refine g_lv (lv' := [(0, .ref a0), (1, .int v33_1)]) [0, 1] rfl ?_
                  exact J170 1 (by omega) (by decide) (by omega)
          · have h12247 : 0 ≤ v118_5.toInt := h12247
            refine g_iload_n C dX12_findSolved_123 rfl 2 rfl ?_
            refine g_iload C dX12_findSolved_124 5 rfl ?_
            refine a_ishr C dX12_findSolved_126 (fun z12253 => ?_)
            refine g_iconst (v := 1) C dX12_findSolved_127 (by decide) ?_
            refine s_iand C dX12_findSolved_128 (by show 0 ≤ 1; omega) (fun z12255 h12256 => ?_)
            have h12256 : 0 ≤ z12255.toInt ∧ z12255.toInt ≤ 1 := h12256
            refine g_iconst (v := 1) C dX12_findSolved_129 (by decide) ?_
            refine b_icmp_ne C 138 dX12_findSolved_130 (by decide) (fun h12257 => ?_) (fun h12257 => ?_)
            · have h12257 : z12255.toInt ≠ 1 := ti_ne h12257
              refine g_iload C dX12_findSolved_138 4 rfl ?_
              refine g_lv (lv' := [(0, .ref a0), (1, .int v33_1), (2, .int v118_2), (3, .int v118_3), (5, .int v118_5)]) [0, 1, 2, 3, 5] rfl ?_
              exact J140 v118_4 (by omega) (by omega) (by omega) (by omega)
            · have h12257 : z12255.toInt = 1 := congrArg Int32.toInt h12257
              refine g_iload C dX12_findSolved_133 5 rfl ?_
              refine g_goto C 140 dX12_findSolved_135 (by decide) ?_
              refine g_lv (lv' := [(0, .ref a0), (1, .int v33_1), (2, .int v118_2), (3, .int v118_3), (5, .int v118_5)]) [0, 1, 2, 3, 5] rfl ?_
              exact J140 v118_5 (by omega) (by omega) (by omega) (by omega)
      have J58 : ∀ (n58 : Nat) (v58_2 : Int32) (v58_3 : Int32) (v58_4 : Int32), (20 - v58_4.toInt).toNat < n58 → (0 ≤ v33_1.toInt ∧ v33_1.toInt ≤ 64) → (0 ≤ v58_4.toInt ∧ v58_4.toInt ≤ 20) → (1 ≤ (pI P33 a0 28).toInt ∧ (pI P33 a0 28).toInt ≤ 64) → G E ({ frames := 1, cells := 0, slots := 0, locals := 64 } : Room) D cy 6 P33 0 0 58 [(0, .ref a0), (1, .int v33_1), (2, .int v58_2), (3, .int v58_3), (4, .int v58_4)] [] := by
        intro n58
        induction n58 with
        | zero => intro v58_2 v58_3 v58_4 hm58 hv58_1 hv58_4 hq58_0; omega
        | succ n58 ih58 =>
          intro v58_2 v58_3 v58_4 hm58 hv58_1 hv58_4 hq58_0
          have h12258 := X33.at ha0
          have J105 : ∀ (v105_2 : Int32) (v105_3 : Int32), (0 ≤ v33_1.toInt ∧ v33_1.toInt ≤ 64) → (0 ≤ v58_4.toInt ∧ v58_4.toInt ≤ 19) → (1 ≤ (pI P33 a0 28).toInt ∧ (pI P33 a0 28).toInt ≤ 64) → G E ({ frames := 1, cells := 0, slots := 0, locals := 64 } : Room) D cy 6 P33 0 0 105 [(0, .ref a0), (1, .int v33_1), (2, .int v105_2), (3, .int v105_3), (4, .int v58_4)] [] := by
            intro v105_2 v105_3 hv105_1 hv105_4 hq105_0
            have h12259 := X33.at ha0
            refine s_iinc (lv0 := [(0, .ref a0), (1, .int v33_1), (2, .int v105_2), (3, .int v105_3)]) (m := 1) C dX12_findSolved_105 4 rfl (by decide) rfl (by decide) (by omega) (fun z12260 h12261 => ?_)
            have h12261 : z12260.toInt = v58_4.toInt + 1 := h12261
            refine g_goto C 58 dX12_findSolved_108 (by decide) ?_
            refine g_lv (lv' := [(0, .ref a0), (1, .int v33_1), (2, .int v105_2), (3, .int v105_3), (4, .int z12260)]) [1, 2, 3, 4, 0] rfl ?_
            exact ih58 v105_2 v105_3 z12260 (by omega) (by omega) (by omega) (by omega)
          refine g_iload C dX12_findSolved_58 4 rfl ?_
          refine g_bipush (v := 20) C dX12_findSolved_60 (by decide) ?_
          refine b_icmp_ge C 111 dX12_findSolved_62 (by decide) (fun h12262 => ?_) (fun h12262 => ?_)
          · have h12262 : 20 ≤ v58_4.toInt := h12262
            refine g_iconst (v := (-1)) C dX12_findSolved_111 (by decide) ?_
            refine g_istore (lv' := [(4, .int (-1)), (0, .ref a0), (1, .int v33_1), (2, .int v58_2), (3, .int v58_3)]) C dX12_findSolved_112 (by decide) rfl ?_
            refine g_bipush (v := 19) C dX12_findSolved_114 (by decide) ?_
            refine g_istore (lv' := [(5, .int 19), (4, .int (-1)), (0, .ref a0), (1, .int v33_1), (2, .int v58_2), (3, .int v58_3)]) C dX12_findSolved_116 (by decide) rfl ?_
            refine g_lv (lv' := [(0, .ref a0), (1, .int v33_1), (2, .int v58_2), (3, .int v58_3), (4, .int (-1)), (5, .int 19)]) [2, 3, 4, 5, 1, 0] rfl ?_
            exact J118 _ v58_2 v58_3 (-1) 19 (Nat.lt_succ_self _) (by omega) (by decide) (by decide) (by omega)
          · have h12262 : v58_4.toInt < 20 := h12262
            refine g_iload_n C dX12_findSolved_65 rfl 2 rfl ?_
            refine g_iload C dX12_findSolved_66 4 rfl ?_
            refine a_ishr C dX12_findSolved_68 (fun z12263 => ?_)
            refine g_iconst (v := 1) C dX12_findSolved_69 (by decide) ?_
            refine s_iand C dX12_findSolved_70 (by show 0 ≤ 1; omega) (fun z12265 h12266 => ?_)
            have h12266 : 0 ≤ z12265.toInt ∧ z12265.toInt ≤ 1 := h12266
            refine g_iconst (v := 1) C dX12_findSolved_71 (by decide) ?_
            refine b_icmp_ne C 105 dX12_findSolved_72 (by decide) (fun h12267 => ?_) (fun h12267 => ?_)
            · have h12267 : z12265.toInt ≠ 1 := ti_ne h12267
              exact J105 v58_2 v58_3 (by omega) (by omega) (by omega)
            · have h12267 : z12265.toInt = 1 := congrArg Int32.toInt h12267
              refine g_aload_n C dX12_findSolved_75 rfl 0 rfl ?_
              obtain ⟨b12268, e12269, h12270⟩ := I33.fld (h12258) 37 13 20 rfl
              refine g_getR C fi_X12_106 rfl e12269 (h12258).1 (h12258).2 dX12_findSolved_76 ?_
              refine g_iload C dX12_findSolved_79 4 rfl ?_
              refine g_iald (j := (v58_4.toInt.toNat)) C h12270.1 h12270.2.1 (ix_in h12270.2.2 (by omega)) dX12_findSolved_81 ?_
              have u12272 := ti_rng (pI P33 b12268 (v58_4.toInt.toNat))
              refine b_if_eq C 105 dX12_findSolved_82 (by decide) (fun h12271 => ?_) (fun h12271 => ?_)
              · have h12271 : (pI P33 b12268 (v58_4.toInt.toNat)).toInt = 0 := congrArg Int32.toInt h12271
                exact J105 v58_2 v58_3 (by omega) (by omega) (by omega)
              · have h12271 : (pI P33 b12268 (v58_4.toInt.toNat)).toInt ≠ 0 := ti_ne h12271
                refine g_iload_n C dX12_findSolved_85 rfl 2 rfl ?_
                refine g_aload_n C dX12_findSolved_86 rfl 0 rfl ?_
                refine g_getR C fi_X12_106 rfl e12269 (h12258).1 (h12258).2 dX12_findSolved_87 ?_
                refine g_iload C dX12_findSolved_90 4 rfl ?_
                refine g_iald (j := (v58_4.toInt.toNat)) C h12270.1 h12270.2.1 (ix_in h12270.2.2 (by omega)) dX12_findSolved_92 ?_
                refine a_ixor C dX12_findSolved_93 (fun z12273 => ?_)
                refine g_istore_n (lv' := [(2, .int z12273), (0, .ref a0), (1, .int v33_1), (3, .int v58_3), (4, .int v58_4)]) C dX12_findSolved_94 rfl (by decide) rfl ?_
                refine g_iload_n C dX12_findSolved_95 rfl 3 rfl ?_
                refine g_aload_n C dX12_findSolved_96 rfl 1 rfl ?_
                obtain ⟨b12275, e12276, h12277⟩ := I33.fld (h12258) 38 13 20 rfl
                refine g_getR C fi_X12_109 rfl e12276 (h12258).1 (h12258).2 dX12_findSolved_97 ?_
                refine g_iload C dX12_findSolved_100 4 rfl ?_
                refine g_iald (j := (v58_4.toInt.toNat)) C h12277.1 h12277.2.1 (ix_in h12277.2.2 (by omega)) dX12_findSolved_102 ?_
                refine a_ixor C dX12_findSolved_103 (fun z12278 => ?_)
                refine g_istore_n (lv' := [(3, .int z12278), (2, .int z12273), (0, .ref a0), (1, .int v33_1), (4, .int v58_4)]) C dX12_findSolved_104 rfl (by decide) rfl ?_
                refine g_lv (lv' := [(0, .ref a0), (1, .int v33_1), (2, .int z12273), (3, .int z12278), (4, .int v58_4)]) [2, 3, 1, 0, 4] rfl ?_
                exact J105 z12273 z12278 (by omega) (by omega) (by omega)
      refine g_iload_n C dX12_findSolved_33 rfl 1 rfl ?_
      refine g_aload_n C dX12_findSolved_34 rfl 0 rfl ?_
      refine g_getI C fi_X12_305 (by decide) (h12147).1 (h12147).2 dX12_findSolved_35 ?_
      have h12280 := I33.rg (h12147) 28 rfl
      refine b_icmp_ge C 262 dX12_findSolved_38 (by decide) (fun h12281 => ?_) (fun h12281 => ?_)
      · have h12281 : (pI P33 a0 28).toInt ≤ v33_1.toInt := h12281
        exact ret _ _ _ _ _ dX12_findSolved_262 (by decide) (by decide) ⟨I33, X33⟩
      · have h12281 : v33_1.toInt < (pI P33 a0 28).toInt := h12281
        refine g_aload_n C dX12_findSolved_41 rfl 0 rfl ?_
        obtain ⟨b12282, e12283, h12284⟩ := I33.fld (h12147) 29 13 64 rfl
        refine g_getR C fi_X12_91 rfl e12283 (h12147).1 (h12147).2 dX12_findSolved_42 ?_
        refine g_iload_n C dX12_findSolved_45 rfl 1 rfl ?_
        refine g_iald (j := (v33_1.toInt.toNat)) C h12284.1 h12284.2.1 (ix_in h12284.2.2 (by omega)) dX12_findSolved_46 ?_
        refine g_topi (fun z12285 h12286 => ?_)
        have h12286 : z12285.toInt = (pI P33 b12282 (v33_1.toInt.toNat)).toInt := congrArg Int32.toInt h12286
        refine g_istore_n (lv' := [(2, .int z12285), (0, .ref a0), (1, .int v33_1)]) C dX12_findSolved_47 rfl (by decide) rfl ?_
        refine g_aload_n C dX12_findSolved_48 rfl 1 rfl ?_
        obtain ⟨b12287, e12288, h12289⟩ := I33.fld (h12147) 30 13 64 rfl
        refine g_getR C fi_X12_94 rfl e12288 (h12147).1 (h12147).2 dX12_findSolved_49 ?_
        refine g_iload_n C dX12_findSolved_52 rfl 2 rfl ?_
        refine g_iald (j := (v33_1.toInt.toNat)) C h12289.1 h12289.2.1 (ix_in h12289.2.2 (by omega)) dX12_findSolved_53 ?_
        refine g_topi (fun z12290 h12291 => ?_)
        have h12291 : z12290.toInt = (pI P33 b12287 (v33_1.toInt.toNat)).toInt := congrArg Int32.toInt h12291
        refine g_istore_n (lv' := [(3, .int z12290), (2, .int z12285), (0, .ref a0), (1, .int v33_1)]) C dX12_findSolved_54 rfl (by decide) rfl ?_
        refine g_iconst (v := 0) C dX12_findSolved_55 (by decide) ?_
        refine g_istore (lv' := [(4, .int 0), (3, .int z12290), (2, .int z12285), (0, .ref a0), (1, .int v33_1)]) C dX12_findSolved_56 (by decide) rfl ?_
        refine g_lv (lv' := [(0, .ref a0), (1, .int v33_1), (2, .int z12285), (3, .int z12290), (4, .int 0)]) [3, 4, 2, 1, 0] rfl ?_
        exact J58 _ z12285 z12290 0 (Nat.lt_succ_self _) (by omega) (by decide) (by omega)
  have J12 : ∀ (n12 : Nat) (P12 : PP) (v12_1 : Int32), (20 - v12_1.toInt).toNat < n12 → (IM P12 a0) → (EM [35, 36, 37, 38] a0 P P12) → (0 ≤ v12_1.toInt ∧ v12_1.toInt ≤ 20) → (0 ≤ (pI P12 a0 35).toInt ∧ (pI P12 a0 35).toInt ≤ 0) → (1 ≤ (pI P12 a0 36).toInt ∧ (pI P12 a0 36).toInt ≤ 1) → G E ({ frames := 1, cells := 0, slots := 0, locals := 64 } : Room) D cy 6 P12 0 0 12 [(0, .ref a0), (1, .int v12_1)] [] := by
    intro n12
    induction n12 with
    | zero => intro P12 v12_1 hm12 I12 X12 hv12_1 hq12_0 hq12_1; omega
    | succ n12 ih12 =>
      intro P12 v12_1 hm12 I12 X12 hv12_1 hq12_0 hq12_1
      have h12292 := X12.at ha0
      refine g_iload_n C dX12_findSolved_12 rfl 1 rfl ?_
      refine g_bipush (v := 20) C dX12_findSolved_13 (by decide) ?_
      refine b_icmp_ge C 31 dX12_findSolved_15 (by decide) (fun h12293 => ?_) (fun h12293 => ?_)
      · have h12293 : 20 ≤ v12_1.toInt := h12293
        refine g_iconst (v := 0) C dX12_findSolved_31 (by decide) ?_
        refine g_istore_n (lv' := [(1, .int 0), (0, .ref a0)]) C dX12_findSolved_32 rfl (by decide) rfl ?_
        refine g_lv (lv' := [(0, .ref a0), (1, .int 0)]) [1, 0] rfl ?_
        exact J33 _ P12 0 (Nat.lt_succ_self _) I12 X12 (by decide)
      · have h12293 : v12_1.toInt < 20 := h12293
        refine g_aload_n C dX12_findSolved_18 rfl 0 rfl ?_
        obtain ⟨b12294, e12295, h12296⟩ := I12.fld (h12292) 37 13 20 rfl
        refine g_getR C fi_X12_106 rfl e12295 (h12292).1 (h12292).2 dX12_findSolved_19 ?_
        refine g_iload_n C dX12_findSolved_22 rfl 1 rfl ?_
        refine g_iconst (v := 0) C dX12_findSolved_23 (by decide) ?_
        refine g_iast (j := (v12_1.toInt.toNat)) C h12296.1 h12296.2.1 (ix_in h12296.2.2 (by omega)) dX12_findSolved_24 ?_
        refine gqW (ks := [37]) (I12.setA e12295 h12296 (by decide) (arOk.none rfl)) (EM.setA I12 e12295 rfl (by decide)) (fun Y12297 Iy12298 Xy12299 w12300 => ?_)
        have w12300 : (pI Y12297 b12294 (v12_1.toInt.toNat)).toInt = 0 := w12300
        have q12301 := Xy12299.keepF 35 (by decide)
        have q12302 := Xy12299.keepF 36 (by decide)
        have Xz12303 : EM [35, 36, 37, 38] a0 P Y12297 := EM.tr ha0 X12 (Xy12299.mono (by decide))
        have e12304 := Xy12299.ref h12292 (by decide) e12295
        have h12305 := Xy12299.at h12292
        have h12306 := Xy12299.ar h12296
        refine s_iinc (lv0 := [(0, .ref a0)]) (m := 1) C dX12_findSolved_25 1 rfl (by decide) rfl (by decide) (by omega) (fun z12307 h12308 => ?_)
        have h12308 : z12307.toInt = v12_1.toInt + 1 := h12308
        refine g_goto C 12 dX12_findSolved_28 (by decide) ?_
        refine g_lv (lv' := [(0, .ref a0), (1, .int z12307)]) [1, 0] rfl ?_
        exact ih12 Y12297 z12307 (by omega) Iy12298 Xz12303 (by omega) (by omega) (by omega)
  refine g_aload_n C dX12_findSolved_0 rfl 0 rfl ?_
  refine g_iconst (v := 0) C dX12_findSolved_1 (by decide) ?_
  refine g_putI C fi_X12_324 rfl (ha0).1 (ha0).2 dX12_findSolved_2 ?_
  refine gqW (ks := [35]) (I.setI (rgOk.none rfl)) (EM.setI I (by decide)) (fun Y12309 Iy12310 Xy12311 w12312 => ?_)
  have w12312 : (pI Y12309 a0 35).toInt = 0 := w12312
  have Xz12313 : EM [35, 36, 37, 38] a0 P Y12309 := Xy12311.mono (by decide)
  have h12314 := Xy12311.at ha0
  refine g_aload_n C dX12_findSolved_5 rfl 0 rfl ?_
  refine g_iconst (v := 1) C dX12_findSolved_6 (by decide) ?_
  refine g_putZ C fi_X12_326 rfl (Or.inr rfl) (h12314).1 (h12314).2 dX12_findSolved_7 ?_
  refine gqW (ks := [36]) (Iy12310.setI (rgOk.of rfl (by decide))) (EM.setI Iy12310 (by decide)) (fun Y12315 Iy12316 Xy12317 w12318 => ?_)
  have w12318 : (pI Y12315 a0 36).toInt = 1 := w12318
  have q12319 := Xy12317.keepF 35 (by decide)
  have Xz12320 : EM [35, 36, 37, 38] a0 P Y12315 := EM.tr ha0 Xz12313 (Xy12317.mono (by decide))
  have h12321 := Xy12317.at h12314
  refine g_iconst (v := 0) C dX12_findSolved_10 (by decide) ?_
  refine g_istore_n (lv' := [(1, .int 0), (0, .ref a0)]) C dX12_findSolved_11 rfl (by decide) rfl ?_
  refine g_lv (lv' := [(0, .ref a0), (1, .int 0)]) [1, 0] rfl ?_
  exact J12 _ Y12315 0 (Nat.lt_succ_self _) Iy12316 Xz12320 (by decide) (by omega) (by omega)
theorem dX12_chancesOf_72 : decode cX12_chancesOf 72 = .ok (.aload_n 0, 1) := by decide +kernel
theorem dX12_chancesOf_73 : decode cX12_chancesOf 73 = .ok (.invokevirtual 343, 3) := by decide +kernel
theorem dX12_findPeeled_0 : decode cX12_findPeeled 0 = .ok (.aload_n 0, 1) := by decide +kernel
theorem dX12_findPeeled_1 : decode cX12_findPeeled 1 = .ok (.iconst 0, 1) := by decide +kernel
theorem dX12_findPeeled_2 : decode cX12_findPeeled 2 = .ok (.putfield 318, 3) := by decide +kernel
theorem dX12_findPeeled_5 : decode cX12_findPeeled 5 = .ok (.iconst 1, 1) := by decide +kernel
theorem dX12_findPeeled_6 : decode cX12_findPeeled 6 = .ok (.istore_n 1, 1) := by decide +kernel
theorem dX12_findPeeled_7 : decode cX12_findPeeled 7 = .ok (.iload_n 1, 1) := by decide +kernel
theorem dX12_findPeeled_8 : decode cX12_findPeeled 8 = .ok (.ifCond .eq 112, 3) := by decide +kernel
theorem dX12_findPeeled_11 : decode cX12_findPeeled 11 = .ok (.iconst 0, 1) := by decide +kernel
theorem dX12_findPeeled_12 : decode cX12_findPeeled 12 = .ok (.istore_n 1, 1) := by decide +kernel
theorem dX12_findPeeled_13 : decode cX12_findPeeled 13 = .ok (.iconst 0, 1) := by decide +kernel
theorem dX12_findPeeled_14 : decode cX12_findPeeled 14 = .ok (.istore_n 2, 1) := by decide +kernel
theorem dX12_findPeeled_15 : decode cX12_findPeeled 15 = .ok (.iload_n 2, 1) := by decide +kernel
theorem dX12_findPeeled_16 : decode cX12_findPeeled 16 = .ok (.aload_n 0, 1) := by decide +kernel
theorem dX12_findPeeled_17 : decode cX12_findPeeled 17 = .ok (.getfield 305, 3) := by decide +kernel
theorem dX12_findPeeled_20 : decode cX12_findPeeled 20 = .ok (.if_icmp .ge 97, 3) := by decide +kernel
theorem dX12_findPeeled_23 : decode cX12_findPeeled 23 = .ok (.iload_n 1, 1) := by decide +kernel
theorem dX12_findPeeled_24 : decode cX12_findPeeled 24 = .ok (.ifCond .ne 93, 3) := by decide +kernel
theorem dX12_findPeeled_27 : decode cX12_findPeeled 27 = .ok (.aload_n 0, 1) := by decide +kernel
theorem dX12_findPeeled_28 : decode cX12_findPeeled 28 = .ok (.getfield 91, 3) := by decide +kernel
theorem dX12_findPeeled_31 : decode cX12_findPeeled 31 = .ok (.iload_n 2, 1) := by decide +kernel
theorem dX12_findPeeled_32 : decode cX12_findPeeled 32 = .ok (.iaload, 1) := by decide +kernel
theorem dX12_findPeeled_33 : decode cX12_findPeeled 33 = .ok (.aload_n 0, 1) := by decide +kernel
theorem dX12_findPeeled_34 : decode cX12_findPeeled 34 = .ok (.getfield 318, 3) := by decide +kernel
theorem dX12_findPeeled_37 : decode cX12_findPeeled 37 = .ok (.iconst (-1), 1) := by decide +kernel
theorem dX12_findPeeled_38 : decode cX12_findPeeled 38 = .ok (.ixor, 1) := by decide +kernel
theorem dX12_findPeeled_39 : decode cX12_findPeeled 39 = .ok (.iand, 1) := by decide +kernel
theorem dX12_findPeeled_40 : decode cX12_findPeeled 40 = .ok (.istore_n 3, 1) := by decide +kernel
theorem dX12_findPeeled_41 : decode cX12_findPeeled 41 = .ok (.iload_n 3, 1) := by decide +kernel
theorem dX12_findPeeled_42 : decode cX12_findPeeled 42 = .ok (.invokestatic 264, 3) := by decide +kernel
theorem dX12_findPeeled_45 : decode cX12_findPeeled 45 = .ok (.iconst 1, 1) := by decide +kernel
theorem dX12_findPeeled_46 : decode cX12_findPeeled 46 = .ok (.if_icmp .ne 65, 3) := by decide +kernel
theorem dX12_findPeeled_49 : decode cX12_findPeeled 49 = .ok (.iconst 1, 1) := by decide +kernel
theorem dX12_findPeeled_50 : decode cX12_findPeeled 50 = .ok (.istore_n 1, 1) := by decide +kernel
theorem dX12_findPeeled_51 : decode cX12_findPeeled 51 = .ok (.aload_n 0, 1) := by decide +kernel
theorem dX12_findPeeled_52 : decode cX12_findPeeled 52 = .ok (.iload_n 2, 1) := by decide +kernel
theorem dX12_findPeeled_53 : decode cX12_findPeeled 53 = .ok (.invokevirtual 321, 3) := by decide +kernel
theorem dX12_comesTo_0 : decode cX12_comesTo 0 = .ok (.aload_n 0, 1) := by decide +kernel
theorem dX12_comesTo_1 : decode cX12_comesTo 1 = .ok (.getfield 94, 3) := by decide +kernel
theorem dX12_comesTo_4 : decode cX12_comesTo 4 = .ok (.iload_n 1, 1) := by decide +kernel
theorem dX12_comesTo_5 : decode cX12_comesTo 5 = .ok (.iaload, 1) := by decide +kernel
theorem dX12_comesTo_6 : decode cX12_comesTo 6 = .ok (.istore_n 2, 1) := by decide +kernel
theorem dX12_comesTo_7 : decode cX12_comesTo 7 = .ok (.iconst 0, 1) := by decide +kernel
theorem dX12_comesTo_8 : decode cX12_comesTo 8 = .ok (.istore_n 3, 1) := by decide +kernel
theorem dX12_comesTo_9 : decode cX12_comesTo 9 = .ok (.iload_n 3, 1) := by decide +kernel
theorem dX12_comesTo_10 : decode cX12_comesTo 10 = .ok (.bipush 20, 2) := by decide +kernel
theorem dX12_comesTo_12 : decode cX12_comesTo 12 = .ok (.if_icmp .ge 40, 3) := by decide +kernel
theorem dX12_comesTo_15 : decode cX12_comesTo 15 = .ok (.iload_n 2, 1) := by decide +kernel
theorem dX12_comesTo_16 : decode cX12_comesTo 16 = .ok (.aload_n 0, 1) := by decide +kernel
theorem dX12_comesTo_17 : decode cX12_comesTo 17 = .ok (.getfield 91, 3) := by decide +kernel
theorem dX12_comesTo_20 : decode cX12_comesTo 20 = .ok (.iload_n 1, 1) := by decide +kernel
theorem dX12_comesTo_21 : decode cX12_comesTo 21 = .ok (.iaload, 1) := by decide +kernel
theorem dX12_comesTo_22 : decode cX12_comesTo 22 = .ok (.aload_n 0, 1) := by decide +kernel
theorem dX12_comesTo_23 : decode cX12_comesTo 23 = .ok (.getfield 318, 3) := by decide +kernel
theorem dX12_comesTo_26 : decode cX12_comesTo 26 = .ok (.iand, 1) := by decide +kernel
theorem dX12_comesTo_27 : decode cX12_comesTo 27 = .ok (.iconst 1, 1) := by decide +kernel
theorem dX12_comesTo_28 : decode cX12_comesTo 28 = .ok (.iload_n 3, 1) := by decide +kernel
theorem dX12_comesTo_29 : decode cX12_comesTo 29 = .ok (.ishl, 1) := by decide +kernel
theorem dX12_comesTo_30 : decode cX12_comesTo 30 = .ok (.iand, 1) := by decide +kernel
theorem dX12_comesTo_31 : decode cX12_comesTo 31 = .ok (.ifCond .eq 12, 3) := by decide +kernel
theorem dX12_comesTo_34 : decode cX12_comesTo 34 = .ok (.aload_n 0, 1) := by decide +kernel
theorem dX12_comesTo_35 : decode cX12_comesTo 35 = .ok (.getfield 103, 3) := by decide +kernel
theorem dX12_comesTo_38 : decode cX12_comesTo 38 = .ok (.iload_n 3, 1) := by decide +kernel
theorem dX12_comesTo_39 : decode cX12_comesTo 39 = .ok (.iaload, 1) := by decide +kernel
theorem dX12_comesTo_40 : decode cX12_comesTo 40 = .ok (.goto 4, 3) := by decide +kernel
theorem dX12_comesTo_43 : decode cX12_comesTo 43 = .ok (.iconst 0, 1) := by decide +kernel
theorem dX12_comesTo_44 : decode cX12_comesTo 44 = .ok (.ixor, 1) := by decide +kernel
theorem dX12_comesTo_45 : decode cX12_comesTo 45 = .ok (.istore_n 2, 1) := by decide +kernel
theorem dX12_comesTo_46 : decode cX12_comesTo 46 = .ok (.iinc 3 1, 3) := by decide +kernel
theorem dX12_comesTo_49 : decode cX12_comesTo 49 = .ok (.goto (-40), 3) := by decide +kernel
theorem dX12_comesTo_52 : decode cX12_comesTo 52 = .ok (.iload_n 2, 1) := by decide +kernel
theorem dX12_comesTo_53 : decode cX12_comesTo 53 = .ok (.ireturn, 1) := by decide +kernel
set_option maxHeartbeats 4000000 in
set_option maxRecDepth 100000 in
theorem s_X12_comesTo {P : PP} {a0 : Nat} {a1 : Int32} (I : IM P a0) (ha1 : 0 ≤ a1.toInt ∧ a1.toInt ≤ 63) : CtrI yX12_comesTo cX12_comesTo 4 (some Jvm.ClassFile.FieldType.int) ({ frames := 1, cells := 0, slots := 0, locals := 64 } : Room) 0 0 P [.ref a0, .int a1] (fun r P2 => P = P2 ∧ (True)) := by
  refine enI (lv := [(0, .ref a0), (1, .int a1)]) (by decide) (Nat.le_of_ble_eq_true rfl) rfl (fun E D cy C Ci0 ret => ?_)
  have ha0 := I.2.1
  have J9 : ∀ (n9 : Nat) (v9_2 : Int32) (v9_3 : Int32), (20 - v9_3.toInt).toNat < n9 → (0 ≤ v9_3.toInt ∧ v9_3.toInt ≤ 20) → G E ({ frames := 1, cells := 0, slots := 0, locals := 64 } : Room) D cy 4 P 0 0 9 [(0, .ref a0), (1, .int a1), (2, .int v9_2), (3, .int v9_3)] [] := by
    intro n9
    induction n9 with
    | zero => intro v9_2 v9_3 hm9 hv9_3; omega
    | succ n9 ih9 =>
      intro v9_2 v9_3 hm9 hv9_3
      have J44 : ∀ (v44_s0 : Int32), (0 ≤ v9_3.toInt ∧ v9_3.toInt ≤ 19) → G E ({ frames := 1, cells := 0, slots := 0, locals := 64 } : Room) D cy 4 P 0 0 44 [(0, .ref a0), (1, .int a1), (3, .int v9_3)] [.int v44_s0, .int v9_2] := by
        intro v44_s0 hv44_3
        refine a_ixor C dX12_comesTo_44 (fun z12671 => ?_)
        refine g_istore_n (lv' := [(2, .int z12671), (0, .ref a0), (1, .int a1), (3, .int v9_3)]) C dX12_comesTo_45 rfl (by decide) rfl ?_
        refine s_iinc (lv0 := [(2, .int z12671), (0, .ref a0), (1, .int a1)]) (m := 1) C dX12_comesTo_46 3 rfl (by decide) rfl (by decide) (by omega) (fun z12673 h12674 => ?_)
        have h12674 : z12673.toInt = v9_3.toInt + 1 := h12674
        refine g_goto C 9 dX12_comesTo_49 (by decide) ?_
        refine g_lv (lv' := [(0, .ref a0), (1, .int a1), (2, .int z12671), (3, .int z12673)]) [2, 3, 1, 0] rfl ?_
        exact ih9 z12671 z12673 (by omega) (by omega)
      refine g_iload_n C dX12_comesTo_9 rfl 3 rfl ?_
      refine g_bipush (v := 20) C dX12_comesTo_10 (by decide) ?_
      refine b_icmp_ge C 52 dX12_comesTo_12 (by decide) (fun h12675 => ?_) (fun h12675 => ?_)
      · have h12675 : 20 ≤ v9_3.toInt := h12675
        refine g_iload_n C dX12_comesTo_52 rfl 2 rfl ?_
        exact ret _ _ _ _ _ _ dX12_comesTo_53 rfl (by decide) (by decide) ⟨rfl, trivial⟩
      · have h12675 : v9_3.toInt < 20 := h12675
        refine g_iload_n C dX12_comesTo_15 rfl 2 rfl ?_
        refine g_aload_n C dX12_comesTo_16 rfl 0 rfl ?_
        obtain ⟨b12676, e12677, h12678⟩ := I.fld (ha0) 29 13 64 rfl
        refine g_getR C fi_X12_91 rfl e12677 (ha0).1 (ha0).2 dX12_comesTo_17 ?_
        refine g_iload_n C dX12_comesTo_20 rfl 1 rfl ?_
        refine g_iald (j := (a1.toInt.toNat)) C h12678.1 h12678.2.1 (ix_in h12678.2.2 (by omega)) dX12_comesTo_21 ?_
        refine g_aload_n C dX12_comesTo_22 rfl 0 rfl ?_
        refine g_getI C fi_X12_318 (by decide) (ha0).1 (ha0).2 dX12_comesTo_23 ?_
        refine a_iand C dX12_comesTo_26 (fun z12679 => ?_)
        refine g_iconst (v := 1) C dX12_comesTo_27 (by decide) ?_
        refine g_iload_n C dX12_comesTo_28 rfl 3 rfl ?_
        refine a_ishl C dX12_comesTo_29 (fun z12681 => ?_)
        refine a_iand C dX12_comesTo_30 (fun z12683 => ?_)
        have u12686 := ti_rng z12683
        refine b_if_eq C 43 dX12_comesTo_31 (by decide) (fun h12685 => ?_) (fun h12685 => ?_)
        · have h12685 : z12683.toInt = 0 := congrArg Int32.toInt h12685
          refine g_iconst (v := 0) C dX12_comesTo_43 (by decide) ?_
          refine g_lv (lv' := [(0, .ref a0), (1, .int a1), (3, .int v9_3)]) [0, 1, 3] rfl ?_
          exact J44 0 (by omega)
        · have h12685 : z12683.toInt ≠ 0 := ti_ne h12685
          refine g_aload_n C dX12_comesTo_34 rfl 0 rfl ?_
          obtain ⟨b12687, e12688, h12689⟩ := I.fld (ha0) 34 13 20 rfl
          refine g_getR C fi_X12_103 rfl e12688 (ha0).1 (ha0).2 dX12_comesTo_35 ?_
          refine g_iload_n C dX12_comesTo_38 rfl 3 rfl ?_
          refine g_iald (j := (v9_3.toInt.toNat)) C h12689.1 h12689.2.1 (ix_in h12689.2.2 (by omega)) dX12_comesTo_39 ?_
          refine g_goto C 44 dX12_comesTo_40 (by decide) ?_
          refine g_lv (lv' := [(0, .ref a0), (1, .int a1), (3, .int v9_3)]) [0, 1, 3] rfl ?_
          exact J44 (pI P b12687 (v9_3.toInt.toNat)) (by omega)
  refine g_aload_n C dX12_comesTo_0 rfl 0 rfl ?_
  obtain ⟨b12690, e12691, h12692⟩ := I.fld (ha0) 30 13 64 rfl
  refine g_getR C fi_X12_94 rfl e12691 (ha0).1 (ha0).2 dX12_comesTo_1 ?_
  refine g_iload_n C dX12_comesTo_4 rfl 1 rfl ?_
  refine g_iald (j := (a1.toInt.toNat)) C h12692.1 h12692.2.1 (ix_in h12692.2.2 (by omega)) dX12_comesTo_5 ?_
  refine g_topi (fun z12693 h12694 => ?_)
  have h12694 : z12693.toInt = (pI P b12690 (a1.toInt.toNat)).toInt := congrArg Int32.toInt h12694
  refine g_istore_n (lv' := [(2, .int z12693), (0, .ref a0), (1, .int a1)]) C dX12_comesTo_6 rfl (by decide) rfl ?_
  refine g_iconst (v := 0) C dX12_comesTo_7 (by decide) ?_
  refine g_istore_n (lv' := [(3, .int 0), (2, .int z12693), (0, .ref a0), (1, .int a1)]) C dX12_comesTo_8 rfl (by decide) rfl ?_
  refine g_lv (lv' := [(0, .ref a0), (1, .int a1), (2, .int z12693), (3, .int 0)]) [2, 3, 1, 0] rfl ?_
  exact J9 _ z12693 0 (Nat.lt_succ_self _) (by decide)
