theorem dX12_adds_0 : decode cX12_adds 0 = .ok (.aload_n 0, 1) := by decide +kernel
theorem dX12_adds_1 : decode cX12_adds 1 = .ok (.getfield 91, 3) := by decide +kernel
theorem dX12_adds_4 : decode cX12_adds 4 = .ok (.aload_n 0, 1) := by decide +kernel
theorem dX12_adds_5 : decode cX12_adds 5 = .ok (.getfield 305, 3) := by decide +kernel
theorem dX12_adds_8 : decode cX12_adds 8 = .ok (.iload_n 1, 1) := by decide +kernel
theorem dX12_adds_9 : decode cX12_adds 9 = .ok (.iastore, 1) := by decide +kernel
theorem dX12_adds_10 : decode cX12_adds 10 = .ok (.aload_n 0, 1) := by decide +kernel
theorem dX12_adds_11 : decode cX12_adds 11 = .ok (.getfield 94, 3) := by decide +kernel
theorem dX12_adds_14 : decode cX12_adds 14 = .ok (.aload_n 0, 1) := by decide +kernel
theorem dX12_adds_15 : decode cX12_adds 15 = .ok (.getfield 305, 3) := by decide +kernel
theorem dX12_adds_18 : decode cX12_adds 18 = .ok (.iload_n 2, 1) := by decide +kernel
theorem dX12_adds_19 : decode cX12_adds 19 = .ok (.iastore, 1) := by decide +kernel
theorem dX12_adds_20 : decode cX12_adds 20 = .ok (.aload_n 0, 1) := by decide +kernel
theorem dX12_adds_21 : decode cX12_adds 21 = .ok (.getfield 97, 3) := by decide +kernel
theorem dX12_adds_24 : decode cX12_adds 24 = .ok (.aload_n 0, 1) := by decide +kernel
theorem dX12_adds_25 : decode cX12_adds 25 = .ok (.getfield 305, 3) := by decide +kernel
theorem dX12_adds_28 : decode cX12_adds 28 = .ok (.iload_n 3, 1) := by decide +kernel
theorem dX12_adds_29 : decode cX12_adds 29 = .ok (.iastore, 1) := by decide +kernel
theorem dX12_adds_30 : decode cX12_adds 30 = .ok (.aload_n 0, 1) := by decide +kernel
theorem dX12_adds_31 : decode cX12_adds 31 = .ok (.dup, 1) := by decide +kernel
theorem dX12_adds_32 : decode cX12_adds 32 = .ok (.getfield 305, 3) := by decide +kernel
theorem dX12_adds_35 : decode cX12_adds 35 = .ok (.iconst 1, 1) := by decide +kernel
theorem dX12_adds_36 : decode cX12_adds 36 = .ok (.iadd, 1) := by decide +kernel
theorem dX12_adds_37 : decode cX12_adds 37 = .ok (.putfield 305, 3) := by decide +kernel
theorem dX12_adds_40 : decode cX12_adds 40 = .ok (.return_, 1) := by decide +kernel
set_option maxHeartbeats 4000000 in
set_option maxRecDepth 100000 in
theorem s_X12_adds {P : PP} {a0 : Nat} {a1 : Int32} {a2 : Int32} {a3 : Int32} (I : IM P a0) (hp0_28 : 0 ≤ (pI P a0 28).toInt ∧ (pI P a0 28).toInt ≤ 63) : CtrV yX12_adds cX12_adds 4 none ({ frames := 1, cells := 0, slots := 0, locals := 64 } : Room) 0 0 P [.ref a0, .int a1, .int a2, .int a3] (fun P2 => IM P2 a0 ∧ EM [28, 29, 30, 31] a0 P P2 ∧ ((pI P2 a0 28).toInt = (pI P a0 28).toInt + 1)) := by
  refine enV (lv := [(0, .ref a0), (1, .int a1), (2, .int a2), (3, .int a3)]) (by decide) (Nat.le_of_ble_eq_true rfl) rfl (fun E D cy C Ci0 ret => ?_)
  have ha0 := I.2.1
  refine g_aload_n C dX12_adds_0 rfl 0 rfl ?_
  obtain ⟨b39, e40, h41⟩ := I.fld (ha0) 29 13 64 rfl
  refine g_getR C fi_X12_91 rfl e40 (ha0).1 (ha0).2 dX12_adds_1 ?_
  refine g_aload_n C dX12_adds_4 rfl 0 rfl ?_
  refine g_getI C fi_X12_305 (by decide) (ha0).1 (ha0).2 dX12_adds_5 ?_
  refine g_iload_n C dX12_adds_8 rfl 1 rfl ?_
  refine g_iast (j := ((pI P a0 28).toInt.toNat)) C h41.1 h41.2.1 (ix_in h41.2.2 (by omega)) dX12_adds_9 ?_
  refine gqW (ks := [29]) (I.setA e40 h41 (by decide) (arOk.none rfl)) (EM.setA I e40 rfl (by decide)) (fun Y42 Iy43 Xy44 w45 => ?_)
  have w45 : (pI Y42 b39 ((pI P a0 28).toInt.toNat)).toInt = a1.toInt := w45
  have q46 := Xy44.keepF 28 (by decide)
  have Xz47 : EM [28, 29, 30, 31] a0 P Y42 := Xy44.mono (by decide)
  have h48 := Xy44.at ha0
  refine g_aload_n C dX12_adds_10 rfl 0 rfl ?_
  obtain ⟨b49, e50, h51⟩ := Iy43.fld (h48) 30 13 64 rfl
  refine g_getR C fi_X12_94 rfl e50 (h48).1 (h48).2 dX12_adds_11 ?_
  refine g_aload_n C dX12_adds_14 rfl 0 rfl ?_
  refine g_getI C fi_X12_305 (by decide) (h48).1 (h48).2 dX12_adds_15 ?_
  refine g_iload_n C dX12_adds_18 rfl 2 rfl ?_
  refine g_iast (j := ((pI Y42 a0 28).toInt.toNat)) C h51.1 h51.2.1 (ix_in h51.2.2 (by omega)) dX12_adds_19 ?_
  refine gqW (ks := [30]) (Iy43.setA e50 h51 (by decide) (arOk.none rfl)) (EM.setA Iy43 e50 rfl (by decide)) (fun Y52 Iy53 Xy54 w55 => ?_)
  have w55 : (pI Y52 b49 ((pI Y42 a0 28).toInt.toNat)).toInt = a2.toInt := w55
  have q56 := Xy54.keepF 28 (by decide)
  have Xz57 : EM [28, 29, 30, 31] a0 P Y52 := EM.tr ha0 Xz47 (Xy54.mono (by decide))
  have h58 := Xy54.at h48
  refine g_aload_n C dX12_adds_20 rfl 0 rfl ?_
  obtain ⟨b59, e60, h61⟩ := Iy53.fld (h58) 31 13 64 rfl
  refine g_getR C fi_X12_97 rfl e60 (h58).1 (h58).2 dX12_adds_21 ?_
  refine g_aload_n C dX12_adds_24 rfl 0 rfl ?_
  refine g_getI C fi_X12_305 (by decide) (h58).1 (h58).2 dX12_adds_25 ?_
  refine g_iload_n C dX12_adds_28 rfl 3 rfl ?_
  refine g_iast (j := ((pI Y52 a0 28).toInt.toNat)) C h61.1 h61.2.1 (ix_in h61.2.2 (by omega)) dX12_adds_29 ?_
  refine gqW (ks := [31]) (Iy53.setA e60 h61 (by decide) (arOk.none rfl)) (EM.setA Iy53 e60 rfl (by decide)) (fun Y62 Iy63 Xy64 w65 => ?_)
  have w65 : (pI Y62 b59 ((pI Y52 a0 28).toInt.toNat)).toInt = a3.toInt := w65
  have q66 := Xy64.keepF 28 (by decide)
  have Xz67 : EM [28, 29, 30, 31] a0 P Y62 := EM.tr ha0 Xz57 (Xy64.mono (by decide))
  have h68 := Xy64.at h58
  refine g_aload_n C dX12_adds_30 rfl 0 rfl ?_
  refine g_dup C dX12_adds_31 rfl ?_
  refine g_getI C fi_X12_305 (by decide) (h68).1 (h68).2 dX12_adds_32 ?_
  refine g_iconst (v := 1) C dX12_adds_35 (by decide) ?_
  refine s_iadd C dX12_adds_36 (by show -2147483648 ≤ (pI Y62 a0 28).toInt + 1 ∧ (pI Y62 a0 28).toInt + 1 ≤ 2147483647; omega) (fun z69 h70 => ?_)
  have h70 : z69.toInt = (pI Y62 a0 28).toInt + 1 := h70
  refine g_putI C fi_X12_305 rfl (h68).1 (h68).2 dX12_adds_37 ?_
  refine gqW (ks := [28]) (Iy63.setI (rgOk.of rfl (by omega))) (EM.setI Iy63 (by decide)) (fun Y71 Iy72 Xy73 w74 => ?_)
  have w74 : (pI Y71 a0 28).toInt = z69.toInt := w74
  have Xz75 : EM [28, 29, 30, 31] a0 P Y71 := EM.tr ha0 Xz67 (Xy73.mono (by decide))
  have h76 := Xy73.at h68
  exact ret _ _ _ _ _ dX12_adds_40 (by decide) (by decide) ⟨Iy72, Xz75, (by show (pI Y71 a0 28).toInt = (pI P a0 28).toInt + 1; omega)⟩
theorem dX12_agreesBy_0 : decode cX12_agreesBy 0 = .ok (.iconst 0, 1) := by decide +kernel
theorem dX12_agreesBy_1 : decode cX12_agreesBy 1 = .ok (.istore 4, 2) := by decide +kernel
theorem dX12_agreesBy_3 : decode cX12_agreesBy 3 = .ok (.iload 4, 2) := by decide +kernel
theorem dX12_agreesBy_5 : decode cX12_agreesBy 5 = .ok (.iconst 2, 1) := by decide +kernel
theorem dX12_agreesBy_6 : decode cX12_agreesBy 6 = .ok (.if_icmp .ge 121, 3) := by decide +kernel
theorem dX12_agreesBy_9 : decode cX12_agreesBy 9 = .ok (.aload_n 0, 1) := by decide +kernel
theorem dX12_agreesBy_10 : decode cX12_agreesBy 10 = .ok (.iload_n 1, 1) := by decide +kernel
theorem dX12_agreesBy_11 : decode cX12_agreesBy 11 = .ok (.iload_n 2, 1) := by decide +kernel
theorem dX12_agreesBy_12 : decode cX12_agreesBy 12 = .ok (.iload 4, 2) := by decide +kernel
theorem dX12_agreesBy_14 : decode cX12_agreesBy 14 = .ok (.aload_n 0, 1) := by decide +kernel
theorem dX12_agreesBy_15 : decode cX12_agreesBy 15 = .ok (.getfield 69, 3) := by decide +kernel
theorem dX12_agreesBy_18 : decode cX12_agreesBy 18 = .ok (.iload_n 1, 1) := by decide +kernel
theorem dX12_agreesBy_19 : decode cX12_agreesBy 19 = .ok (.iaload, 1) := by decide +kernel
theorem dX12_agreesBy_20 : decode cX12_agreesBy 20 = .ok (.invokevirtual 339, 3) := by decide +kernel
theorem dX12_gathers_0 : decode cX12_gathers 0 = .ok (.aload_n 0, 1) := by decide +kernel
theorem dX12_gathers_1 : decode cX12_gathers 1 = .ok (.iload_n 2, 1) := by decide +kernel
theorem dX12_gathers_2 : decode cX12_gathers 2 = .ok (.invokevirtual 312, 3) := by decide +kernel
theorem dX12_begins_0 : decode cX12_begins 0 = .ok (.aload_n 0, 1) := by decide +kernel
theorem dX12_begins_1 : decode cX12_begins 1 = .ok (.iconst 0, 1) := by decide +kernel
theorem dX12_begins_2 : decode cX12_begins 2 = .ok (.putfield 305, 3) := by decide +kernel
theorem dX12_begins_5 : decode cX12_begins 5 = .ok (.iconst 0, 1) := by decide +kernel
theorem dX12_begins_6 : decode cX12_begins 6 = .ok (.istore_n 2, 1) := by decide +kernel
theorem dX12_begins_7 : decode cX12_begins 7 = .ok (.iload_n 2, 1) := by decide +kernel
theorem dX12_begins_8 : decode cX12_begins 8 = .ok (.aload_n 0, 1) := by decide +kernel
theorem dX12_begins_9 : decode cX12_begins 9 = .ok (.getfield 60, 3) := by decide +kernel
theorem dX12_begins_12 : decode cX12_begins 12 = .ok (.iload_n 1, 1) := by decide +kernel
theorem dX12_begins_13 : decode cX12_begins 13 = .ok (.iaload, 1) := by decide +kernel
theorem dX12_begins_14 : decode cX12_begins 14 = .ok (.if_icmp .ge 36, 3) := by decide +kernel
theorem dX12_begins_17 : decode cX12_begins 17 = .ok (.aload_n 0, 1) := by decide +kernel
theorem dX12_begins_18 : decode cX12_begins 18 = .ok (.aload_n 0, 1) := by decide +kernel
theorem dX12_begins_19 : decode cX12_begins 19 = .ok (.getfield 63, 3) := by decide +kernel
theorem dX12_begins_22 : decode cX12_begins 22 = .ok (.iconst 4, 1) := by decide +kernel
theorem dX12_begins_23 : decode cX12_begins 23 = .ok (.iload_n 1, 1) := by decide +kernel
theorem dX12_begins_24 : decode cX12_begins 24 = .ok (.imul, 1) := by decide +kernel
theorem dX12_begins_25 : decode cX12_begins 25 = .ok (.iload_n 2, 1) := by decide +kernel
theorem dX12_begins_26 : decode cX12_begins 26 = .ok (.iadd, 1) := by decide +kernel
theorem dX12_begins_27 : decode cX12_begins 27 = .ok (.iaload, 1) := by decide +kernel
theorem dX12_begins_28 : decode cX12_begins 28 = .ok (.iconst 1, 1) := by decide +kernel
theorem dX12_begins_29 : decode cX12_begins 29 = .ok (.aload_n 0, 1) := by decide +kernel
theorem dX12_begins_30 : decode cX12_begins 30 = .ok (.getfield 45, 3) := by decide +kernel
theorem dX12_begins_33 : decode cX12_begins 33 = .ok (.iload_n 1, 1) := by decide +kernel
theorem dX12_begins_34 : decode cX12_begins 34 = .ok (.iaload, 1) := by decide +kernel
theorem dX12_begins_35 : decode cX12_begins 35 = .ok (.iload_n 2, 1) := by decide +kernel
theorem dX12_begins_36 : decode cX12_begins 36 = .ok (.iadd, 1) := by decide +kernel
theorem dX12_begins_37 : decode cX12_begins 37 = .ok (.ishl, 1) := by decide +kernel
theorem dX12_begins_38 : decode cX12_begins 38 = .ok (.ior, 1) := by decide +kernel
theorem dX12_begins_39 : decode cX12_begins 39 = .ok (.iconst 0, 1) := by decide +kernel
theorem dX12_begins_40 : decode cX12_begins 40 = .ok (.iconst (-1), 1) := by decide +kernel
theorem dX12_begins_41 : decode cX12_begins 41 = .ok (.invokevirtual 308, 3) := by decide +kernel
theorem dX12_begins_44 : decode cX12_begins 44 = .ok (.iinc 2 1, 3) := by decide +kernel
theorem dX12_begins_47 : decode cX12_begins 47 = .ok (.goto (-40), 3) := by decide +kernel
theorem dX12_begins_50 : decode cX12_begins 50 = .ok (.return_, 1) := by decide +kernel
set_option maxHeartbeats 4000000 in
set_option maxRecDepth 100000 in
theorem s_X12_begins {P : PP} {a0 : Nat} {a1 : Int32} (I : IM P a0) (ha1 : 0 ≤ a1.toInt ∧ a1.toInt ≤ 1) : CtrV yX12_begins cX12_begins 3 none ({ frames := 2, cells := 0, slots := 0, locals := 128 } : Room) 0 0 P [.ref a0, .int a1] (fun P2 => IM P2 a0 ∧ EM [28, 29, 30, 31] a0 P P2 ∧ ((pI P2 a0 28).toInt ≤ 4)) := by
  refine enV (lv := [(0, .ref a0), (1, .int a1)]) (by decide) (Nat.le_of_ble_eq_true rfl) rfl (fun E D cy C Ci0 ret => ?_)
  have ha0 := I.2.1
  have J7 : ∀ (n7 : Nat) (P7 : PP) (v7_2 : Int32), (4 - v7_2.toInt).toNat < n7 → (IM P7 a0) → (EM [28, 29, 30, 31] a0 P P7) → (0 ≤ v7_2.toInt ∧ v7_2.toInt ≤ 4) → (0 ≤ (pI P7 a0 28).toInt) → ((pI P7 a0 28).toInt ≤ v7_2.toInt) → G E ({ frames := 2, cells := 0, slots := 0, locals := 128 } : Room) D cy 3 P7 0 0 7 [(0, .ref a0), (1, .int a1), (2, .int v7_2)] [] := by
    intro n7
    induction n7 with
    | zero => intro P7 v7_2 hm7 I7 X7 hv7_2 hq7_0 rel7_0; omega
    | succ n7 ih7 =>
      intro P7 v7_2 hm7 I7 X7 hv7_2 hq7_0 rel7_0
      have h1375 := X7.at ha0
      refine g_iload_n C dX12_begins_7 rfl 2 rfl ?_
      refine g_aload_n C dX12_begins_8 rfl 0 rfl ?_
      obtain ⟨b1376, e1377, h1378⟩ := I7.fld (h1375) 15 13 3 rfl
      refine g_getR C fi_X12_60 rfl e1377 (h1375).1 (h1375).2 dX12_begins_9 ?_
      refine g_iload_n C dX12_begins_12 rfl 1 rfl ?_
      refine g_iald (j := (a1.toInt.toNat)) C h1378.1 h1378.2.1 (ix_in h1378.2.2 (by omega)) dX12_begins_13 ?_
      have h1379 := I7.arr e1377 rfl (a1.toInt.toNat)
      refine b_icmp_ge C 50 dX12_begins_14 (by decide) (fun h1380 => ?_) (fun h1380 => ?_)
      · have h1380 : (pI P7 b1376 (a1.toInt.toNat)).toInt ≤ v7_2.toInt := h1380
        exact ret _ _ _ _ _ dX12_begins_50 (by decide) (by decide) ⟨I7, X7, (by show (pI P7 a0 28).toInt ≤ 4; omega)⟩
      · have h1380 : v7_2.toInt < (pI P7 b1376 (a1.toInt.toNat)).toInt := h1380
        refine g_aload_n C dX12_begins_17 rfl 0 rfl ?_
        refine g_aload_n C dX12_begins_18 rfl 0 rfl ?_
        obtain ⟨b1381, e1382, h1383⟩ := I7.fld (h1375) 16 13 12 rfl
        refine g_getR C fi_X12_63 rfl e1382 (h1375).1 (h1375).2 dX12_begins_19 ?_
        refine g_iconst (v := 4) C dX12_begins_22 (by decide) ?_
        refine g_iload_n C dX12_begins_23 rfl 1 rfl ?_
        refine s_imul C dX12_begins_24 (by show -2147483648 ≤ 4 * a1.toInt ∧ 4 * a1.toInt ≤ 2147483647; omega) (fun z1384 h1385 => ?_)
        have h1385 : z1384.toInt = 4 * a1.toInt := h1385
        refine g_iload_n C dX12_begins_25 rfl 2 rfl ?_
        refine s_iadd C dX12_begins_26 (by show -2147483648 ≤ z1384.toInt + v7_2.toInt ∧ z1384.toInt + v7_2.toInt ≤ 2147483647; omega) (fun z1386 h1387 => ?_)
        have h1387 : z1386.toInt = z1384.toInt + v7_2.toInt := h1387
        refine g_iald (j := (z1386.toInt.toNat)) C h1383.1 h1383.2.1 (ix_in h1383.2.2 (by omega)) dX12_begins_27 ?_
        refine g_iconst (v := 1) C dX12_begins_28 (by decide) ?_
        refine g_aload_n C dX12_begins_29 rfl 0 rfl ?_
        obtain ⟨b1388, e1389, h1390⟩ := I7.fld (h1375) 10 13 2 rfl
        refine g_getR C fi_X12_45 rfl e1389 (h1375).1 (h1375).2 dX12_begins_30 ?_
        refine g_iload_n C dX12_begins_33 rfl 1 rfl ?_
        refine g_iald (j := (a1.toInt.toNat)) C h1390.1 h1390.2.1 (ix_in h1390.2.2 (by omega)) dX12_begins_34 ?_
        have h1391 := I7.arr e1389 rfl (a1.toInt.toNat)
        refine g_iload_n C dX12_begins_35 rfl 2 rfl ?_
        refine s_iadd C dX12_begins_36 (by show -2147483648 ≤ (pI P7 b1388 (a1.toInt.toNat)).toInt + v7_2.toInt ∧ (pI P7 b1388 (a1.toInt.toNat)).toInt + v7_2.toInt ≤ 2147483647; omega) (fun z1392 h1393 => ?_)
        have h1393 : z1392.toInt = (pI P7 b1388 (a1.toInt.toNat)).toInt + v7_2.toInt := h1393
        refine a_ishl C dX12_begins_37 (fun z1394 => ?_)
        refine a_ior C dX12_begins_38 (fun z1396 => ?_)
        refine g_iconst (v := 0) C dX12_begins_39 (by decide) ?_
        refine g_iconst (v := (-1)) C dX12_begins_40 (by decide) ?_
        refine g_callVV (rest := []) C mv_X12_308 [.int z1396, .int 0, .int (-1)] (s_X12_adds I7 (by omega)) (h1375).1 (h1375).2 rfl rfl (by decide) (Nat.le_of_ble_eq_true rfl) (by decide) dX12_begins_41 (fun Y1399 h1400 => ?_)
        obtain ⟨Iy1401, Xy1402, p1403⟩ := h1400
        have p1403 : (pI Y1399 a0 28).toInt = (pI P7 a0 28).toInt + 1 := p1403
        have q1404 := Xy1402.keepA e1377 (by decide) rfl (a1.toInt.toNat)
        have q1405 := Xy1402.keepA e1389 (by decide) rfl (a1.toInt.toNat)
        have Xz1406 : EM [28, 29, 30, 31] a0 P Y1399 := EM.tr ha0 X7 (Xy1402.mono (by decide))
        have e1407 := Xy1402.ref h1375 (by decide) e1377
        have e1408 := Xy1402.ref h1375 (by decide) e1389
        have h1409 := Xy1402.at h1375
        have h1410 := Xy1402.ar h1378
        have h1411 := Xy1402.ar h1390
        refine s_iinc (lv0 := [(0, .ref a0), (1, .int a1)]) (m := 1) C dX12_begins_44 2 rfl (by decide) rfl (by decide) (by omega) (fun z1412 h1413 => ?_)
        have h1413 : z1412.toInt = v7_2.toInt + 1 := h1413
        refine g_goto C 7 dX12_begins_47 (by decide) ?_
        refine g_lv (lv' := [(0, .ref a0), (1, .int a1), (2, .int z1412)]) [1, 2, 0] rfl ?_
        exact ih7 Y1399 z1412 (by omega) Iy1401 Xz1406 (by omega) (by omega) (by show (pI Y1399 a0 28).toInt ≤ z1412.toInt; omega)
  refine g_aload_n C dX12_begins_0 rfl 0 rfl ?_
  refine g_iconst (v := 0) C dX12_begins_1 (by decide) ?_
  refine g_putI C fi_X12_305 rfl (ha0).1 (ha0).2 dX12_begins_2 ?_
  refine gqW (ks := [28]) (I.setI (rgOk.of rfl (by decide))) (EM.setI I (by decide)) (fun Y1414 Iy1415 Xy1416 w1417 => ?_)
  have w1417 : (pI Y1414 a0 28).toInt = 0 := w1417
  have Xz1418 : EM [28, 29, 30, 31] a0 P Y1414 := Xy1416.mono (by decide)
  have h1419 := Xy1416.at ha0
  refine g_iconst (v := 0) C dX12_begins_5 (by decide) ?_
  refine g_istore_n (lv' := [(2, .int 0), (0, .ref a0), (1, .int a1)]) C dX12_begins_6 rfl (by decide) rfl ?_
  refine g_lv (lv' := [(0, .ref a0), (1, .int a1), (2, .int 0)]) [1, 2, 0] rfl ?_
  exact J7 _ Y1414 0 (Nat.lt_succ_self _) Iy1415 Xz1418 (by decide) (by omega) (by show (pI Y1414 a0 28).toInt ≤ 0; omega)
theorem dX12_gathers_5 : decode cX12_gathers 5 = .ok (.iconst 0, 1) := by decide +kernel
theorem dX12_gathers_6 : decode cX12_gathers 6 = .ok (.istore 5, 2) := by decide +kernel
theorem dX12_gathers_8 : decode cX12_gathers 8 = .ok (.iload 5, 2) := by decide +kernel
theorem dX12_gathers_10 : decode cX12_gathers 10 = .ok (.iload 4, 2) := by decide +kernel
theorem dX12_gathers_12 : decode cX12_gathers 12 = .ok (.if_icmp .ge 83, 3) := by decide +kernel
theorem dX12_gathers_15 : decode cX12_gathers 15 = .ok (.bipush 40, 2) := by decide +kernel
theorem dX12_gathers_17 : decode cX12_gathers 17 = .ok (.iload_n 1, 1) := by decide +kernel
theorem dX12_gathers_18 : decode cX12_gathers 18 = .ok (.imul, 1) := by decide +kernel
theorem dX12_gathers_19 : decode cX12_gathers 19 = .ok (.iload 5, 2) := by decide +kernel
theorem dX12_gathers_21 : decode cX12_gathers 21 = .ok (.iadd, 1) := by decide +kernel
theorem dX12_gathers_22 : decode cX12_gathers 22 = .ok (.istore 6, 2) := by decide +kernel
theorem dX12_gathers_24 : decode cX12_gathers 24 = .ok (.aload_n 0, 1) := by decide +kernel
theorem dX12_gathers_25 : decode cX12_gathers 25 = .ok (.getfield 75, 3) := by decide +kernel
theorem dX12_gathers_28 : decode cX12_gathers 28 = .ok (.iload 6, 2) := by decide +kernel
theorem dX12_gathers_30 : decode cX12_gathers 30 = .ok (.iaload, 1) := by decide +kernel
theorem dX12_gathers_31 : decode cX12_gathers 31 = .ok (.iload_n 2, 1) := by decide +kernel
theorem dX12_gathers_32 : decode cX12_gathers 32 = .ok (.if_icmp .ne 57, 3) := by decide +kernel
theorem dX12_gathers_35 : decode cX12_gathers 35 = .ok (.aload_n 0, 1) := by decide +kernel
theorem dX12_gathers_36 : decode cX12_gathers 36 = .ok (.getfield 81, 3) := by decide +kernel
theorem dX12_gathers_39 : decode cX12_gathers 39 = .ok (.iload 6, 2) := by decide +kernel
theorem dX12_gathers_41 : decode cX12_gathers 41 = .ok (.iaload, 1) := by decide +kernel
theorem dX12_gathers_42 : decode cX12_gathers 42 = .ok (.iload_n 3, 1) := by decide +kernel
theorem dX12_gathers_43 : decode cX12_gathers 43 = .ok (.ishr, 1) := by decide +kernel
theorem dX12_gathers_44 : decode cX12_gathers 44 = .ok (.iconst 1, 1) := by decide +kernel
theorem dX12_gathers_45 : decode cX12_gathers 45 = .ok (.iand, 1) := by decide +kernel
theorem dX12_gathers_46 : decode cX12_gathers 46 = .ok (.iconst 1, 1) := by decide +kernel
theorem dX12_gathers_47 : decode cX12_gathers 47 = .ok (.if_icmp .ne 42, 3) := by decide +kernel
theorem dX12_gathers_50 : decode cX12_gathers 50 = .ok (.aload_n 0, 1) := by decide +kernel
theorem dX12_gathers_51 : decode cX12_gathers 51 = .ok (.getfield 100, 3) := by decide +kernel
theorem dX12_gathers_54 : decode cX12_gathers 54 = .ok (.iload 5, 2) := by decide +kernel
theorem dX12_gathers_56 : decode cX12_gathers 56 = .ok (.baload, 1) := by decide +kernel
theorem dX12_gathers_57 : decode cX12_gathers 57 = .ok (.ifCond .ne 32, 3) := by decide +kernel
theorem dX12_gathers_60 : decode cX12_gathers 60 = .ok (.aload_n 0, 1) := by decide +kernel
theorem dX12_gathers_61 : decode cX12_gathers 61 = .ok (.aload_n 0, 1) := by decide +kernel
theorem dX12_gathers_62 : decode cX12_gathers 62 = .ok (.iload_n 2, 1) := by decide +kernel
theorem dX12_gathers_63 : decode cX12_gathers 63 = .ok (.aload_n 0, 1) := by decide +kernel
theorem dX12_gathers_64 : decode cX12_gathers 64 = .ok (.getfield 72, 3) := by decide +kernel
theorem dX12_gathers_67 : decode cX12_gathers 67 = .ok (.iload 6, 2) := by decide +kernel
theorem dX12_gathers_69 : decode cX12_gathers 69 = .ok (.iaload, 1) := by decide +kernel
theorem dX12_gathers_70 : decode cX12_gathers 70 = .ok (.invokevirtual 261, 3) := by decide +kernel
theorem dX12_gathers_95 : decode cX12_gathers 95 = .ok (.return_, 1) := by decide +kernel
theorem dX12_setOf_0 : decode cX12_setOf 0 = .ok (.aload_n 0, 1) := by decide +kernel
theorem dX12_setOf_1 : decode cX12_setOf 1 = .ok (.iload_n 2, 1) := by decide +kernel
theorem dX12_setOf_2 : decode cX12_setOf 2 = .ok (.i2l, 1) := by decide +kernel
theorem dX12_setOf_3 : decode cX12_setOf 3 = .ok (.ldc2_w 248, 3) := by decide +kernel
theorem dX12_setOf_6 : decode cX12_setOf 6 = .ok (.lmul, 1) := by decide +kernel
theorem dX12_setOf_7 : decode cX12_setOf 7 = .ok (.iload_n 1, 1) := by decide +kernel
theorem dX12_setOf_8 : decode cX12_setOf 8 = .ok (.i2l, 1) := by decide +kernel
theorem dX12_setOf_9 : decode cX12_setOf 9 = .ok (.ldc2_w 250, 3) := by decide +kernel
theorem dX12_setOf_12 : decode cX12_setOf 12 = .ok (.lmul, 1) := by decide +kernel
theorem dX12_setOf_13 : decode cX12_setOf 13 = .ok (.ladd, 1) := by decide +kernel
theorem dX12_setOf_14 : decode cX12_setOf 14 = .ok (.lconst 1, 1) := by decide +kernel
theorem dX12_setOf_15 : decode cX12_setOf 15 = .ok (.ladd, 1) := by decide +kernel
theorem dX12_setOf_16 : decode cX12_setOf 16 = .ok (.ldc2_w 234, 3) := by decide +kernel
theorem dX12_setOf_19 : decode cX12_setOf 19 = .ok (.lrem, 1) := by decide +kernel
theorem dX12_setOf_20 : decode cX12_setOf 20 = .ok (.putfield 226, 3) := by decide +kernel
theorem dX12_setOf_23 : decode cX12_setOf 23 = .ok (.aload_n 0, 1) := by decide +kernel
theorem dX12_setOf_24 : decode cX12_setOf 24 = .ok (.iload_n 1, 1) := by decide +kernel
theorem dX12_setOf_25 : decode cX12_setOf 25 = .ok (.invokevirtual 252, 3) := by decide +kernel
theorem dX12_howMany_0 : decode cX12_howMany 0 = .ok (.iconst 0, 1) := by decide +kernel
theorem dX12_howMany_1 : decode cX12_howMany 1 = .ok (.istore_n 2, 1) := by decide +kernel
theorem dX12_howMany_2 : decode cX12_howMany 2 = .ok (.iconst 1, 1) := by decide +kernel
theorem dX12_howMany_3 : decode cX12_howMany 3 = .ok (.istore_n 3, 1) := by decide +kernel
theorem dX12_howMany_4 : decode cX12_howMany 4 = .ok (.iload_n 3, 1) := by decide +kernel
theorem dX12_howMany_5 : decode cX12_howMany 5 = .ok (.aload_n 0, 1) := by decide +kernel
theorem dX12_howMany_6 : decode cX12_howMany 6 = .ok (.iload_n 1, 1) := by decide +kernel
theorem dX12_howMany_7 : decode cX12_howMany 7 = .ok (.invokevirtual 238, 3) := by decide +kernel
theorem dX12_allOf_0 : decode cX12_allOf 0 = .ok (.aload_n 0, 1) := by decide +kernel
theorem dX12_allOf_1 : decode cX12_allOf 1 = .ok (.getfield 45, 3) := by decide +kernel
theorem dX12_allOf_4 : decode cX12_allOf 4 = .ok (.iload_n 1, 1) := by decide +kernel
theorem dX12_allOf_5 : decode cX12_allOf 5 = .ok (.iaload, 1) := by decide +kernel
theorem dX12_allOf_6 : decode cX12_allOf 6 = .ok (.ifCond .ne 7, 3) := by decide +kernel
theorem dX12_allOf_9 : decode cX12_allOf 9 = .ok (.iconst 0, 1) := by decide +kernel
theorem dX12_allOf_10 : decode cX12_allOf 10 = .ok (.goto 16, 3) := by decide +kernel
theorem dX12_allOf_13 : decode cX12_allOf 13 = .ok (.aload_n 0, 1) := by decide +kernel
theorem dX12_allOf_14 : decode cX12_allOf 14 = .ok (.getfield 45, 3) := by decide +kernel
theorem dX12_allOf_17 : decode cX12_allOf 17 = .ok (.iload_n 1, 1) := by decide +kernel
theorem dX12_allOf_18 : decode cX12_allOf 18 = .ok (.iaload, 1) := by decide +kernel
theorem dX12_allOf_19 : decode cX12_allOf 19 = .ok (.aload_n 0, 1) := by decide +kernel
theorem dX12_allOf_20 : decode cX12_allOf 20 = .ok (.getfield 60, 3) := by decide +kernel
theorem dX12_allOf_23 : decode cX12_allOf 23 = .ok (.iload_n 1, 1) := by decide +kernel
theorem dX12_allOf_24 : decode cX12_allOf 24 = .ok (.iaload, 1) := by decide +kernel
theorem dX12_allOf_25 : decode cX12_allOf 25 = .ok (.iadd, 1) := by decide +kernel
theorem dX12_allOf_26 : decode cX12_allOf 26 = .ok (.ireturn, 1) := by decide +kernel
set_option maxHeartbeats 4000000 in
set_option maxRecDepth 100000 in
theorem s_X12_allOf {P : PP} {a0 : Nat} {a1 : Int32} (I : IM P a0) (ha1 : 0 ≤ a1.toInt ∧ a1.toInt ≤ 1) : CtrI yX12_allOf cX12_allOf 2 (some Jvm.ClassFile.FieldType.int) ({ frames := 1, cells := 0, slots := 0, locals := 64 } : Room) 0 0 P [.ref a0, .int a1] (fun r P2 => P = P2 ∧ (0 ≤ r.toInt ∧ r.toInt ≤ 20) ∧ (r.toInt = 0 ∨ ∀ b c, pR P2 a0 10 = some b → pR P2 a0 15 = some c → r.toInt = (pI P2 b (a1.toInt.toNat)).toInt + (pI P2 c (a1.toInt.toNat)).toInt)) := by
  refine enI (lv := [(0, .ref a0), (1, .int a1)]) (by decide) (Nat.le_of_ble_eq_true rfl) rfl (fun E D cy C Ci0 ret => ?_)
  have ha0 := I.2.1
  refine g_aload_n C dX12_allOf_0 rfl 0 rfl ?_
  obtain ⟨b1481, e1482, h1483⟩ := I.fld (ha0) 10 13 2 rfl
  refine g_getR C fi_X12_45 rfl e1482 (ha0).1 (ha0).2 dX12_allOf_1 ?_
  refine g_iload_n C dX12_allOf_4 rfl 1 rfl ?_
  refine g_iald (j := (a1.toInt.toNat)) C h1483.1 h1483.2.1 (ix_in h1483.2.2 (by omega)) dX12_allOf_5 ?_
  have h1484 := I.arr e1482 rfl (a1.toInt.toNat)
  refine b_if_ne C 13 dX12_allOf_6 (by decide) (fun h1485 => ?_) (fun h1485 => ?_)
  · have h1485 : (pI P b1481 (a1.toInt.toNat)).toInt ≠ 0 := ti_ne h1485
    refine g_aload_n C dX12_allOf_13 rfl 0 rfl ?_
    refine g_getR C fi_X12_45 rfl e1482 (ha0).1 (ha0).2 dX12_allOf_14 ?_
    refine g_iload_n C dX12_allOf_17 rfl 1 rfl ?_
    refine g_iald (j := (a1.toInt.toNat)) C h1483.1 h1483.2.1 (ix_in h1483.2.2 (by omega)) dX12_allOf_18 ?_
    refine g_aload_n C dX12_allOf_19 rfl 0 rfl ?_
    obtain ⟨b1486, e1487, h1488⟩ := I.fld (ha0) 15 13 3 rfl
    refine g_getR C fi_X12_60 rfl e1487 (ha0).1 (ha0).2 dX12_allOf_20 ?_
    refine g_iload_n C dX12_allOf_23 rfl 1 rfl ?_
    refine g_iald (j := (a1.toInt.toNat)) C h1488.1 h1488.2.1 (ix_in h1488.2.2 (by omega)) dX12_allOf_24 ?_
    have h1489 := I.arr e1487 rfl (a1.toInt.toNat)
    refine s_iadd C dX12_allOf_25 (by show -2147483648 ≤ (pI P b1481 (a1.toInt.toNat)).toInt + (pI P b1486 (a1.toInt.toNat)).toInt ∧ (pI P b1481 (a1.toInt.toNat)).toInt + (pI P b1486 (a1.toInt.toNat)).toInt ≤ 2147483647; omega) (fun z1490 h1491 => ?_)
    have h1491 : z1490.toInt = (pI P b1481 (a1.toInt.toNat)).toInt + (pI P b1486 (a1.toInt.toNat)).toInt := h1491
    exact ret _ _ _ _ _ _ dX12_allOf_26 rfl (by decide) (by decide) ⟨rfl, (by omega), Or.inr (fun b9 c9 e9 f9 => by rw [e1482] at e9; cases e9; rw [e1487] at f9; cases f9; show z1490.toInt = (pI P b1481 (a1.toInt.toNat)).toInt + (pI P b1486 (a1.toInt.toNat)).toInt; omega)⟩
  · have h1485 : (pI P b1481 (a1.toInt.toNat)).toInt = 0 := congrArg Int32.toInt h1485
    refine g_iconst (v := 0) C dX12_allOf_9 (by decide) ?_
    refine g_goto C 26 dX12_allOf_10 (by decide) ?_
    exact ret _ _ _ _ _ _ dX12_allOf_26 rfl (by decide) (by decide) ⟨rfl, (by decide), Or.inl rfl⟩
theorem dX12_howMany_10 : decode cX12_howMany 10 = .ok (.if_icmp .gt 18, 3) := by decide +kernel
theorem dX12_howMany_13 : decode cX12_howMany 13 = .ok (.iload_n 2, 1) := by decide +kernel
theorem dX12_howMany_14 : decode cX12_howMany 14 = .ok (.aload_n 0, 1) := by decide +kernel
theorem dX12_howMany_15 : decode cX12_howMany 15 = .ok (.iload_n 1, 1) := by decide +kernel
theorem dX12_howMany_16 : decode cX12_howMany 16 = .ok (.iload_n 3, 1) := by decide +kernel
theorem dX12_howMany_17 : decode cX12_howMany 17 = .ok (.invokevirtual 241, 3) := by decide +kernel
theorem dX12_howMany_28 : decode cX12_howMany 28 = .ok (.iload_n 2, 1) := by decide +kernel
theorem dX12_howMany_29 : decode cX12_howMany 29 = .ok (.ifCond .ne 5, 3) := by decide +kernel
theorem dX12_howMany_32 : decode cX12_howMany 32 = .ok (.iconst 1, 1) := by decide +kernel
theorem dX12_howMany_33 : decode cX12_howMany 33 = .ok (.ireturn, 1) := by decide +kernel
theorem dX12_oddsOf_0 : decode cX12_oddsOf 0 = .ok (.aload_n 0, 1) := by decide +kernel
theorem dX12_oddsOf_1 : decode cX12_oddsOf 1 = .ok (.getfield 51, 3) := by decide +kernel
theorem dX12_oddsOf_4 : decode cX12_oddsOf 4 = .ok (.bipush 21, 2) := by decide +kernel
theorem dX12_oddsOf_6 : decode cX12_oddsOf 6 = .ok (.iload_n 1, 1) := by decide +kernel
theorem dX12_oddsOf_7 : decode cX12_oddsOf 7 = .ok (.imul, 1) := by decide +kernel
theorem dX12_oddsOf_8 : decode cX12_oddsOf 8 = .ok (.iload_n 2, 1) := by decide +kernel
theorem dX12_oddsOf_9 : decode cX12_oddsOf 9 = .ok (.iadd, 1) := by decide +kernel
theorem dX12_oddsOf_10 : decode cX12_oddsOf 10 = .ok (.iaload, 1) := by decide +kernel
theorem dX12_oddsOf_11 : decode cX12_oddsOf 11 = .ok (.ifCond .ge 7, 3) := by decide +kernel
theorem dX12_oddsOf_14 : decode cX12_oddsOf 14 = .ok (.iconst 0, 1) := by decide +kernel
theorem dX12_oddsOf_15 : decode cX12_oddsOf 15 = .ok (.goto 14, 3) := by decide +kernel
theorem dX12_oddsOf_18 : decode cX12_oddsOf 18 = .ok (.aload_n 0, 1) := by decide +kernel
theorem dX12_oddsOf_19 : decode cX12_oddsOf 19 = .ok (.getfield 51, 3) := by decide +kernel
theorem dX12_oddsOf_22 : decode cX12_oddsOf 22 = .ok (.bipush 21, 2) := by decide +kernel
theorem dX12_oddsOf_24 : decode cX12_oddsOf 24 = .ok (.iload_n 1, 1) := by decide +kernel
theorem dX12_oddsOf_25 : decode cX12_oddsOf 25 = .ok (.imul, 1) := by decide +kernel
theorem dX12_oddsOf_26 : decode cX12_oddsOf 26 = .ok (.iload_n 2, 1) := by decide +kernel
theorem dX12_oddsOf_27 : decode cX12_oddsOf 27 = .ok (.iadd, 1) := by decide +kernel
theorem dX12_oddsOf_28 : decode cX12_oddsOf 28 = .ok (.iaload, 1) := by decide +kernel
theorem dX12_oddsOf_29 : decode cX12_oddsOf 29 = .ok (.ireturn, 1) := by decide +kernel
set_option maxHeartbeats 4000000 in
set_option maxRecDepth 100000 in
theorem s_X12_oddsOf {P : PP} {a0 : Nat} {a1 : Int32} {a2 : Int32} (I : IM P a0) (ha1 : 0 ≤ a1.toInt ∧ a1.toInt ≤ 1) (ha2 : 0 ≤ a2.toInt ∧ a2.toInt ≤ 20) : CtrI yX12_oddsOf cX12_oddsOf 3 (some Jvm.ClassFile.FieldType.int) ({ frames := 1, cells := 0, slots := 0, locals := 64 } : Room) 0 0 P [.ref a0, .int a1, .int a2] (fun r P2 => P = P2 ∧ (True)) := by
  refine enI (lv := [(0, .ref a0), (1, .int a1), (2, .int a2)]) (by decide) (Nat.le_of_ble_eq_true rfl) rfl (fun E D cy C Ci0 ret => ?_)
  have ha0 := I.2.1
  refine g_aload_n C dX12_oddsOf_0 rfl 0 rfl ?_
  obtain ⟨b1519, e1520, h1521⟩ := I.fld (ha0) 12 13 63 rfl
  refine g_getR C fi_X12_51 rfl e1520 (ha0).1 (ha0).2 dX12_oddsOf_1 ?_
  refine g_bipush (v := 21) C dX12_oddsOf_4 (by decide) ?_
  refine g_iload_n C dX12_oddsOf_6 rfl 1 rfl ?_
  refine s_imul C dX12_oddsOf_7 (by show -2147483648 ≤ 21 * a1.toInt ∧ 21 * a1.toInt ≤ 2147483647; omega) (fun z1522 h1523 => ?_)
  have h1523 : z1522.toInt = 21 * a1.toInt := h1523
  refine g_iload_n C dX12_oddsOf_8 rfl 2 rfl ?_
  refine s_iadd C dX12_oddsOf_9 (by show -2147483648 ≤ z1522.toInt + a2.toInt ∧ z1522.toInt + a2.toInt ≤ 2147483647; omega) (fun z1524 h1525 => ?_)
  have h1525 : z1524.toInt = z1522.toInt + a2.toInt := h1525
  refine g_iald (j := (z1524.toInt.toNat)) C h1521.1 h1521.2.1 (ix_in h1521.2.2 (by omega)) dX12_oddsOf_10 ?_
  have u1527 := ti_rng (pI P b1519 (z1524.toInt.toNat))
  refine b_if_ge C 18 dX12_oddsOf_11 (by decide) (fun h1526 => ?_) (fun h1526 => ?_)
  · have h1526 : 0 ≤ (pI P b1519 (z1524.toInt.toNat)).toInt := h1526
    refine g_aload_n C dX12_oddsOf_18 rfl 0 rfl ?_
    refine g_getR C fi_X12_51 rfl e1520 (ha0).1 (ha0).2 dX12_oddsOf_19 ?_
    refine g_bipush (v := 21) C dX12_oddsOf_22 (by decide) ?_
    refine g_iload_n C dX12_oddsOf_24 rfl 1 rfl ?_
    refine s_imul C dX12_oddsOf_25 (by show -2147483648 ≤ 21 * a1.toInt ∧ 21 * a1.toInt ≤ 2147483647; omega) (fun z1528 h1529 => ?_)
    have h1529 : z1528.toInt = 21 * a1.toInt := h1529
    refine g_iload_n C dX12_oddsOf_26 rfl 2 rfl ?_
    refine s_iadd C dX12_oddsOf_27 (by show -2147483648 ≤ z1528.toInt + a2.toInt ∧ z1528.toInt + a2.toInt ≤ 2147483647; omega) (fun z1530 h1531 => ?_)
    have h1531 : z1530.toInt = z1528.toInt + a2.toInt := h1531
    refine g_iald (j := (z1530.toInt.toNat)) C h1521.1 h1521.2.1 (ix_in h1521.2.2 (by omega)) dX12_oddsOf_28 ?_
    exact ret _ _ _ _ _ _ dX12_oddsOf_29 rfl (by decide) (by decide) ⟨rfl, trivial⟩
  · have h1526 : (pI P b1519 (z1524.toInt.toNat)).toInt < 0 := h1526
    refine g_iconst (v := 0) C dX12_oddsOf_14 (by decide) ?_
    refine g_goto C 29 dX12_oddsOf_15 (by decide) ?_
    exact ret _ _ _ _ _ _ dX12_oddsOf_29 rfl (by decide) (by decide) ⟨rfl, trivial⟩
theorem dX12_howMany_20 : decode cX12_howMany 20 = .ok (.iadd, 1) := by decide +kernel
theorem dX12_howMany_21 : decode cX12_howMany 21 = .ok (.istore_n 2, 1) := by decide +kernel
theorem dX12_howMany_22 : decode cX12_howMany 22 = .ok (.iinc 3 1, 3) := by decide +kernel
theorem dX12_howMany_25 : decode cX12_howMany 25 = .ok (.goto (-21), 3) := by decide +kernel
theorem dX12_howMany_34 : decode cX12_howMany 34 = .ok (.aload_n 0, 1) := by decide +kernel
theorem dX12_howMany_35 : decode cX12_howMany 35 = .ok (.invokevirtual 244, 3) := by decide +kernel
theorem dX12_drawn_0 : decode cX12_drawn 0 = .ok (.aload_n 0, 1) := by decide +kernel
theorem dX12_drawn_1 : decode cX12_drawn 1 = .ok (.aload_n 0, 1) := by decide +kernel
theorem dX12_drawn_2 : decode cX12_drawn 2 = .ok (.getfield 226, 3) := by decide +kernel
theorem dX12_drawn_5 : decode cX12_drawn 5 = .ok (.ldc2_w 230, 3) := by decide +kernel
theorem dX12_drawn_8 : decode cX12_drawn 8 = .ok (.lmul, 1) := by decide +kernel
theorem dX12_drawn_9 : decode cX12_drawn 9 = .ok (.ldc2_w 232, 3) := by decide +kernel
theorem dX12_drawn_12 : decode cX12_drawn 12 = .ok (.ladd, 1) := by decide +kernel
theorem dX12_drawn_13 : decode cX12_drawn 13 = .ok (.ldc2_w 234, 3) := by decide +kernel
theorem dX12_drawn_16 : decode cX12_drawn 16 = .ok (.lrem, 1) := by decide +kernel
theorem dX12_drawn_17 : decode cX12_drawn 17 = .ok (.putfield 226, 3) := by decide +kernel
theorem dX12_drawn_20 : decode cX12_drawn 20 = .ok (.aload_n 0, 1) := by decide +kernel
theorem dX12_drawn_21 : decode cX12_drawn 21 = .ok (.getfield 226, 3) := by decide +kernel
theorem dX12_drawn_24 : decode cX12_drawn 24 = .ok (.ldc2_w 236, 3) := by decide +kernel
theorem dX12_drawn_27 : decode cX12_drawn 27 = .ok (.ldiv, 1) := by decide +kernel
theorem dX12_drawn_28 : decode cX12_drawn 28 = .ok (.l2i, 1) := by decide +kernel
theorem dX12_drawn_29 : decode cX12_drawn 29 = .ok (.ireturn, 1) := by decide +kernel
set_option maxHeartbeats 4000000 in
set_option maxRecDepth 100000 in
theorem s_X12_drawn {P : PP} {a0 : Nat} (I : IM P a0) : CtrI yX12_drawn cX12_drawn 1 (some Jvm.ClassFile.FieldType.int) ({ frames := 1, cells := 0, slots := 0, locals := 64 } : Room) 0 0 P [.ref a0] (fun r P2 => IM P2 a0 ∧ EM [] a0 P P2 ∧ (True)) := by
  refine enI (lv := [(0, .ref a0)]) (by decide) (Nat.le_of_ble_eq_true rfl) rfl (fun E D cy C Ci0 ret => ?_)
  have ha0 := I.2.1
  refine g_aload_n C dX12_drawn_0 rfl 0 rfl ?_
  refine g_aload_n C dX12_drawn_1 rfl 0 rfl ?_
  refine g_getJ C fi_X12_226 rfl (ha0).1 (ha0).2 dX12_drawn_2 ?_
  refine g_topl (fun l1584 _ => ?_)
  refine g_ldc2 (v := 1103515245) C kl_X12_230 dX12_drawn_5 ?_
  refine g_topl (fun l1585 el1585 => ?_)
  have hz_l1585 : ¬ l1585 = 0 := by rw [el1585]; decide
  refine a_lmul C dX12_drawn_8 (fun l1586 => ?_)
  refine g_ldc2 (v := 12345) C kl_X12_232 dX12_drawn_9 ?_
  refine g_topl (fun l1587 el1587 => ?_)
  have hz_l1587 : ¬ l1587 = 0 := by rw [el1587]; decide
  refine a_ladd C dX12_drawn_12 (fun l1588 => ?_)
  refine g_ldc2 (v := 2147483648) C kl_X12_234 dX12_drawn_13 ?_
  refine g_topl (fun l1589 el1589 => ?_)
  have hz_l1589 : ¬ l1589 = 0 := by rw [el1589]; decide
  refine a_lrem C dX12_drawn_16 hz_l1589 (fun l1590 => ?_)
  refine g_putJ C fi_X12_226 rfl (ha0).1 (ha0).2 dX12_drawn_17 ?_
  refine gq (ks := []) (I.setJ) (EM.setJ) (fun Y1591 Iy1592 Xy1593 => ?_)
  have Xz1594 : EM [] a0 P Y1591 := Xy1593.mono (by decide)
  have h1595 := Xy1593.at ha0
  refine g_aload_n C dX12_drawn_20 rfl 0 rfl ?_
  refine g_getJ C fi_X12_226 rfl (h1595).1 (h1595).2 dX12_drawn_21 ?_
  refine g_topl (fun l1596 _ => ?_)
  refine g_ldc2 (v := 65536) C kl_X12_236 dX12_drawn_24 ?_
  refine g_topl (fun l1597 el1597 => ?_)
  have hz_l1597 : ¬ l1597 = 0 := by rw [el1597]; decide
  refine a_ldiv C dX12_drawn_27 hz_l1597 (fun l1598 => ?_)
  refine a_l2i C dX12_drawn_28 (fun z1599 => ?_)
  exact ret _ _ _ _ _ _ dX12_drawn_29 rfl (by decide) (by decide) ⟨Iy1592, Xz1594, trivial⟩
theorem dX12_howMany_38 : decode cX12_howMany 38 = .ok (.iload_n 2, 1) := by decide +kernel
theorem dX12_howMany_39 : decode cX12_howMany 39 = .ok (.irem, 1) := by decide +kernel
theorem dX12_howMany_40 : decode cX12_howMany 40 = .ok (.istore_n 3, 1) := by decide +kernel
theorem dX12_howMany_41 : decode cX12_howMany 41 = .ok (.iconst 1, 1) := by decide +kernel
theorem dX12_howMany_42 : decode cX12_howMany 42 = .ok (.istore 4, 2) := by decide +kernel
theorem dX12_howMany_44 : decode cX12_howMany 44 = .ok (.aload_n 0, 1) := by decide +kernel
theorem dX12_howMany_45 : decode cX12_howMany 45 = .ok (.iload_n 1, 1) := by decide +kernel
theorem dX12_howMany_46 : decode cX12_howMany 46 = .ok (.iconst 1, 1) := by decide +kernel
theorem dX12_howMany_47 : decode cX12_howMany 47 = .ok (.invokevirtual 241, 3) := by decide +kernel
theorem dX12_howMany_50 : decode cX12_howMany 50 = .ok (.istore 5, 2) := by decide +kernel
theorem dX12_howMany_52 : decode cX12_howMany 52 = .ok (.iload 5, 2) := by decide +kernel
theorem dX12_howMany_54 : decode cX12_howMany 54 = .ok (.iload_n 3, 1) := by decide +kernel
theorem dX12_howMany_55 : decode cX12_howMany 55 = .ok (.if_icmp .gt 21, 3) := by decide +kernel
theorem dX12_howMany_58 : decode cX12_howMany 58 = .ok (.iinc 4 1, 3) := by decide +kernel
theorem dX12_howMany_61 : decode cX12_howMany 61 = .ok (.iload 5, 2) := by decide +kernel
theorem dX12_howMany_63 : decode cX12_howMany 63 = .ok (.aload_n 0, 1) := by decide +kernel
theorem dX12_howMany_64 : decode cX12_howMany 64 = .ok (.iload_n 1, 1) := by decide +kernel
theorem dX12_howMany_65 : decode cX12_howMany 65 = .ok (.iload 4, 2) := by decide +kernel
theorem dX12_howMany_67 : decode cX12_howMany 67 = .ok (.invokevirtual 241, 3) := by decide +kernel
theorem dX12_howMany_70 : decode cX12_howMany 70 = .ok (.iadd, 1) := by decide +kernel
theorem dX12_howMany_71 : decode cX12_howMany 71 = .ok (.istore 5, 2) := by decide +kernel
theorem dX12_howMany_73 : decode cX12_howMany 73 = .ok (.goto (-21), 3) := by decide +kernel
theorem dX12_howMany_76 : decode cX12_howMany 76 = .ok (.iload 4, 2) := by decide +kernel
theorem dX12_howMany_78 : decode cX12_howMany 78 = .ok (.ireturn, 1) := by decide +kernel
theorem dX12_allHouses_0 : decode cX12_allHouses 0 = .ok (.iconst 0, 1) := by decide +kernel
theorem dX12_allHouses_1 : decode cX12_allHouses 1 = .ok (.istore_n 1, 1) := by decide +kernel
theorem dX12_allHouses_2 : decode cX12_allHouses 2 = .ok (.iconst 0, 1) := by decide +kernel
theorem dX12_allHouses_3 : decode cX12_allHouses 3 = .ok (.istore_n 2, 1) := by decide +kernel
theorem dX12_allHouses_4 : decode cX12_allHouses 4 = .ok (.iload_n 2, 1) := by decide +kernel
theorem dX12_allHouses_5 : decode cX12_allHouses 5 = .ok (.iconst 4, 1) := by decide +kernel
theorem dX12_allHouses_6 : decode cX12_allHouses 6 = .ok (.if_icmp .ge 18, 3) := by decide +kernel
theorem dX12_allHouses_9 : decode cX12_allHouses 9 = .ok (.iload_n 1, 1) := by decide +kernel
theorem dX12_allHouses_10 : decode cX12_allHouses 10 = .ok (.aload_n 0, 1) := by decide +kernel
theorem dX12_allHouses_11 : decode cX12_allHouses 11 = .ok (.getfield 130, 3) := by decide +kernel
theorem dX12_allHouses_14 : decode cX12_allHouses 14 = .ok (.iload_n 2, 1) := by decide +kernel
theorem dX12_allHouses_15 : decode cX12_allHouses 15 = .ok (.iaload, 1) := by decide +kernel
theorem dX12_allHouses_16 : decode cX12_allHouses 16 = .ok (.iadd, 1) := by decide +kernel
theorem dX12_allHouses_17 : decode cX12_allHouses 17 = .ok (.istore_n 1, 1) := by decide +kernel
theorem dX12_allHouses_18 : decode cX12_allHouses 18 = .ok (.iinc 2 1, 3) := by decide +kernel
theorem dX12_allHouses_21 : decode cX12_allHouses 21 = .ok (.goto (-17), 3) := by decide +kernel
theorem dX12_allHouses_24 : decode cX12_allHouses 24 = .ok (.iload_n 1, 1) := by decide +kernel
theorem dX12_allHouses_25 : decode cX12_allHouses 25 = .ok (.ireturn, 1) := by decide +kernel
set_option maxHeartbeats 4000000 in
set_option maxRecDepth 100000 in
theorem s_X12_allHouses {P : PP} {a0 : Nat} (I : IM P a0) : CtrI yX12_allHouses cX12_allHouses 3 (some Jvm.ClassFile.FieldType.int) ({ frames := 1, cells := 0, slots := 0, locals := 64 } : Room) 0 0 P [.ref a0] (fun r P2 => P = P2 ∧ (True)) := by
  refine enI (lv := [(0, .ref a0)]) (by decide) (Nat.le_of_ble_eq_true rfl) rfl (fun E D cy C Ci0 ret => ?_)
  have ha0 := I.2.1
  have J4 : ∀ (n4 : Nat) (v4_1 : Int32) (v4_2 : Int32), (4 - v4_2.toInt).toNat < n4 → (0 ≤ v4_2.toInt ∧ v4_2.toInt ≤ 4) → G E ({ frames := 1, cells := 0, slots := 0, locals := 64 } : Room) D cy 3 P 0 0 4 [(0, .ref a0), (1, .int v4_1), (2, .int v4_2)] [] := by
    intro n4
    induction n4 with
    | zero => intro v4_1 v4_2 hm4 hv4_2; omega
    | succ n4 ih4 =>
      intro v4_1 v4_2 hm4 hv4_2
      refine g_iload_n C dX12_allHouses_4 rfl 2 rfl ?_
      refine g_iconst (v := 4) C dX12_allHouses_5 (by decide) ?_
      refine b_icmp_ge C 24 dX12_allHouses_6 (by decide) (fun h2268 => ?_) (fun h2268 => ?_)
      · have h2268 : 4 ≤ v4_2.toInt := h2268
        refine g_iload_n C dX12_allHouses_24 rfl 1 rfl ?_
        exact ret _ _ _ _ _ _ dX12_allHouses_25 rfl (by decide) (by decide) ⟨rfl, trivial⟩
      · have h2268 : v4_2.toInt < 4 := h2268
        refine g_iload_n C dX12_allHouses_9 rfl 1 rfl ?_
        refine g_aload_n C dX12_allHouses_10 rfl 0 rfl ?_
        obtain ⟨b2269, e2270, h2271⟩ := I.fld (ha0) 46 13 4 rfl
        refine g_getR C fi_X12_130 rfl e2270 (ha0).1 (ha0).2 dX12_allHouses_11 ?_
        refine g_iload_n C dX12_allHouses_14 rfl 2 rfl ?_
        refine g_iald (j := (v4_2.toInt.toNat)) C h2271.1 h2271.2.1 (ix_in h2271.2.2 (by omega)) dX12_allHouses_15 ?_
        refine a_iadd C dX12_allHouses_16 (fun z2272 => ?_)
        refine g_istore_n (lv' := [(1, .int z2272), (0, .ref a0), (2, .int v4_2)]) C dX12_allHouses_17 rfl (by decide) rfl ?_
        refine s_iinc (lv0 := [(1, .int z2272), (0, .ref a0)]) (m := 1) C dX12_allHouses_18 2 rfl (by decide) rfl (by decide) (by omega) (fun z2274 h2275 => ?_)
        have h2275 : z2274.toInt = v4_2.toInt + 1 := h2275
        refine g_goto C 4 dX12_allHouses_21 (by decide) ?_
        refine g_lv (lv' := [(0, .ref a0), (1, .int z2272), (2, .int z2274)]) [2, 1, 0] rfl ?_
        exact ih4 z2272 z2274 (by omega) (by omega)
  refine g_iconst (v := 0) C dX12_allHouses_0 (by decide) ?_
  refine g_istore_n (lv' := [(1, .int 0), (0, .ref a0)]) C dX12_allHouses_1 rfl (by decide) rfl ?_
  refine g_iconst (v := 0) C dX12_allHouses_2 (by decide) ?_
  refine g_istore_n (lv' := [(2, .int 0), (1, .int 0), (0, .ref a0)]) C dX12_allHouses_3 rfl (by decide) rfl ?_
  refine g_lv (lv' := [(0, .ref a0), (1, .int 0), (2, .int 0)]) [2, 1, 0] rfl ?_
  exact J4 _ 0 0 (Nat.lt_succ_self _) (by decide)
theorem dX12_apart_0 : decode cX12_apart 0 = .ok (.aload_n 0, 1) := by decide +kernel
theorem dX12_apart_1 : decode cX12_apart 1 = .ok (.iconst 0, 1) := by decide +kernel
theorem dX12_apart_2 : decode cX12_apart 2 = .ok (.putfield 1, 3) := by decide +kernel
theorem dX12_apart_5 : decode cX12_apart 5 = .ok (.aload_n 0, 1) := by decide +kernel
theorem dX12_apart_6 : decode cX12_apart 6 = .ok (.iload_n 1, 1) := by decide +kernel
theorem dX12_apart_7 : decode cX12_apart 7 = .ok (.iload_n 2, 1) := by decide +kernel
theorem dX12_apart_8 : decode cX12_apart 8 = .ok (.invokevirtual 298, 3) := by decide +kernel
theorem dX12_isPaper_0 : decode cX12_isPaper 0 = .ok (.iload_n 1, 1) := by decide +kernel
theorem dX12_isPaper_1 : decode cX12_isPaper 1 = .ok (.invokestatic 278, 3) := by decide +kernel
theorem dX12_isQuarter_0 : decode cX12_isQuarter 0 = .ok (.iload_n 0, 1) := by decide +kernel
theorem dX12_isQuarter_1 : decode cX12_isQuarter 1 = .ok (.iconst 0, 1) := by decide +kernel
theorem dX12_isQuarter_2 : decode cX12_isQuarter 2 = .ok (.iconst 3, 1) := by decide +kernel
theorem dX12_isQuarter_3 : decode cX12_isQuarter 3 = .ok (.invokestatic 178, 3) := by decide +kernel
theorem dX12_within_0 : decode cX12_within 0 = .ok (.iload_n 0, 1) := by decide +kernel
theorem dX12_within_1 : decode cX12_within 1 = .ok (.iload_n 1, 1) := by decide +kernel
theorem dX12_within_2 : decode cX12_within 2 = .ok (.if_icmp .lt 12, 3) := by decide +kernel
theorem dX12_within_5 : decode cX12_within 5 = .ok (.iload_n 0, 1) := by decide +kernel
theorem dX12_within_6 : decode cX12_within 6 = .ok (.iload_n 2, 1) := by decide +kernel
theorem dX12_within_7 : decode cX12_within 7 = .ok (.if_icmp .gt 7, 3) := by decide +kernel
theorem dX12_within_10 : decode cX12_within 10 = .ok (.iconst 1, 1) := by decide +kernel
theorem dX12_within_11 : decode cX12_within 11 = .ok (.goto 4, 3) := by decide +kernel
theorem dX12_within_14 : decode cX12_within 14 = .ok (.iconst 0, 1) := by decide +kernel
theorem dX12_within_15 : decode cX12_within 15 = .ok (.ireturn, 1) := by decide +kernel
set_option maxHeartbeats 4000000 in
set_option maxRecDepth 100000 in
theorem s_X12_within {P : PP} {a0 : Int32} {a1 : Int32} {a2 : Int32} (I : IV P) : CtrI yX12_within cX12_within 3 (some Jvm.ClassFile.FieldType.boolean) ({ frames := 1, cells := 0, slots := 0, locals := 64 } : Room) 0 0 P [.int a0, .int a1, .int a2] (fun r P2 => P = P2 ∧ (0 ≤ r.toInt ∧ r.toInt ≤ 1) ∧ (r.toInt = 0 ∨ (a1.toInt ≤ a0.toInt ∧ a0.toInt ≤ a2.toInt))) := by
  refine enI (lv := [(0, .int a0), (1, .int a1), (2, .int a2)]) (by decide) (Nat.le_of_ble_eq_true rfl) rfl (fun E D cy C Ci0 ret => ?_)
  have J14 : G E ({ frames := 1, cells := 0, slots := 0, locals := 64 } : Room) D cy 3 P 0 0 14 [] [] := by
    refine g_iconst (v := 0) C dX12_within_14 (by decide) ?_
    exact ret _ _ _ _ _ _ dX12_within_15 rfl (by decide) (by decide) ⟨rfl, (by decide), Or.inl rfl⟩
  refine g_iload_n C dX12_within_0 rfl 0 rfl ?_
  refine g_iload_n C dX12_within_1 rfl 1 rfl ?_
  have u2289 := ti_rng a0
  have u2290 := ti_rng a1
  refine b_icmp_lt C 14 dX12_within_2 (by decide) (fun h2288 => ?_) (fun h2288 => ?_)
  · have h2288 : a0.toInt < a1.toInt := h2288
    refine g_lv (lv' := []) [] rfl ?_
    exact J14 
  · have h2288 : a1.toInt ≤ a0.toInt := h2288
    refine g_iload_n C dX12_within_5 rfl 0 rfl ?_
    refine g_iload_n C dX12_within_6 rfl 2 rfl ?_
    have u2292 := ti_rng a0
    have u2293 := ti_rng a2
    refine b_icmp_gt C 14 dX12_within_7 (by decide) (fun h2291 => ?_) (fun h2291 => ?_)
    · have h2291 : a2.toInt < a0.toInt := h2291
      refine g_lv (lv' := []) [] rfl ?_
      exact J14 
    · have h2291 : a0.toInt ≤ a2.toInt := h2291
      refine g_iconst (v := 1) C dX12_within_10 (by decide) ?_
      refine g_goto C 15 dX12_within_11 (by decide) ?_
      exact ret _ _ _ _ _ _ dX12_within_15 rfl (by decide) (by decide) ⟨rfl, (by decide), Or.inr (by omega)⟩
theorem dX12_isQuarter_6 : decode cX12_isQuarter 6 = .ok (.ireturn, 1) := by decide +kernel
set_option maxHeartbeats 4000000 in
set_option maxRecDepth 100000 in
theorem s_X12_isQuarter {P : PP} {a0 : Int32} (I : IV P) : CtrI yX12_isQuarter cX12_isQuarter 1 (some Jvm.ClassFile.FieldType.boolean) ({ frames := 2, cells := 0, slots := 0, locals := 128 } : Room) 0 0 P [.int a0] (fun r P2 => P = P2 ∧ (0 ≤ r.toInt ∧ r.toInt ≤ 1) ∧ (r.toInt = 0 ∨ (((0 : Int) ≤ a0.toInt ∧ a0.toInt ≤ (3 : Int))))) := by
  refine enI (lv := [(0, .int a0)]) (by decide) (Nat.le_of_ble_eq_true rfl) rfl (fun E D cy C Ci0 ret => ?_)
  refine g_iload_n C dX12_isQuarter_0 rfl 0 rfl ?_
  refine g_iconst (v := 0) C dX12_isQuarter_1 (by decide) ?_
  refine g_iconst (v := 3) C dX12_isQuarter_2 (by decide) ?_
  refine g_callSI (b := 0) (ci := 0) (rest := []) C ms_X12_178 [.int a0, .int 0, .int 3] (s_X12_within I) rfl rfl (by decide) (Nat.le_of_ble_eq_true rfl) (by decide) dX12_isQuarter_3 (fun r2298 Y2299 h2300 => ?_)
  obtain ⟨rfl, h2300⟩ := h2300
  obtain ⟨h2300, hi2301⟩ := h2300
  have hi2301 : r2298.toInt = 0 ∨ (0 ≤ a0.toInt ∧ a0.toInt ≤ 3) := hi2301
  have h2300 : 0 ≤ r2298.toInt ∧ r2298.toInt ≤ 1 := h2300
  exact ret _ _ _ _ _ _ dX12_isQuarter_6 (nar_b (b01 (by omega))) (by decide) (by decide) ⟨rfl, (by omega), hi2301.imp id (fun h9 => by omega)⟩
theorem dX12_isPaper_4 : decode cX12_isPaper 4 = .ok (.ifCond .eq 21, 3) := by decide +kernel
theorem dX12_isPaper_7 : decode cX12_isPaper 7 = .ok (.iload_n 2, 1) := by decide +kernel
theorem dX12_isPaper_8 : decode cX12_isPaper 8 = .ok (.ifCond .lt 17, 3) := by decide +kernel
theorem dX12_isPaper_11 : decode cX12_isPaper 11 = .ok (.iload_n 2, 1) := by decide +kernel
theorem dX12_isPaper_12 : decode cX12_isPaper 12 = .ok (.aload_n 0, 1) := by decide +kernel
theorem dX12_isPaper_13 : decode cX12_isPaper 13 = .ok (.getfield 69, 3) := by decide +kernel
theorem dX12_isPaper_16 : decode cX12_isPaper 16 = .ok (.iload_n 1, 1) := by decide +kernel
theorem dX12_isPaper_17 : decode cX12_isPaper 17 = .ok (.iaload, 1) := by decide +kernel
theorem dX12_isPaper_18 : decode cX12_isPaper 18 = .ok (.if_icmp .ge 7, 3) := by decide +kernel
theorem dX12_isPaper_21 : decode cX12_isPaper 21 = .ok (.iconst 1, 1) := by decide +kernel
theorem dX12_isPaper_22 : decode cX12_isPaper 22 = .ok (.goto 4, 3) := by decide +kernel
theorem dX12_isPaper_25 : decode cX12_isPaper 25 = .ok (.iconst 0, 1) := by decide +kernel
theorem dX12_isPaper_26 : decode cX12_isPaper 26 = .ok (.ireturn, 1) := by decide +kernel
set_option maxHeartbeats 4000000 in
set_option maxRecDepth 100000 in
theorem s_X12_isPaper {P : PP} {a0 : Nat} {a1 : Int32} {a2 : Int32} (I : IM P a0) : CtrI yX12_isPaper cX12_isPaper 3 (some Jvm.ClassFile.FieldType.boolean) ({ frames := 3, cells := 0, slots := 0, locals := 192 } : Room) 0 0 P [.ref a0, .int a1, .int a2] (fun r P2 => P = P2 ∧ (0 ≤ r.toInt ∧ r.toInt ≤ 1) ∧ (r.toInt = 0 ∨ (((0 : Int) ≤ a1.toInt ∧ a1.toInt ≤ (3 : Int)) ∧ ((0 : Int) ≤ a2.toInt ∧ a2.toInt ≤ (39 : Int)))) ∧ (r.toInt = 0 ∨ ∀ b, pR P2 a0 20 = some b → a2.toInt < (pI P2 b (a1.toInt.toNat)).toInt ∧ 0 ≤ a2.toInt)) := by
  refine enI (lv := [(0, .ref a0), (1, .int a1), (2, .int a2)]) (by decide) (Nat.le_of_ble_eq_true rfl) rfl (fun E D cy C Ci0 ret => ?_)
  have ha0 := I.2.1
  have J25 : G E ({ frames := 3, cells := 0, slots := 0, locals := 192 } : Room) D cy 3 P 0 0 25 [] [] := by
    refine g_iconst (v := 0) C dX12_isPaper_25 (by decide) ?_
    exact ret _ _ _ _ _ _ dX12_isPaper_26 rfl (by decide) (by decide) ⟨rfl, (by decide), Or.inl rfl, Or.inl rfl⟩
  refine g_iload_n C dX12_isPaper_0 rfl 1 rfl ?_
  refine g_callSI (b := 0) (ci := 0) (rest := []) C ms_X12_278 [.int a1] (s_X12_isQuarter I.1) rfl rfl (by decide) (Nat.le_of_ble_eq_true rfl) (by decide) dX12_isPaper_1 (fun r2315 Y2316 h2317 => ?_)
  obtain ⟨rfl, h2317⟩ := h2317
  obtain ⟨h2317, hi2318⟩ := h2317
  have hi2318 : r2315.toInt = 0 ∨ (((0 : Int) ≤ a1.toInt ∧ a1.toInt ≤ (3 : Int))) := hi2318
  have h2317 : 0 ≤ r2315.toInt ∧ r2315.toInt ≤ 1 := h2317
  refine b_if_eq C 25 dX12_isPaper_4 (by decide) (fun h2319 => ?_) (fun h2319 => ?_)
  · have h2319 : r2315.toInt = 0 := congrArg Int32.toInt h2319
    clear hi2318
    refine g_lv (lv' := []) [] rfl ?_
    exact J25 
  · have h2319 : r2315.toInt ≠ 0 := ti_ne h2319
    replace hi2318 := hi2318.resolve_left (by omega)
    refine g_iload_n C dX12_isPaper_7 rfl 2 rfl ?_
    have u2321 := ti_rng a2
    refine b_if_lt C 25 dX12_isPaper_8 (by decide) (fun h2320 => ?_) (fun h2320 => ?_)
    · have h2320 : a2.toInt < 0 := h2320
      refine g_lv (lv' := []) [] rfl ?_
      exact J25 
    · have h2320 : 0 ≤ a2.toInt := h2320
      refine g_iload_n C dX12_isPaper_11 rfl 2 rfl ?_
      refine g_aload_n C dX12_isPaper_12 rfl 0 rfl ?_
      obtain ⟨b2322, e2323, h2324⟩ := I.fld (ha0) 20 13 20 rfl
      refine g_getR C fi_X12_69 rfl e2323 (ha0).1 (ha0).2 dX12_isPaper_13 ?_
      refine g_iload_n C dX12_isPaper_16 rfl 1 rfl ?_
      refine g_iald (j := (a1.toInt.toNat)) C h2324.1 h2324.2.1 (ix_in h2324.2.2 (by omega)) dX12_isPaper_17 ?_
      have h2325 := I.arr e2323 rfl (a1.toInt.toNat)
      have u2327 := ti_rng a2
      refine b_icmp_ge C 25 dX12_isPaper_18 (by decide) (fun h2326 => ?_) (fun h2326 => ?_)
      · have h2326 : (pI P b2322 (a1.toInt.toNat)).toInt ≤ a2.toInt := h2326
        refine g_lv (lv' := []) [] rfl ?_
        exact J25 
      · have h2326 : a2.toInt < (pI P b2322 (a1.toInt.toNat)).toInt := h2326
        refine g_iconst (v := 1) C dX12_isPaper_21 (by decide) ?_
        refine g_goto C 26 dX12_isPaper_22 (by decide) ?_
        exact ret _ _ _ _ _ _ dX12_isPaper_26 rfl (by decide) (by decide) ⟨rfl, (by decide), Or.inr (by omega), Or.inr (fun b9 e9 => by rw [e2323] at e9; cases e9; show a2.toInt < (pI P b2322 (a1.toInt.toNat)).toInt ∧ 0 ≤ a2.toInt; omega)⟩
theorem dX12_apart_11 : decode cX12_apart 11 = .ok (.ifCond .eq 33, 3) := by decide +kernel
theorem dX12_apart_14 : decode cX12_apart 14 = .ok (.aload_n 0, 1) := by decide +kernel
theorem dX12_apart_15 : decode cX12_apart 15 = .ok (.getfield 75, 3) := by decide +kernel
theorem dX12_apart_18 : decode cX12_apart 18 = .ok (.bipush 40, 2) := by decide +kernel
theorem dX12_apart_20 : decode cX12_apart 20 = .ok (.iload_n 1, 1) := by decide +kernel
theorem dX12_apart_21 : decode cX12_apart 21 = .ok (.imul, 1) := by decide +kernel
theorem dX12_apart_22 : decode cX12_apart 22 = .ok (.iload_n 2, 1) := by decide +kernel
theorem dX12_apart_23 : decode cX12_apart 23 = .ok (.iadd, 1) := by decide +kernel
theorem dX12_apart_24 : decode cX12_apart 24 = .ok (.iaload, 1) := by decide +kernel
theorem dX12_apart_25 : decode cX12_apart 25 = .ok (.ifCond .ge 19, 3) := by decide +kernel
theorem dX12_apart_28 : decode cX12_apart 28 = .ok (.aload_n 0, 1) := by decide +kernel
theorem dX12_apart_29 : decode cX12_apart 29 = .ok (.iconst 0, 1) := by decide +kernel
theorem dX12_apart_30 : decode cX12_apart 30 = .ok (.invokevirtual 192, 3) := by decide +kernel
theorem dX12_isBook_0 : decode cX12_isBook 0 = .ok (.iload_n 1, 1) := by decide +kernel
theorem dX12_isBook_1 : decode cX12_isBook 1 = .ok (.iconst 0, 1) := by decide +kernel
theorem dX12_isBook_2 : decode cX12_isBook 2 = .ok (.iconst 1, 1) := by decide +kernel
theorem dX12_isBook_3 : decode cX12_isBook 3 = .ok (.invokestatic 178, 3) := by decide +kernel
theorem dX12_isBook_6 : decode cX12_isBook 6 = .ok (.ifCond .eq 16, 3) := by decide +kernel
theorem dX12_isBook_9 : decode cX12_isBook 9 = .ok (.aload_n 0, 1) := by decide +kernel
theorem dX12_isBook_10 : decode cX12_isBook 10 = .ok (.getfield 45, 3) := by decide +kernel
theorem dX12_isBook_13 : decode cX12_isBook 13 = .ok (.iload_n 1, 1) := by decide +kernel
theorem dX12_isBook_14 : decode cX12_isBook 14 = .ok (.iaload, 1) := by decide +kernel
theorem dX12_isBook_15 : decode cX12_isBook 15 = .ok (.ifCond .le 7, 3) := by decide +kernel
theorem dX12_isBook_18 : decode cX12_isBook 18 = .ok (.iconst 1, 1) := by decide +kernel
theorem dX12_isBook_19 : decode cX12_isBook 19 = .ok (.goto 4, 3) := by decide +kernel
theorem dX12_isBook_22 : decode cX12_isBook 22 = .ok (.iconst 0, 1) := by decide +kernel
theorem dX12_isBook_23 : decode cX12_isBook 23 = .ok (.ireturn, 1) := by decide +kernel
set_option maxHeartbeats 4000000 in
set_option maxRecDepth 100000 in
theorem s_X12_isBook {P : PP} {a0 : Nat} {a1 : Int32} (I : IM P a0) : CtrI yX12_isBook cX12_isBook 2 (some Jvm.ClassFile.FieldType.boolean) ({ frames := 2, cells := 0, slots := 0, locals := 128 } : Room) 0 0 P [.ref a0, .int a1] (fun r P2 => P = P2 ∧ (0 ≤ r.toInt ∧ r.toInt ≤ 1) ∧ (r.toInt = 0 ∨ (((0 : Int) ≤ a1.toInt ∧ a1.toInt ≤ (1 : Int))))) := by
  refine enI (lv := [(0, .ref a0), (1, .int a1)]) (by decide) (Nat.le_of_ble_eq_true rfl) rfl (fun E D cy C Ci0 ret => ?_)
  have ha0 := I.2.1
  have J22 : G E ({ frames := 2, cells := 0, slots := 0, locals := 128 } : Room) D cy 2 P 0 0 22 [] [] := by
    refine g_iconst (v := 0) C dX12_isBook_22 (by decide) ?_
    exact ret _ _ _ _ _ _ dX12_isBook_23 rfl (by decide) (by decide) ⟨rfl, (by decide), Or.inl rfl⟩
  refine g_iload_n C dX12_isBook_0 rfl 1 rfl ?_
  refine g_iconst (v := 0) C dX12_isBook_1 (by decide) ?_
  refine g_iconst (v := 1) C dX12_isBook_2 (by decide) ?_
  refine g_callSI (b := 0) (ci := 0) (rest := []) C ms_X12_178 [.int a1, .int 0, .int 1] (s_X12_within I.1) rfl rfl (by decide) (Nat.le_of_ble_eq_true rfl) (by decide) dX12_isBook_3 (fun r2363 Y2364 h2365 => ?_)
  obtain ⟨rfl, h2365⟩ := h2365
  obtain ⟨h2365, hi2366⟩ := h2365
  have hi2366 : r2363.toInt = 0 ∨ (0 ≤ a1.toInt ∧ a1.toInt ≤ 1) := hi2366
  have h2365 : 0 ≤ r2363.toInt ∧ r2363.toInt ≤ 1 := h2365
  refine b_if_eq C 22 dX12_isBook_6 (by decide) (fun h2367 => ?_) (fun h2367 => ?_)
  · have h2367 : r2363.toInt = 0 := congrArg Int32.toInt h2367
    clear hi2366
    refine g_lv (lv' := []) [] rfl ?_
    exact J22 
  · have h2367 : r2363.toInt ≠ 0 := ti_ne h2367
    replace hi2366 := hi2366.resolve_left (by omega)
    refine g_aload_n C dX12_isBook_9 rfl 0 rfl ?_
    obtain ⟨b2368, e2369, h2370⟩ := I.fld (ha0) 10 13 2 rfl
    refine g_getR C fi_X12_45 rfl e2369 (ha0).1 (ha0).2 dX12_isBook_10 ?_
    refine g_iload_n C dX12_isBook_13 rfl 1 rfl ?_
    refine g_iald (j := (a1.toInt.toNat)) C h2370.1 h2370.2.1 (ix_in h2370.2.2 (by omega)) dX12_isBook_14 ?_
    have h2371 := I.arr e2369 rfl (a1.toInt.toNat)
    refine b_if_le C 22 dX12_isBook_15 (by decide) (fun h2372 => ?_) (fun h2372 => ?_)
    · have h2372 : (pI P b2368 (a1.toInt.toNat)).toInt ≤ 0 := h2372
      refine g_lv (lv' := []) [] rfl ?_
      exact J22 
    · have h2372 : 0 < (pI P b2368 (a1.toInt.toNat)).toInt := h2372
      refine g_iconst (v := 1) C dX12_isBook_18 (by decide) ?_
      refine g_goto C 23 dX12_isBook_19 (by decide) ?_
      exact ret _ _ _ _ _ _ dX12_isBook_23 rfl (by decide) (by decide) ⟨rfl, (by decide), Or.inr (by omega)⟩
theorem dX12_apart_33 : decode cX12_apart 33 = .ok (.ifCond .eq 11, 3) := by decide +kernel
theorem dX12_apart_36 : decode cX12_apart 36 = .ok (.aload_n 0, 1) := by decide +kernel
theorem dX12_apart_37 : decode cX12_apart 37 = .ok (.iconst 1, 1) := by decide +kernel
theorem dX12_apart_38 : decode cX12_apart 38 = .ok (.invokevirtual 192, 3) := by decide +kernel
theorem dX12_apart_41 : decode cX12_apart 41 = .ok (.ifCond .ne 5, 3) := by decide +kernel
theorem dX12_apart_46 : decode cX12_apart 46 = .ok (.aload_n 0, 1) := by decide +kernel
theorem dX12_apart_47 : decode cX12_apart 47 = .ok (.invokevirtual 336, 3) := by decide +kernel
theorem dX12_leavesNone_0 : decode cX12_leavesNone 0 = .ok (.iconst 0, 1) := by decide +kernel
theorem dX12_leavesNone_1 : decode cX12_leavesNone 1 = .ok (.istore_n 1, 1) := by decide +kernel
theorem dX12_leavesNone_2 : decode cX12_leavesNone 2 = .ok (.iload_n 1, 1) := by decide +kernel
theorem dX12_leavesNone_3 : decode cX12_leavesNone 3 = .ok (.bipush 40, 2) := by decide +kernel
theorem dX12_leavesNone_5 : decode cX12_leavesNone 5 = .ok (.if_icmp .ge 16, 3) := by decide +kernel
theorem dX12_leavesNone_8 : decode cX12_leavesNone 8 = .ok (.aload_n 0, 1) := by decide +kernel
theorem dX12_leavesNone_9 : decode cX12_leavesNone 9 = .ok (.getfield 100, 3) := by decide +kernel
theorem dX12_leavesNone_12 : decode cX12_leavesNone 12 = .ok (.iload_n 1, 1) := by decide +kernel
theorem dX12_leavesNone_13 : decode cX12_leavesNone 13 = .ok (.iconst 0, 1) := by decide +kernel
theorem dX12_leavesNone_14 : decode cX12_leavesNone 14 = .ok (.bastore, 1) := by decide +kernel
theorem dX12_leavesNone_15 : decode cX12_leavesNone 15 = .ok (.iinc 1 1, 3) := by decide +kernel
theorem dX12_leavesNone_18 : decode cX12_leavesNone 18 = .ok (.goto (-16), 3) := by decide +kernel
theorem dX12_leavesNone_21 : decode cX12_leavesNone 21 = .ok (.return_, 1) := by decide +kernel
set_option maxHeartbeats 4000000 in
set_option maxRecDepth 100000 in
theorem s_X12_leavesNone {P : PP} {a0 : Nat} (I : IM P a0) : CtrV yX12_leavesNone cX12_leavesNone 2 none ({ frames := 1, cells := 0, slots := 0, locals := 64 } : Room) 0 0 P [.ref a0] (fun P2 => IM P2 a0 ∧ EM [32] a0 P P2) := by
  refine enV (lv := [(0, .ref a0)]) (by decide) (Nat.le_of_ble_eq_true rfl) rfl (fun E D cy C Ci0 ret => ?_)
  have ha0 := I.2.1
  have J2 : ∀ (n2 : Nat) (P2 : PP) (v2_1 : Int32), (40 - v2_1.toInt).toNat < n2 → (IM P2 a0) → (EM [32] a0 P P2) → (0 ≤ v2_1.toInt ∧ v2_1.toInt ≤ 40) → G E ({ frames := 1, cells := 0, slots := 0, locals := 64 } : Room) D cy 2 P2 0 0 2 [(0, .ref a0), (1, .int v2_1)] [] := by
    intro n2
    induction n2 with
    | zero => intro P2 v2_1 hm2 I2 X2 hv2_1; omega
    | succ n2 ih2 =>
      intro P2 v2_1 hm2 I2 X2 hv2_1
      have h2632 := X2.at ha0
      refine g_iload_n C dX12_leavesNone_2 rfl 1 rfl ?_
      refine g_bipush (v := 40) C dX12_leavesNone_3 (by decide) ?_
      refine b_icmp_ge C 21 dX12_leavesNone_5 (by decide) (fun h2633 => ?_) (fun h2633 => ?_)
      · have h2633 : 40 ≤ v2_1.toInt := h2633
        exact ret _ _ _ _ _ dX12_leavesNone_21 (by decide) (by decide) ⟨I2, X2⟩
      · have h2633 : v2_1.toInt < 40 := h2633
        refine g_aload_n C dX12_leavesNone_8 rfl 0 rfl ?_
        obtain ⟨b2634, e2635, h2636⟩ := I2.fld (h2632) 32 15 40 rfl
        refine g_getR C fi_X12_100 rfl e2635 (h2632).1 (h2632).2 dX12_leavesNone_9 ?_
        refine g_iload_n C dX12_leavesNone_12 rfl 1 rfl ?_
        refine g_iconst (v := 0) C dX12_leavesNone_13 (by decide) ?_
        refine g_zast (j := (v2_1.toInt.toNat)) C h2636.1 h2636.2.1 (ix_in h2636.2.2 (by omega)) (Or.inl rfl) dX12_leavesNone_14 ?_
        refine gqW (ks := [32]) (I2.setA e2635 h2636 (by decide) (arOk.none rfl)) (EM.setA I2 e2635 rfl (by decide)) (fun Y2637 Iy2638 Xy2639 w2640 => ?_)
        have w2640 : (pI Y2637 b2634 (v2_1.toInt.toNat)).toInt = 0 := w2640
        have Xz2641 : EM [32] a0 P Y2637 := EM.tr ha0 X2 (Xy2639.mono (by decide))
        have e2642 := Xy2639.ref h2632 (by decide) e2635
        have h2643 := Xy2639.at h2632
        have h2644 := Xy2639.ar h2636
        refine s_iinc (lv0 := [(0, .ref a0)]) (m := 1) C dX12_leavesNone_15 1 rfl (by decide) rfl (by decide) (by omega) (fun z2645 h2646 => ?_)
        have h2646 : z2645.toInt = v2_1.toInt + 1 := h2646
        refine g_goto C 2 dX12_leavesNone_18 (by decide) ?_
        refine g_lv (lv' := [(0, .ref a0), (1, .int z2645)]) [1, 0] rfl ?_
        exact ih2 Y2637 z2645 (by omega) Iy2638 Xz2641 (by omega)
  refine g_iconst (v := 0) C dX12_leavesNone_0 (by decide) ?_
  refine g_istore_n (lv' := [(1, .int 0), (0, .ref a0)]) C dX12_leavesNone_1 rfl (by decide) rfl ?_
  refine g_lv (lv' := [(0, .ref a0), (1, .int 0)]) [1, 0] rfl ?_
  exact J2 _ P 0 (Nat.lt_succ_self _) I EM.rf (by decide)
theorem dX12_apart_44 : decode cX12_apart 44 = .ok (.iconst (-1), 1) := by decide +kernel
theorem dX12_apart_45 : decode cX12_apart 45 = .ok (.ireturn, 1) := by decide +kernel
theorem dX12_apart_50 : decode cX12_apart 50 = .ok (.iconst 0, 1) := by decide +kernel
theorem dX12_apart_51 : decode cX12_apart 51 = .ok (.istore_n 3, 1) := by decide +kernel
theorem dX12_apart_52 : decode cX12_apart 52 = .ok (.iconst 0, 1) := by decide +kernel
theorem dX12_apart_53 : decode cX12_apart 53 = .ok (.istore 4, 2) := by decide +kernel
theorem dX12_apart_55 : decode cX12_apart 55 = .ok (.iload 4, 2) := by decide +kernel
theorem dX12_apart_57 : decode cX12_apart 57 = .ok (.iload_n 2, 1) := by decide +kernel
theorem dX12_apart_58 : decode cX12_apart 58 = .ok (.if_icmp .ge 32, 3) := by decide +kernel
theorem dX12_apart_61 : decode cX12_apart 61 = .ok (.iload_n 3, 1) := by decide +kernel
theorem dX12_apart_62 : decode cX12_apart 62 = .ok (.aload_n 0, 1) := by decide +kernel
theorem dX12_apart_63 : decode cX12_apart 63 = .ok (.getfield 75, 3) := by decide +kernel
theorem dX12_apart_66 : decode cX12_apart 66 = .ok (.bipush 40, 2) := by decide +kernel
theorem dX12_apart_68 : decode cX12_apart 68 = .ok (.iload_n 1, 1) := by decide +kernel
theorem dX12_apart_69 : decode cX12_apart 69 = .ok (.imul, 1) := by decide +kernel
theorem dX12_apart_70 : decode cX12_apart 70 = .ok (.iload 4, 2) := by decide +kernel
theorem dX12_apart_72 : decode cX12_apart 72 = .ok (.iadd, 1) := by decide +kernel
theorem dX12_apart_73 : decode cX12_apart 73 = .ok (.iaload, 1) := by decide +kernel
theorem dX12_apart_74 : decode cX12_apart 74 = .ok (.ifCond .ge 7, 3) := by decide +kernel
theorem dX12_apart_77 : decode cX12_apart 77 = .ok (.iconst 1, 1) := by decide +kernel
theorem dX12_apart_78 : decode cX12_apart 78 = .ok (.goto 4, 3) := by decide +kernel
theorem dX12_apart_81 : decode cX12_apart 81 = .ok (.iconst 0, 1) := by decide +kernel
theorem dX12_apart_90 : decode cX12_apart 90 = .ok (.iconst 0, 1) := by decide +kernel
theorem dX12_apart_91 : decode cX12_apart 91 = .ok (.istore 4, 2) := by decide +kernel
theorem dX12_apart_93 : decode cX12_apart 93 = .ok (.iconst 0, 1) := by decide +kernel
theorem dX12_apart_94 : decode cX12_apart 94 = .ok (.istore 5, 2) := by decide +kernel
theorem dX12_apart_96 : decode cX12_apart 96 = .ok (.iconst 0, 1) := by decide +kernel
theorem dX12_apart_97 : decode cX12_apart 97 = .ok (.istore 6, 2) := by decide +kernel
theorem dX12_apart_99 : decode cX12_apart 99 = .ok (.iload 6, 2) := by decide +kernel
theorem dX12_apart_101 : decode cX12_apart 101 = .ok (.iconst 1, 1) := by decide +kernel
theorem dX12_apart_102 : decode cX12_apart 102 = .ok (.aload_n 0, 1) := by decide +kernel
theorem dX12_apart_103 : decode cX12_apart 103 = .ok (.iload_n 1, 1) := by decide +kernel
theorem dX12_apart_104 : decode cX12_apart 104 = .ok (.invokevirtual 295, 3) := by decide +kernel
theorem dX12_namelessIn_0 : decode cX12_namelessIn 0 = .ok (.iconst 0, 1) := by decide +kernel
theorem dX12_namelessIn_1 : decode cX12_namelessIn 1 = .ok (.istore_n 2, 1) := by decide +kernel
theorem dX12_namelessIn_2 : decode cX12_namelessIn 2 = .ok (.iconst 0, 1) := by decide +kernel
theorem dX12_namelessIn_3 : decode cX12_namelessIn 3 = .ok (.istore_n 3, 1) := by decide +kernel
theorem dX12_namelessIn_4 : decode cX12_namelessIn 4 = .ok (.iload_n 3, 1) := by decide +kernel
theorem dX12_namelessIn_5 : decode cX12_namelessIn 5 = .ok (.aload_n 0, 1) := by decide +kernel
theorem dX12_namelessIn_6 : decode cX12_namelessIn 6 = .ok (.getfield 69, 3) := by decide +kernel
theorem dX12_namelessIn_9 : decode cX12_namelessIn 9 = .ok (.iload_n 1, 1) := by decide +kernel
theorem dX12_namelessIn_10 : decode cX12_namelessIn 10 = .ok (.iaload, 1) := by decide +kernel
theorem dX12_namelessIn_11 : decode cX12_namelessIn 11 = .ok (.if_icmp .ge 31, 3) := by decide +kernel
theorem dX12_namelessIn_14 : decode cX12_namelessIn 14 = .ok (.iload_n 2, 1) := by decide +kernel
theorem dX12_namelessIn_15 : decode cX12_namelessIn 15 = .ok (.aload_n 0, 1) := by decide +kernel
theorem dX12_namelessIn_16 : decode cX12_namelessIn 16 = .ok (.getfield 75, 3) := by decide +kernel
theorem dX12_namelessIn_19 : decode cX12_namelessIn 19 = .ok (.bipush 40, 2) := by decide +kernel
theorem dX12_namelessIn_21 : decode cX12_namelessIn 21 = .ok (.iload_n 1, 1) := by decide +kernel
theorem dX12_namelessIn_22 : decode cX12_namelessIn 22 = .ok (.imul, 1) := by decide +kernel
theorem dX12_namelessIn_23 : decode cX12_namelessIn 23 = .ok (.iload_n 3, 1) := by decide +kernel
theorem dX12_namelessIn_24 : decode cX12_namelessIn 24 = .ok (.iadd, 1) := by decide +kernel
theorem dX12_namelessIn_25 : decode cX12_namelessIn 25 = .ok (.iaload, 1) := by decide +kernel
theorem dX12_namelessIn_26 : decode cX12_namelessIn 26 = .ok (.ifCond .ge 7, 3) := by decide +kernel
theorem dX12_namelessIn_29 : decode cX12_namelessIn 29 = .ok (.iconst 1, 1) := by decide +kernel
theorem dX12_namelessIn_30 : decode cX12_namelessIn 30 = .ok (.goto 4, 3) := by decide +kernel
theorem dX12_namelessIn_33 : decode cX12_namelessIn 33 = .ok (.iconst 0, 1) := by decide +kernel
theorem dX12_namelessIn_34 : decode cX12_namelessIn 34 = .ok (.iadd, 1) := by decide +kernel
theorem dX12_namelessIn_35 : decode cX12_namelessIn 35 = .ok (.istore_n 2, 1) := by decide +kernel
theorem dX12_namelessIn_36 : decode cX12_namelessIn 36 = .ok (.iinc 3 1, 3) := by decide +kernel
theorem dX12_namelessIn_39 : decode cX12_namelessIn 39 = .ok (.goto (-35), 3) := by decide +kernel
theorem dX12_namelessIn_42 : decode cX12_namelessIn 42 = .ok (.iload_n 2, 1) := by decide +kernel
theorem dX12_namelessIn_43 : decode cX12_namelessIn 43 = .ok (.ireturn, 1) := by decide +kernel
set_option maxHeartbeats 4000000 in
set_option maxRecDepth 100000 in
theorem s_X12_namelessIn {P : PP} {a0 : Nat} {a1 : Int32} (I : IM P a0) (ha1 : 0 ≤ a1.toInt ∧ a1.toInt ≤ 3) : CtrI yX12_namelessIn cX12_namelessIn 4 (some Jvm.ClassFile.FieldType.int) ({ frames := 1, cells := 0, slots := 0, locals := 64 } : Room) 0 0 P [.ref a0, .int a1] (fun r P2 => P = P2 ∧ (True)) := by
  refine enI (lv := [(0, .ref a0), (1, .int a1)]) (by decide) (Nat.le_of_ble_eq_true rfl) rfl (fun E D cy C Ci0 ret => ?_)
  have ha0 := I.2.1
  have J4 : ∀ (n4 : Nat) (v4_2 : Int32) (v4_3 : Int32), (40 - v4_3.toInt).toNat < n4 → (0 ≤ v4_3.toInt ∧ v4_3.toInt ≤ 40) → G E ({ frames := 1, cells := 0, slots := 0, locals := 64 } : Room) D cy 4 P 0 0 4 [(0, .ref a0), (1, .int a1), (2, .int v4_2), (3, .int v4_3)] [] := by
    intro n4
    induction n4 with
    | zero => intro v4_2 v4_3 hm4 hv4_3; omega
    | succ n4 ih4 =>
      intro v4_2 v4_3 hm4 hv4_3
      have J34 : ∀ (v34_s0 : Int32), (0 ≤ v4_3.toInt ∧ v4_3.toInt ≤ 39) → (0 ≤ v34_s0.toInt ∧ v34_s0.toInt ≤ 1) → (∀ b, pR P a0 20 = some b → 1 ≤ (pI P b (a1.toInt.toNat)).toInt ∧ (pI P b (a1.toInt.toNat)).toInt ≤ 40) → G E ({ frames := 1, cells := 0, slots := 0, locals := 64 } : Room) D cy 4 P 0 0 34 [(0, .ref a0), (1, .int a1), (3, .int v4_3)] [.int v34_s0, .int v4_2] := by
        intro v34_s0 hv34_3 hv34_s0 hq34_0
        obtain ⟨b3429, e3430, h3431⟩ := I.fld (ha0) 20 13 20 rfl
        have hq34_0 := hq34_0 b3429 e3430
        refine a_iadd C dX12_namelessIn_34 (fun z3432 => ?_)
        refine g_istore_n (lv' := [(2, .int z3432), (0, .ref a0), (1, .int a1), (3, .int v4_3)]) C dX12_namelessIn_35 rfl (by decide) rfl ?_
        refine s_iinc (lv0 := [(2, .int z3432), (0, .ref a0), (1, .int a1)]) (m := 1) C dX12_namelessIn_36 3 rfl (by decide) rfl (by decide) (by omega) (fun z3434 h3435 => ?_)
        have h3435 : z3434.toInt = v4_3.toInt + 1 := h3435
        refine g_goto C 4 dX12_namelessIn_39 (by decide) ?_
        refine g_lv (lv' := [(0, .ref a0), (1, .int a1), (2, .int z3432), (3, .int z3434)]) [2, 3, 1, 0] rfl ?_
        exact ih4 z3432 z3434 (by omega) (by omega)
      refine g_iload_n C dX12_namelessIn_4 rfl 3 rfl ?_
      refine g_aload_n C dX12_namelessIn_5 rfl 0 rfl ?_
      obtain ⟨b3436, e3437, h3438⟩ := I.fld (ha0) 20 13 20 rfl
      refine g_getR C fi_X12_69 rfl e3437 (ha0).1 (ha0).2 dX12_namelessIn_6 ?_
      refine g_iload_n C dX12_namelessIn_9 rfl 1 rfl ?_
      refine g_iald (j := (a1.toInt.toNat)) C h3438.1 h3438.2.1 (ix_in h3438.2.2 (by omega)) dX12_namelessIn_10 ?_
      have h3439 := I.arr e3437 rfl (a1.toInt.toNat)
      refine b_icmp_ge C 42 dX12_namelessIn_11 (by decide) (fun h3440 => ?_) (fun h3440 => ?_)
      · have h3440 : (pI P b3436 (a1.toInt.toNat)).toInt ≤ v4_3.toInt := h3440
        refine g_iload_n C dX12_namelessIn_42 rfl 2 rfl ?_
        exact ret _ _ _ _ _ _ dX12_namelessIn_43 rfl (by decide) (by decide) ⟨rfl, trivial⟩
      · have h3440 : v4_3.toInt < (pI P b3436 (a1.toInt.toNat)).toInt := h3440
        refine g_iload_n C dX12_namelessIn_14 rfl 2 rfl ?_
        refine g_aload_n C dX12_namelessIn_15 rfl 0 rfl ?_
        obtain ⟨b3441, e3442, h3443⟩ := I.fld (ha0) 22 13 800 rfl
        refine g_getR C fi_X12_75 rfl e3442 (ha0).1 (ha0).2 dX12_namelessIn_16 ?_
        refine g_bipush (v := 40) C dX12_namelessIn_19 (by decide) ?_
        refine g_iload_n C dX12_namelessIn_21 rfl 1 rfl ?_
        refine s_imul C dX12_namelessIn_22 (by show -2147483648 ≤ 40 * a1.toInt ∧ 40 * a1.toInt ≤ 2147483647; omega) (fun z3444 h3445 => ?_)
        have h3445 : z3444.toInt = 40 * a1.toInt := h3445
        refine g_iload_n C dX12_namelessIn_23 rfl 3 rfl ?_
        refine s_iadd C dX12_namelessIn_24 (by show -2147483648 ≤ z3444.toInt + v4_3.toInt ∧ z3444.toInt + v4_3.toInt ≤ 2147483647; omega) (fun z3446 h3447 => ?_)
        have h3447 : z3446.toInt = z3444.toInt + v4_3.toInt := h3447
        refine g_iald (j := (z3446.toInt.toNat)) C h3443.1 h3443.2.1 (ix_in h3443.2.2 (by omega)) dX12_namelessIn_25 ?_
        have h3448 := I.arr e3442 rfl (z3446.toInt.toNat)
        refine b_if_ge C 33 dX12_namelessIn_26 (by decide) (fun h3449 => ?_) (fun h3449 => ?_)
        · have h3449 : 0 ≤ (pI P b3441 (z3446.toInt.toNat)).toInt := h3449
          refine g_iconst (v := 0) C dX12_namelessIn_33 (by decide) ?_
          refine g_lv (lv' := [(0, .ref a0), (1, .int a1), (3, .int v4_3)]) [0, 1, 3] rfl ?_
          exact J34 0 (by omega) (by decide) (fun b9 e9 => by rw [e3437] at e9; cases e9; omega)
        · have h3449 : (pI P b3441 (z3446.toInt.toNat)).toInt < 0 := h3449
          refine g_iconst (v := 1) C dX12_namelessIn_29 (by decide) ?_
          refine g_goto C 34 dX12_namelessIn_30 (by decide) ?_
          refine g_lv (lv' := [(0, .ref a0), (1, .int a1), (3, .int v4_3)]) [0, 1, 3] rfl ?_
          exact J34 1 (by omega) (by decide) (fun b9 e9 => by rw [e3437] at e9; cases e9; omega)
  refine g_iconst (v := 0) C dX12_namelessIn_0 (by decide) ?_
  refine g_istore_n (lv' := [(2, .int 0), (0, .ref a0), (1, .int a1)]) C dX12_namelessIn_1 rfl (by decide) rfl ?_
  refine g_iconst (v := 0) C dX12_namelessIn_2 (by decide) ?_
  refine g_istore_n (lv' := [(3, .int 0), (2, .int 0), (0, .ref a0), (1, .int a1)]) C dX12_namelessIn_3 rfl (by decide) rfl ?_
  refine g_lv (lv' := [(0, .ref a0), (1, .int a1), (2, .int 0), (3, .int 0)]) [2, 3, 1, 0] rfl ?_
  exact J4 _ 0 0 (Nat.lt_succ_self _) (by decide)
theorem dX12_apart_107 : decode cX12_apart 107 = .ok (.ishl, 1) := by decide +kernel
theorem dX12_apart_108 : decode cX12_apart 108 = .ok (.if_icmp .ge 74, 3) := by decide +kernel
theorem dX12_apart_111 : decode cX12_apart 111 = .ok (.aload_n 0, 1) := by decide +kernel
theorem dX12_apart_112 : decode cX12_apart 112 = .ok (.iload_n 1, 1) := by decide +kernel
theorem dX12_apart_113 : decode cX12_apart 113 = .ok (.iconst 0, 1) := by decide +kernel
theorem dX12_apart_114 : decode cX12_apart 114 = .ok (.iload 6, 2) := by decide +kernel
theorem dX12_apart_116 : decode cX12_apart 116 = .ok (.invokevirtual 396, 3) := by decide +kernel
theorem dX12_apart_182 : decode cX12_apart 182 = .ok (.iload 4, 2) := by decide +kernel
theorem dX12_apart_184 : decode cX12_apart 184 = .ok (.ifCond .eq 12, 3) := by decide +kernel
theorem dX12_areChances_0 : decode cX12_areChances 0 = .ok (.aload_n 0, 1) := by decide +kernel
theorem dX12_areChances_1 : decode cX12_areChances 1 = .ok (.iload_n 1, 1) := by decide +kernel
theorem dX12_areChances_2 : decode cX12_areChances 2 = .ok (.invokevirtual 192, 3) := by decide +kernel
theorem dX12_areChances_5 : decode cX12_areChances 5 = .ok (.ifCond .eq 26, 3) := by decide +kernel
theorem dX12_areChances_8 : decode cX12_areChances 8 = .ok (.iload_n 2, 1) := by decide +kernel
theorem dX12_areChances_9 : decode cX12_areChances 9 = .ok (.iconst 1, 1) := by decide +kernel
theorem dX12_areChances_10 : decode cX12_areChances 10 = .ok (.bipush 11, 2) := by decide +kernel
theorem dX12_areChances_12 : decode cX12_areChances 12 = .ok (.invokestatic 178, 3) := by decide +kernel
theorem dX12_areChances_15 : decode cX12_areChances 15 = .ok (.ifCond .eq 16, 3) := by decide +kernel
theorem dX12_areChances_18 : decode cX12_areChances 18 = .ok (.iload_n 3, 1) := by decide +kernel
theorem dX12_areChances_19 : decode cX12_areChances 19 = .ok (.iconst 0, 1) := by decide +kernel
theorem dX12_areChances_20 : decode cX12_areChances 20 = .ok (.iconst 1, 1) := by decide +kernel
theorem dX12_areChances_21 : decode cX12_areChances 21 = .ok (.invokestatic 178, 3) := by decide +kernel
theorem dX12_areChances_24 : decode cX12_areChances 24 = .ok (.ifCond .eq 7, 3) := by decide +kernel
theorem dX12_areChances_27 : decode cX12_areChances 27 = .ok (.iconst 1, 1) := by decide +kernel
theorem dX12_areChances_28 : decode cX12_areChances 28 = .ok (.goto 4, 3) := by decide +kernel
theorem dX12_areChances_31 : decode cX12_areChances 31 = .ok (.iconst 0, 1) := by decide +kernel
theorem dX12_areChances_32 : decode cX12_areChances 32 = .ok (.ireturn, 1) := by decide +kernel
set_option maxHeartbeats 4000000 in
set_option maxRecDepth 100000 in
theorem s_X12_areChances {P : PP} {a0 : Nat} {a1 : Int32} {a2 : Int32} {a3 : Int32} (I : IM P a0) : CtrI yX12_areChances cX12_areChances 4 (some Jvm.ClassFile.FieldType.boolean) ({ frames := 3, cells := 0, slots := 0, locals := 192 } : Room) 0 0 P [.ref a0, .int a1, .int a2, .int a3] (fun r P2 => P = P2 ∧ (0 ≤ r.toInt ∧ r.toInt ≤ 1) ∧ (r.toInt = 0 ∨ (((0 : Int) ≤ a1.toInt ∧ a1.toInt ≤ (1 : Int)) ∧ ((1 : Int) ≤ a2.toInt ∧ a2.toInt ≤ (11 : Int)) ∧ ((0 : Int) ≤ a3.toInt ∧ a3.toInt ≤ (1 : Int))))) := by
  refine enI (lv := [(0, .ref a0), (1, .int a1), (2, .int a2), (3, .int a3)]) (by decide) (Nat.le_of_ble_eq_true rfl) rfl (fun E D cy C Ci0 ret => ?_)
  have ha0 := I.2.1
  have J31 : G E ({ frames := 3, cells := 0, slots := 0, locals := 192 } : Room) D cy 4 P 0 0 31 [] [] := by
    refine g_iconst (v := 0) C dX12_areChances_31 (by decide) ?_
    exact ret _ _ _ _ _ _ dX12_areChances_32 rfl (by decide) (by decide) ⟨rfl, (by decide), Or.inl rfl⟩
  refine g_aload_n C dX12_areChances_0 rfl 0 rfl ?_
  refine g_iload_n C dX12_areChances_1 rfl 1 rfl ?_
  refine g_callVI (rest := []) C mv_X12_192 [.int a1] (s_X12_isBook I) (ha0).1 (ha0).2 rfl rfl (by decide) (Nat.le_of_ble_eq_true rfl) (by decide) dX12_areChances_2 (fun r3541 Y3542 h3543 => ?_)
  obtain ⟨rfl, h3543⟩ := h3543
  obtain ⟨h3543, hi3544⟩ := h3543
  have hi3544 : r3541.toInt = 0 ∨ (((0 : Int) ≤ a1.toInt ∧ a1.toInt ≤ (1 : Int))) := hi3544
  have h3543 : 0 ≤ r3541.toInt ∧ r3541.toInt ≤ 1 := h3543
  refine b_if_eq C 31 dX12_areChances_5 (by decide) (fun h3545 => ?_) (fun h3545 => ?_)
  · have h3545 : r3541.toInt = 0 := congrArg Int32.toInt h3545
    clear hi3544
    refine g_lv (lv' := []) [] rfl ?_
    exact J31 
  · have h3545 : r3541.toInt ≠ 0 := ti_ne h3545
    replace hi3544 := hi3544.resolve_left (by omega)
    refine g_iload_n C dX12_areChances_8 rfl 2 rfl ?_
    refine g_iconst (v := 1) C dX12_areChances_9 (by decide) ?_
    refine g_bipush (v := 11) C dX12_areChances_10 (by decide) ?_
    refine g_callSI (b := 0) (ci := 0) (rest := []) C ms_X12_178 [.int a2, .int 1, .int 11] (s_X12_within I.1) rfl rfl (by decide) (Nat.le_of_ble_eq_true rfl) (by decide) dX12_areChances_12 (fun r3546 Y3547 h3548 => ?_)
    obtain ⟨rfl, h3548⟩ := h3548
    obtain ⟨h3548, hi3549⟩ := h3548
    have hi3549 : r3546.toInt = 0 ∨ (1 ≤ a2.toInt ∧ a2.toInt ≤ 11) := hi3549
    have h3548 : 0 ≤ r3546.toInt ∧ r3546.toInt ≤ 1 := h3548
    refine b_if_eq C 31 dX12_areChances_15 (by decide) (fun h3550 => ?_) (fun h3550 => ?_)
    · have h3550 : r3546.toInt = 0 := congrArg Int32.toInt h3550
      clear hi3549
      refine g_lv (lv' := []) [] rfl ?_
      exact J31 
    · have h3550 : r3546.toInt ≠ 0 := ti_ne h3550
      replace hi3549 := hi3549.resolve_left (by omega)
      refine g_iload_n C dX12_areChances_18 rfl 3 rfl ?_
      refine g_iconst (v := 0) C dX12_areChances_19 (by decide) ?_
      refine g_iconst (v := 1) C dX12_areChances_20 (by decide) ?_
      refine g_callSI (b := 0) (ci := 0) (rest := []) C ms_X12_178 [.int a3, .int 0, .int 1] (s_X12_within I.1) rfl rfl (by decide) (Nat.le_of_ble_eq_true rfl) (by decide) dX12_areChances_21 (fun r3551 Y3552 h3553 => ?_)
      obtain ⟨rfl, h3553⟩ := h3553
      obtain ⟨h3553, hi3554⟩ := h3553
      have hi3554 : r3551.toInt = 0 ∨ (0 ≤ a3.toInt ∧ a3.toInt ≤ 1) := hi3554
      have h3553 : 0 ≤ r3551.toInt ∧ r3551.toInt ≤ 1 := h3553
      refine b_if_eq C 31 dX12_areChances_24 (by decide) (fun h3555 => ?_) (fun h3555 => ?_)
      · have h3555 : r3551.toInt = 0 := congrArg Int32.toInt h3555
        clear hi3554
        refine g_lv (lv' := []) [] rfl ?_
        exact J31 
      · have h3555 : r3551.toInt ≠ 0 := ti_ne h3555
        replace hi3554 := hi3554.resolve_left (by omega)
        refine g_iconst (v := 1) C dX12_areChances_27 (by decide) ?_
        refine g_goto C 32 dX12_areChances_28 (by decide) ?_
        exact ret _ _ _ _ _ _ dX12_areChances_32 rfl (by decide) (by decide) ⟨rfl, (by decide), Or.inr (by omega)⟩
theorem dX12_average_0 : decode cX12_average 0 = .ok (.aload_n 0, 1) := by decide +kernel
theorem dX12_average_1 : decode cX12_average 1 = .ok (.iconst 0, 1) := by decide +kernel
theorem dX12_average_2 : decode cX12_average 2 = .ok (.putfield 1, 3) := by decide +kernel
theorem dX12_average_5 : decode cX12_average 5 = .ok (.aload_n 0, 1) := by decide +kernel
theorem dX12_average_6 : decode cX12_average 6 = .ok (.iload_n 1, 1) := by decide +kernel
theorem dX12_average_7 : decode cX12_average 7 = .ok (.iload_n 2, 1) := by decide +kernel
theorem dX12_average_8 : decode cX12_average 8 = .ok (.iload_n 3, 1) := by decide +kernel
theorem dX12_average_9 : decode cX12_average 9 = .ok (.invokevirtual 377, 3) := by decide +kernel
theorem dX12_average_12 : decode cX12_average 12 = .ok (.ifCond .eq 13, 3) := by decide +kernel
theorem dX12_average_15 : decode cX12_average 15 = .ok (.iload 4, 2) := by decide +kernel
theorem dX12_average_17 : decode cX12_average 17 = .ok (.iconst 0, 1) := by decide +kernel
theorem dX12_average_18 : decode cX12_average 18 = .ok (.iconst 1, 1) := by decide +kernel
theorem dX12_average_19 : decode cX12_average 19 = .ok (.invokestatic 178, 3) := by decide +kernel
theorem dX12_average_22 : decode cX12_average 22 = .ok (.ifCond .ne 7, 3) := by decide +kernel
theorem dX12_average_29 : decode cX12_average 29 = .ok (.aload_n 0, 1) := by decide +kernel
theorem dX12_average_30 : decode cX12_average 30 = .ok (.iload_n 1, 1) := by decide +kernel
theorem dX12_average_31 : decode cX12_average 31 = .ok (.iload_n 2, 1) := by decide +kernel
theorem dX12_average_32 : decode cX12_average 32 = .ok (.invokevirtual 380, 3) := by decide +kernel
theorem dX12_keepsSets_0 : decode cX12_keepsSets 0 = .ok (.iconst 0, 1) := by decide +kernel
theorem dX12_keepsSets_1 : decode cX12_keepsSets 1 = .ok (.istore_n 3, 1) := by decide +kernel
theorem dX12_keepsSets_2 : decode cX12_keepsSets 2 = .ok (.iload_n 3, 1) := by decide +kernel
theorem dX12_keepsSets_3 : decode cX12_keepsSets 3 = .ok (.iload_n 2, 1) := by decide +kernel
theorem dX12_keepsSets_4 : decode cX12_keepsSets 4 = .ok (.if_icmp .ge 21, 3) := by decide +kernel
theorem dX12_keepsSets_7 : decode cX12_keepsSets 7 = .ok (.aload_n 0, 1) := by decide +kernel
theorem dX12_keepsSets_8 : decode cX12_keepsSets 8 = .ok (.getfield 121, 3) := by decide +kernel
theorem dX12_keepsSets_11 : decode cX12_keepsSets 11 = .ok (.iload_n 3, 1) := by decide +kernel
theorem dX12_keepsSets_12 : decode cX12_keepsSets 12 = .ok (.aload_n 0, 1) := by decide +kernel
theorem dX12_keepsSets_13 : decode cX12_keepsSets 13 = .ok (.iload_n 1, 1) := by decide +kernel
theorem dX12_keepsSets_14 : decode cX12_keepsSets 14 = .ok (.iload_n 3, 1) := by decide +kernel
theorem dX12_keepsSets_15 : decode cX12_keepsSets 15 = .ok (.invokevirtual 261, 3) := by decide +kernel
theorem dX12_keepsSets_25 : decode cX12_keepsSets 25 = .ok (.return_, 1) := by decide +kernel
theorem dX12_away_0 : decode cX12_away 0 = .ok (.aload_n 0, 1) := by decide +kernel
theorem dX12_away_1 : decode cX12_away 1 = .ok (.iconst 0, 1) := by decide +kernel
theorem dX12_away_2 : decode cX12_away 2 = .ok (.putfield 1, 3) := by decide +kernel
theorem dX12_away_5 : decode cX12_away 5 = .ok (.aload_n 0, 1) := by decide +kernel
theorem dX12_away_6 : decode cX12_away 6 = .ok (.iload_n 1, 1) := by decide +kernel
theorem dX12_away_7 : decode cX12_away 7 = .ok (.iload_n 2, 1) := by decide +kernel
theorem dX12_away_8 : decode cX12_away 8 = .ok (.invokevirtual 298, 3) := by decide +kernel
theorem dX12_away_11 : decode cX12_away 11 = .ok (.ifCond .ne 5, 3) := by decide +kernel
theorem dX12_away_16 : decode cX12_away 16 = .ok (.aload_n 0, 1) := by decide +kernel
theorem dX12_away_17 : decode cX12_away 17 = .ok (.iload_n 1, 1) := by decide +kernel
theorem dX12_away_18 : decode cX12_away 18 = .ok (.iload_n 2, 1) := by decide +kernel
theorem dX12_away_19 : decode cX12_away 19 = .ok (.invokevirtual 185, 3) := by decide +kernel
theorem dX12_takesOut_0 : decode cX12_takesOut 0 = .ok (.aload_n 0, 1) := by decide +kernel
theorem dX12_takesOut_1 : decode cX12_takesOut 1 = .ok (.getfield 69, 3) := by decide +kernel
theorem dX12_takesOut_4 : decode cX12_takesOut 4 = .ok (.iload_n 1, 1) := by decide +kernel
theorem dX12_takesOut_5 : decode cX12_takesOut 5 = .ok (.dup2, 1) := by decide +kernel
theorem dX12_takesOut_6 : decode cX12_takesOut 6 = .ok (.iaload, 1) := by decide +kernel
theorem dX12_takesOut_7 : decode cX12_takesOut 7 = .ok (.iconst 1, 1) := by decide +kernel
theorem dX12_takesOut_8 : decode cX12_takesOut 8 = .ok (.isub, 1) := by decide +kernel
theorem dX12_takesOut_9 : decode cX12_takesOut 9 = .ok (.iastore, 1) := by decide +kernel
theorem dX12_takesOut_10 : decode cX12_takesOut 10 = .ok (.iload_n 2, 1) := by decide +kernel
theorem dX12_takesOut_11 : decode cX12_takesOut 11 = .ok (.istore_n 3, 1) := by decide +kernel
theorem dX12_takesOut_12 : decode cX12_takesOut 12 = .ok (.iload_n 3, 1) := by decide +kernel
theorem dX12_takesOut_13 : decode cX12_takesOut 13 = .ok (.aload_n 0, 1) := by decide +kernel
theorem dX12_takesOut_14 : decode cX12_takesOut 14 = .ok (.getfield 69, 3) := by decide +kernel
theorem dX12_takesOut_17 : decode cX12_takesOut 17 = .ok (.iload_n 1, 1) := by decide +kernel
theorem dX12_takesOut_18 : decode cX12_takesOut 18 = .ok (.iaload, 1) := by decide +kernel
theorem dX12_takesOut_19 : decode cX12_takesOut 19 = .ok (.if_icmp .ge 27, 3) := by decide +kernel
theorem dX12_takesOut_22 : decode cX12_takesOut 22 = .ok (.aload_n 0, 1) := by decide +kernel
theorem dX12_takesOut_23 : decode cX12_takesOut 23 = .ok (.bipush 40, 2) := by decide +kernel
theorem dX12_takesOut_25 : decode cX12_takesOut 25 = .ok (.iload_n 1, 1) := by decide +kernel
theorem dX12_takesOut_26 : decode cX12_takesOut 26 = .ok (.imul, 1) := by decide +kernel
theorem dX12_takesOut_27 : decode cX12_takesOut 27 = .ok (.iload_n 3, 1) := by decide +kernel
theorem dX12_takesOut_28 : decode cX12_takesOut 28 = .ok (.iadd, 1) := by decide +kernel
theorem dX12_takesOut_29 : decode cX12_takesOut 29 = .ok (.iconst 1, 1) := by decide +kernel
theorem dX12_takesOut_30 : decode cX12_takesOut 30 = .ok (.iadd, 1) := by decide +kernel
theorem dX12_takesOut_31 : decode cX12_takesOut 31 = .ok (.bipush 40, 2) := by decide +kernel
theorem dX12_takesOut_33 : decode cX12_takesOut 33 = .ok (.iload_n 1, 1) := by decide +kernel
theorem dX12_takesOut_34 : decode cX12_takesOut 34 = .ok (.imul, 1) := by decide +kernel
theorem dX12_takesOut_35 : decode cX12_takesOut 35 = .ok (.iload_n 3, 1) := by decide +kernel
theorem dX12_takesOut_36 : decode cX12_takesOut 36 = .ok (.iadd, 1) := by decide +kernel
theorem dX12_takesOut_37 : decode cX12_takesOut 37 = .ok (.invokevirtual 274, 3) := by decide +kernel
theorem dX12_takesOut_46 : decode cX12_takesOut 46 = .ok (.return_, 1) := by decide +kernel
theorem dX12_moves_0 : decode cX12_moves 0 = .ok (.aload_n 0, 1) := by decide +kernel
theorem dX12_moves_1 : decode cX12_moves 1 = .ok (.getfield 72, 3) := by decide +kernel
theorem dX12_moves_4 : decode cX12_moves 4 = .ok (.iload_n 2, 1) := by decide +kernel
theorem dX12_moves_5 : decode cX12_moves 5 = .ok (.aload_n 0, 1) := by decide +kernel
theorem dX12_moves_6 : decode cX12_moves 6 = .ok (.getfield 72, 3) := by decide +kernel
theorem dX12_moves_9 : decode cX12_moves 9 = .ok (.iload_n 1, 1) := by decide +kernel
theorem dX12_moves_10 : decode cX12_moves 10 = .ok (.iaload, 1) := by decide +kernel
theorem dX12_moves_11 : decode cX12_moves 11 = .ok (.iastore, 1) := by decide +kernel
theorem dX12_moves_12 : decode cX12_moves 12 = .ok (.aload_n 0, 1) := by decide +kernel
theorem dX12_moves_13 : decode cX12_moves 13 = .ok (.getfield 75, 3) := by decide +kernel
theorem dX12_moves_16 : decode cX12_moves 16 = .ok (.iload_n 2, 1) := by decide +kernel
theorem dX12_moves_17 : decode cX12_moves 17 = .ok (.aload_n 0, 1) := by decide +kernel
theorem dX12_moves_18 : decode cX12_moves 18 = .ok (.getfield 75, 3) := by decide +kernel
theorem dX12_moves_21 : decode cX12_moves 21 = .ok (.iload_n 1, 1) := by decide +kernel
theorem dX12_moves_22 : decode cX12_moves 22 = .ok (.iaload, 1) := by decide +kernel
theorem dX12_moves_23 : decode cX12_moves 23 = .ok (.iastore, 1) := by decide +kernel
theorem dX12_moves_24 : decode cX12_moves 24 = .ok (.aload_n 0, 1) := by decide +kernel
theorem dX12_moves_25 : decode cX12_moves 25 = .ok (.getfield 78, 3) := by decide +kernel
theorem dX12_moves_28 : decode cX12_moves 28 = .ok (.iload_n 2, 1) := by decide +kernel
theorem dX12_moves_29 : decode cX12_moves 29 = .ok (.aload_n 0, 1) := by decide +kernel
theorem dX12_moves_30 : decode cX12_moves 30 = .ok (.getfield 78, 3) := by decide +kernel
theorem dX12_moves_33 : decode cX12_moves 33 = .ok (.iload_n 1, 1) := by decide +kernel
theorem dX12_moves_34 : decode cX12_moves 34 = .ok (.iaload, 1) := by decide +kernel
theorem dX12_moves_35 : decode cX12_moves 35 = .ok (.iastore, 1) := by decide +kernel
theorem dX12_moves_36 : decode cX12_moves 36 = .ok (.aload_n 0, 1) := by decide +kernel
theorem dX12_moves_37 : decode cX12_moves 37 = .ok (.getfield 81, 3) := by decide +kernel
theorem dX12_moves_40 : decode cX12_moves 40 = .ok (.iload_n 2, 1) := by decide +kernel
theorem dX12_moves_41 : decode cX12_moves 41 = .ok (.aload_n 0, 1) := by decide +kernel
theorem dX12_moves_42 : decode cX12_moves 42 = .ok (.getfield 81, 3) := by decide +kernel
theorem dX12_moves_45 : decode cX12_moves 45 = .ok (.iload_n 1, 1) := by decide +kernel
theorem dX12_moves_46 : decode cX12_moves 46 = .ok (.iaload, 1) := by decide +kernel
theorem dX12_moves_47 : decode cX12_moves 47 = .ok (.iastore, 1) := by decide +kernel
theorem dX12_moves_48 : decode cX12_moves 48 = .ok (.aload_n 0, 1) := by decide +kernel
theorem dX12_moves_49 : decode cX12_moves 49 = .ok (.getfield 84, 3) := by decide +kernel
theorem dX12_moves_52 : decode cX12_moves 52 = .ok (.iload_n 2, 1) := by decide +kernel
theorem dX12_moves_53 : decode cX12_moves 53 = .ok (.aload_n 0, 1) := by decide +kernel
theorem dX12_moves_54 : decode cX12_moves 54 = .ok (.getfield 84, 3) := by decide +kernel
theorem dX12_moves_57 : decode cX12_moves 57 = .ok (.iload_n 1, 1) := by decide +kernel
theorem dX12_moves_58 : decode cX12_moves 58 = .ok (.iaload, 1) := by decide +kernel
theorem dX12_moves_59 : decode cX12_moves 59 = .ok (.iastore, 1) := by decide +kernel
theorem dX12_moves_60 : decode cX12_moves 60 = .ok (.return_, 1) := by decide +kernel
set_option maxHeartbeats 4000000 in
set_option maxRecDepth 100000 in
theorem s_X12_moves {P : PP} {a0 : Nat} {a1 : Int32} {a2 : Int32} (I : IM P a0) (ha1 : 0 ≤ a1.toInt ∧ a1.toInt ≤ 799) (ha2 : 0 ≤ a2.toInt ∧ a2.toInt ≤ 799) : CtrV yX12_moves cX12_moves 3 none ({ frames := 1, cells := 0, slots := 0, locals := 64 } : Room) 0 0 P [.ref a0, .int a1, .int a2] (fun P2 => IM P2 a0 ∧ EM [21, 22, 23, 24, 25] a0 P P2) := by
  refine enV (lv := [(0, .ref a0), (1, .int a1), (2, .int a2)]) (by decide) (Nat.le_of_ble_eq_true rfl) rfl (fun E D cy C Ci0 ret => ?_)
  have ha0 := I.2.1
  refine g_aload_n C dX12_moves_0 rfl 0 rfl ?_
  obtain ⟨b3706, e3707, h3708⟩ := I.fld (ha0) 21 13 800 rfl
  refine g_getR C fi_X12_72 rfl e3707 (ha0).1 (ha0).2 dX12_moves_1 ?_
  refine g_iload_n C dX12_moves_4 rfl 2 rfl ?_
  refine g_aload_n C dX12_moves_5 rfl 0 rfl ?_
  refine g_getR C fi_X12_72 rfl e3707 (ha0).1 (ha0).2 dX12_moves_6 ?_
  refine g_iload_n C dX12_moves_9 rfl 1 rfl ?_
  refine g_iald (j := (a1.toInt.toNat)) C h3708.1 h3708.2.1 (ix_in h3708.2.2 (by omega)) dX12_moves_10 ?_
  refine g_iast (j := (a2.toInt.toNat)) C h3708.1 h3708.2.1 (ix_in h3708.2.2 (by omega)) dX12_moves_11 ?_
  refine gqW (ks := [21]) (I.setA e3707 h3708 (by decide) (arOk.none rfl)) (EM.setA I e3707 rfl (by decide)) (fun Y3709 Iy3710 Xy3711 w3712 => ?_)
  have w3712 : (pI Y3709 b3706 (a2.toInt.toNat)).toInt = (pI P b3706 (a1.toInt.toNat)).toInt := w3712
  have Xz3713 : EM [21, 22, 23, 24, 25] a0 P Y3709 := Xy3711.mono (by decide)
  have e3714 := Xy3711.ref ha0 (by decide) e3707
  have h3715 := Xy3711.at ha0
  have h3716 := Xy3711.ar h3708
  refine g_aload_n C dX12_moves_12 rfl 0 rfl ?_
  obtain ⟨b3717, e3718, h3719⟩ := Iy3710.fld (h3715) 22 13 800 rfl
  refine g_getR C fi_X12_75 rfl e3718 (h3715).1 (h3715).2 dX12_moves_13 ?_
  refine g_iload_n C dX12_moves_16 rfl 2 rfl ?_
  refine g_aload_n C dX12_moves_17 rfl 0 rfl ?_
  refine g_getR C fi_X12_75 rfl e3718 (h3715).1 (h3715).2 dX12_moves_18 ?_
  refine g_iload_n C dX12_moves_21 rfl 1 rfl ?_
  refine g_iald (j := (a1.toInt.toNat)) C h3719.1 h3719.2.1 (ix_in h3719.2.2 (by omega)) dX12_moves_22 ?_
  have h3720 := Iy3710.arr e3718 rfl (a1.toInt.toNat)
  refine g_iast (j := (a2.toInt.toNat)) C h3719.1 h3719.2.1 (ix_in h3719.2.2 (by omega)) dX12_moves_23 ?_
  refine gqW (ks := [22]) (Iy3710.setA e3718 h3719 (by decide) (arOk.of rfl (by omega))) (EM.setA Iy3710 e3718 rfl (by decide)) (fun Y3721 Iy3722 Xy3723 w3724 => ?_)
  have w3724 : (pI Y3721 b3717 (a2.toInt.toNat)).toInt = (pI Y3709 b3717 (a1.toInt.toNat)).toInt := w3724
  have q3725 := Xy3723.keepA e3714 (by decide) rfl (a2.toInt.toNat)
  have Xz3726 : EM [21, 22, 23, 24, 25] a0 P Y3721 := EM.tr ha0 Xz3713 (Xy3723.mono (by decide))
  have e3727 := Xy3723.ref h3715 (by decide) e3714
  have e3728 := Xy3723.ref h3715 (by decide) e3718
  have h3729 := Xy3723.at h3715
  have h3730 := Xy3723.ar h3716
  have h3731 := Xy3723.ar h3719
  refine g_aload_n C dX12_moves_24 rfl 0 rfl ?_
  obtain ⟨b3732, e3733, h3734⟩ := Iy3722.fld (h3729) 23 13 800 rfl
  refine g_getR C fi_X12_78 rfl e3733 (h3729).1 (h3729).2 dX12_moves_25 ?_
  refine g_iload_n C dX12_moves_28 rfl 2 rfl ?_
  refine g_aload_n C dX12_moves_29 rfl 0 rfl ?_
  refine g_getR C fi_X12_78 rfl e3733 (h3729).1 (h3729).2 dX12_moves_30 ?_
  refine g_iload_n C dX12_moves_33 rfl 1 rfl ?_
  refine g_iald (j := (a1.toInt.toNat)) C h3734.1 h3734.2.1 (ix_in h3734.2.2 (by omega)) dX12_moves_34 ?_
  refine g_iast (j := (a2.toInt.toNat)) C h3734.1 h3734.2.1 (ix_in h3734.2.2 (by omega)) dX12_moves_35 ?_
  refine gqW (ks := [23]) (Iy3722.setA e3733 h3734 (by decide) (arOk.none rfl)) (EM.setA Iy3722 e3733 rfl (by decide)) (fun Y3735 Iy3736 Xy3737 w3738 => ?_)
  have w3738 : (pI Y3735 b3732 (a2.toInt.toNat)).toInt = (pI Y3721 b3732 (a1.toInt.toNat)).toInt := w3738
  have q3739 := Xy3737.keepA e3727 (by decide) rfl (a2.toInt.toNat)
  have q3740 := Xy3737.keepA e3728 (by decide) rfl (a2.toInt.toNat)
  have Xz3741 : EM [21, 22, 23, 24, 25] a0 P Y3735 := EM.tr ha0 Xz3726 (Xy3737.mono (by decide))
  have e3742 := Xy3737.ref h3729 (by decide) e3727
  have e3743 := Xy3737.ref h3729 (by decide) e3728
  have e3744 := Xy3737.ref h3729 (by decide) e3733
  have h3745 := Xy3737.at h3729
  have h3746 := Xy3737.ar h3730
  have h3747 := Xy3737.ar h3731
  have h3748 := Xy3737.ar h3734
  refine g_aload_n C dX12_moves_36 rfl 0 rfl ?_
  obtain ⟨b3749, e3750, h3751⟩ := Iy3736.fld (h3745) 24 13 800 rfl
  refine g_getR C fi_X12_81 rfl e3750 (h3745).1 (h3745).2 dX12_moves_37 ?_
  refine g_iload_n C dX12_moves_40 rfl 2 rfl ?_
  refine g_aload_n C dX12_moves_41 rfl 0 rfl ?_
  refine g_getR C fi_X12_81 rfl e3750 (h3745).1 (h3745).2 dX12_moves_42 ?_
  refine g_iload_n C dX12_moves_45 rfl 1 rfl ?_
  refine g_iald (j := (a1.toInt.toNat)) C h3751.1 h3751.2.1 (ix_in h3751.2.2 (by omega)) dX12_moves_46 ?_
  refine g_iast (j := (a2.toInt.toNat)) C h3751.1 h3751.2.1 (ix_in h3751.2.2 (by omega)) dX12_moves_47 ?_
  refine gqW (ks := [24]) (Iy3736.setA e3750 h3751 (by decide) (arOk.none rfl)) (EM.setA Iy3736 e3750 rfl (by decide)) (fun Y3752 Iy3753 Xy3754 w3755 => ?_)
  have w3755 : (pI Y3752 b3749 (a2.toInt.toNat)).toInt = (pI Y3735 b3749 (a1.toInt.toNat)).toInt := w3755
  have q3756 := Xy3754.keepA e3742 (by decide) rfl (a2.toInt.toNat)
  have q3757 := Xy3754.keepA e3743 (by decide) rfl (a2.toInt.toNat)
  have q3758 := Xy3754.keepA e3744 (by decide) rfl (a2.toInt.toNat)
  have Xz3759 : EM [21, 22, 23, 24, 25] a0 P Y3752 := EM.tr ha0 Xz3741 (Xy3754.mono (by decide))
  have e3760 := Xy3754.ref h3745 (by decide) e3742
  have e3761 := Xy3754.ref h3745 (by decide) e3743
  have e3762 := Xy3754.ref h3745 (by decide) e3744
  have e3763 := Xy3754.ref h3745 (by decide) e3750
  have h3764 := Xy3754.at h3745
  have h3765 := Xy3754.ar h3746
  have h3766 := Xy3754.ar h3747
  have h3767 := Xy3754.ar h3748
  have h3768 := Xy3754.ar h3751
  refine g_aload_n C dX12_moves_48 rfl 0 rfl ?_
  obtain ⟨b3769, e3770, h3771⟩ := Iy3753.fld (h3764) 25 13 800 rfl
  refine g_getR C fi_X12_84 rfl e3770 (h3764).1 (h3764).2 dX12_moves_49 ?_
  refine g_iload_n C dX12_moves_52 rfl 2 rfl ?_
  refine g_aload_n C dX12_moves_53 rfl 0 rfl ?_
  refine g_getR C fi_X12_84 rfl e3770 (h3764).1 (h3764).2 dX12_moves_54 ?_
  refine g_iload_n C dX12_moves_57 rfl 1 rfl ?_
  refine g_iald (j := (a1.toInt.toNat)) C h3771.1 h3771.2.1 (ix_in h3771.2.2 (by omega)) dX12_moves_58 ?_
  refine g_iast (j := (a2.toInt.toNat)) C h3771.1 h3771.2.1 (ix_in h3771.2.2 (by omega)) dX12_moves_59 ?_
  refine gqW (ks := [25]) (Iy3753.setA e3770 h3771 (by decide) (arOk.none rfl)) (EM.setA Iy3753 e3770 rfl (by decide)) (fun Y3772 Iy3773 Xy3774 w3775 => ?_)
  have w3775 : (pI Y3772 b3769 (a2.toInt.toNat)).toInt = (pI Y3752 b3769 (a1.toInt.toNat)).toInt := w3775
  have q3776 := Xy3774.keepA e3760 (by decide) rfl (a2.toInt.toNat)
  have q3777 := Xy3774.keepA e3761 (by decide) rfl (a2.toInt.toNat)
  have q3778 := Xy3774.keepA e3762 (by decide) rfl (a2.toInt.toNat)
  have q3779 := Xy3774.keepA e3763 (by decide) rfl (a2.toInt.toNat)
  have Xz3780 : EM [21, 22, 23, 24, 25] a0 P Y3772 := EM.tr ha0 Xz3759 (Xy3774.mono (by decide))
  have e3781 := Xy3774.ref h3764 (by decide) e3760
  have e3782 := Xy3774.ref h3764 (by decide) e3761
  have e3783 := Xy3774.ref h3764 (by decide) e3762
  have e3784 := Xy3774.ref h3764 (by decide) e3763
  have e3785 := Xy3774.ref h3764 (by decide) e3770
  have h3786 := Xy3774.at h3764
  have h3787 := Xy3774.ar h3765
  have h3788 := Xy3774.ar h3766
  have h3789 := Xy3774.ar h3767
  have h3790 := Xy3774.ar h3768
  have h3791 := Xy3774.ar h3771
  exact ret _ _ _ _ _ dX12_moves_60 (by decide) (by decide) ⟨Iy3773, Xz3780⟩
theorem dX12_takesOut_40 : decode cX12_takesOut 40 = .ok (.iinc 3 1, 3) := by decide +kernel
theorem dX12_takesOut_43 : decode cX12_takesOut 43 = .ok (.goto (-31), 3) := by decide +kernel
set_option maxHeartbeats 4000000 in
set_option maxRecDepth 100000 in
theorem s_X12_takesOut {P : PP} {a0 : Nat} {a1 : Int32} {a2 : Int32} (I : IM P a0) (ha1 : 0 ≤ a1.toInt ∧ a1.toInt ≤ 3) (ha2 : 0 ≤ a2.toInt ∧ a2.toInt ≤ 39) (hf0 : ∀ b, pR P a0 20 = some b → 1 ≤ (pI P b (a1.toInt.toNat)).toInt ∧ (pI P b (a1.toInt.toNat)).toInt ≤ 40) : CtrV yX12_takesOut cX12_takesOut 4 none ({ frames := 2, cells := 0, slots := 0, locals := 128 } : Room) 0 0 P [.ref a0, .int a1, .int a2] (fun P2 => IM P2 a0 ∧ EM [20, 21, 22, 23, 24, 25] a0 P P2 ∧ (∀ b, pR P a0 20 = some b → (pI P2 b (a1.toInt.toNat)).toInt = (pI P b (a1.toInt.toNat)).toInt - 1)) := by
  refine enV (lv := [(0, .ref a0), (1, .int a1), (2, .int a2)]) (by decide) (Nat.le_of_ble_eq_true rfl) rfl (fun E D cy C Ci0 ret => ?_)
  have ha0 := I.2.1
  have J12 : ∀ (n12 : Nat) (P12 : PP) (v12_3 : Int32), (39 - v12_3.toInt).toNat < n12 → (IM P12 a0) → (EM [20, 21, 22, 23, 24, 25] a0 P P12) → (0 ≤ v12_3.toInt ∧ v12_3.toInt ≤ 39) → (∀ b, pR P12 a0 20 = some b → 0 ≤ (pI P12 b (a1.toInt.toNat)).toInt ∧ (pI P12 b (a1.toInt.toNat)).toInt ≤ 39) → (∀ b920, pR P12 a0 20 = some b920 → (pI P12 b920 (a1.toInt.toNat)).toInt = (pI P b920 (a1.toInt.toNat)).toInt - 1) → G E ({ frames := 2, cells := 0, slots := 0, locals := 128 } : Room) D cy 4 P12 0 0 12 [(0, .ref a0), (1, .int a1), (3, .int v12_3)] [] := by
    intro n12
    induction n12 with
    | zero => intro P12 v12_3 hm12 I12 X12 hv12_3 hq12_0 rel12_0; omega
    | succ n12 ih12 =>
      intro P12 v12_3 hm12 I12 X12 hv12_3 hq12_0 rel12_0
      have h3832 := X12.at ha0
      obtain ⟨b3833, e3834, h3835⟩ := I12.fld (h3832) 20 13 20 rfl
      have hq12_0 := hq12_0 b3833 e3834
      have rel12_0 := rel12_0 b3833 e3834
      refine g_iload_n C dX12_takesOut_12 rfl 2 rfl ?_
      refine g_aload_n C dX12_takesOut_13 rfl 0 rfl ?_
      refine g_getR C fi_X12_69 rfl e3834 (h3832).1 (h3832).2 dX12_takesOut_14 ?_
      refine g_iload_n C dX12_takesOut_17 rfl 1 rfl ?_
      refine g_iald (j := (a1.toInt.toNat)) C h3835.1 h3835.2.1 (ix_in h3835.2.2 (by omega)) dX12_takesOut_18 ?_
      refine b_icmp_ge C 46 dX12_takesOut_19 (by decide) (fun h3836 => ?_) (fun h3836 => ?_)
      · have h3836 : (pI P12 b3833 (a1.toInt.toNat)).toInt ≤ v12_3.toInt := h3836
        exact ret _ _ _ _ _ dX12_takesOut_46 (by decide) (by decide) ⟨I12, X12, (fun b9 e9 => by have e8 := EM.ref X12 ha0 (by decide) e9; rw [e3834] at e8; cases e8; show (pI P12 b3833 (a1.toInt.toNat)).toInt = (pI P b3833 (a1.toInt.toNat)).toInt - 1; omega)⟩
      · have h3836 : v12_3.toInt < (pI P12 b3833 (a1.toInt.toNat)).toInt := h3836
        refine g_aload_n C dX12_takesOut_22 rfl 0 rfl ?_
        refine g_bipush (v := 40) C dX12_takesOut_23 (by decide) ?_
        refine g_iload_n C dX12_takesOut_25 rfl 1 rfl ?_
        refine s_imul C dX12_takesOut_26 (by show -2147483648 ≤ 40 * a1.toInt ∧ 40 * a1.toInt ≤ 2147483647; omega) (fun z3837 h3838 => ?_)
        have h3838 : z3837.toInt = 40 * a1.toInt := h3838
        refine g_iload_n C dX12_takesOut_27 rfl 2 rfl ?_
        refine s_iadd C dX12_takesOut_28 (by show -2147483648 ≤ z3837.toInt + v12_3.toInt ∧ z3837.toInt + v12_3.toInt ≤ 2147483647; omega) (fun z3839 h3840 => ?_)
        have h3840 : z3839.toInt = z3837.toInt + v12_3.toInt := h3840
        refine g_iconst (v := 1) C dX12_takesOut_29 (by decide) ?_
        refine s_iadd C dX12_takesOut_30 (by show -2147483648 ≤ z3839.toInt + 1 ∧ z3839.toInt + 1 ≤ 2147483647; omega) (fun z3841 h3842 => ?_)
        have h3842 : z3841.toInt = z3839.toInt + 1 := h3842
        refine g_bipush (v := 40) C dX12_takesOut_31 (by decide) ?_
        refine g_iload_n C dX12_takesOut_33 rfl 1 rfl ?_
        refine s_imul C dX12_takesOut_34 (by show -2147483648 ≤ 40 * a1.toInt ∧ 40 * a1.toInt ≤ 2147483647; omega) (fun z3843 h3844 => ?_)
        have h3844 : z3843.toInt = 40 * a1.toInt := h3844
        refine g_iload_n C dX12_takesOut_35 rfl 2 rfl ?_
        refine s_iadd C dX12_takesOut_36 (by show -2147483648 ≤ z3843.toInt + v12_3.toInt ∧ z3843.toInt + v12_3.toInt ≤ 2147483647; omega) (fun z3845 h3846 => ?_)
        have h3846 : z3845.toInt = z3843.toInt + v12_3.toInt := h3846
        refine g_callVV (rest := []) C mv_X12_274 [.int z3841, .int z3845] (s_X12_moves I12 (by omega) (by omega)) (h3832).1 (h3832).2 rfl rfl (by decide) (Nat.le_of_ble_eq_true rfl) (by decide) dX12_takesOut_37 (fun Y3848 h3849 => ?_)
        obtain ⟨Iy3850, Xy3851⟩ := h3849
        have q3852 := Xy3851.keepA e3834 (by decide) rfl (a1.toInt.toNat)
        have Xz3853 : EM [20, 21, 22, 23, 24, 25] a0 P Y3848 := EM.tr ha0 X12 (Xy3851.mono (by decide))
        have e3854 := Xy3851.ref h3832 (by decide) e3834
        have h3855 := Xy3851.at h3832
        have h3856 := Xy3851.ar h3835
        refine s_iinc (lv0 := [(0, .ref a0), (1, .int a1)]) (m := 1) C dX12_takesOut_40 2 rfl (by decide) rfl (by decide) (by omega) (fun z3857 h3858 => ?_)
        have h3858 : z3857.toInt = v12_3.toInt + 1 := h3858
        refine g_goto C 12 dX12_takesOut_43 (by decide) ?_
        refine g_lv (lv' := [(0, .ref a0), (1, .int a1), (3, .int z3857)]) [1, 2, 0] rfl ?_
        exact ih12 Y3848 z3857 (by omega) Iy3850 Xz3853 (by omega) (fun b9 e9 => by rw [e3854] at e9; cases e9; omega) (by intro b920 e920; rw [e3854] at e920; cases e920; show (pI Y3848 b3833 (a1.toInt.toNat)).toInt = (pI P b3833 (a1.toInt.toNat)).toInt - 1; omega)
  obtain ⟨b3859, e3860, h3861⟩ := I.fld (ha0) 20 13 20 rfl
  have hf0 := hf0 b3859 e3860
  refine g_aload_n C dX12_takesOut_0 rfl 0 rfl ?_
  refine g_getR C fi_X12_69 rfl e3860 (ha0).1 (ha0).2 dX12_takesOut_1 ?_
  refine g_iload_n C dX12_takesOut_4 rfl 1 rfl ?_
  refine g_dup2_11 C dX12_takesOut_5 rfl rfl ?_
  refine g_iald (j := (a1.toInt.toNat)) C h3861.1 h3861.2.1 (ix_in h3861.2.2 (by omega)) dX12_takesOut_6 ?_
  refine g_iconst (v := 1) C dX12_takesOut_7 (by decide) ?_
  refine s_isub C dX12_takesOut_8 (by show -2147483648 ≤ (pI P b3859 (a1.toInt.toNat)).toInt - 1 ∧ (pI P b3859 (a1.toInt.toNat)).toInt - 1 ≤ 2147483647; omega) (fun z3862 h3863 => ?_)
  have h3863 : z3862.toInt = (pI P b3859 (a1.toInt.toNat)).toInt - 1 := h3863
  refine g_iast (j := (a1.toInt.toNat)) C h3861.1 h3861.2.1 (ix_in h3861.2.2 (by omega)) dX12_takesOut_9 ?_
  refine gqW (ks := [20]) (I.setA e3860 h3861 (by decide) (arOk.of rfl (by omega))) (EM.setA I e3860 rfl (by decide)) (fun Y3864 Iy3865 Xy3866 w3867 => ?_)
  have w3867 : (pI Y3864 b3859 (a1.toInt.toNat)).toInt = z3862.toInt := w3867
  have Xz3868 : EM [20, 21, 22, 23, 24, 25] a0 P Y3864 := Xy3866.mono (by decide)
  have e3869 := Xy3866.ref ha0 (by decide) e3860
  have h3870 := Xy3866.at ha0
  have h3871 := Xy3866.ar h3861
  refine g_iload_n C dX12_takesOut_10 rfl 2 rfl ?_
  refine g_istore_n (lv' := [(3, .int a2), (0, .ref a0), (1, .int a1), (2, .int a2)]) C dX12_takesOut_11 rfl (by decide) rfl ?_
  refine g_lv (lv' := [(0, .ref a0), (1, .int a1), (3, .int a2)]) [1, 2, 0] rfl ?_
  exact J12 _ Y3864 a2 (Nat.lt_succ_self _) Iy3865 Xz3868 (by omega) (fun b9 e9 => by rw [e3869] at e9; cases e9; omega) (by intro b920 e920; rw [e3869] at e920; cases e920; show (pI Y3864 b3859 (a1.toInt.toNat)).toInt = (pI P b3859 (a1.toInt.toNat)).toInt - 1; omega)
theorem dX12_away_14 : decode cX12_away 14 = .ok (.iconst 0, 1) := by decide +kernel
theorem dX12_away_15 : decode cX12_away 15 = .ok (.ireturn, 1) := by decide +kernel
theorem dX12_away_22 : decode cX12_away 22 = .ok (.iconst 1, 1) := by decide +kernel
theorem dX12_away_23 : decode cX12_away 23 = .ok (.ireturn, 1) := by decide +kernel
set_option maxHeartbeats 4000000 in
set_option maxRecDepth 100000 in
theorem s_X12_away {P : PP} {a0 : Nat} {a1 : Int32} {a2 : Int32} (I : IM P a0) : CtrI yX12_away cX12_away 3 (some Jvm.ClassFile.FieldType.boolean) ({ frames := 4, cells := 0, slots := 0, locals := 256 } : Room) 0 0 P [.ref a0, .int a1, .int a2] (fun r P2 => IM P2 a0 ∧ EM [0, 20, 21, 22, 23, 24, 25] a0 P P2 ∧ (0 ≤ r.toInt ∧ r.toInt ≤ 1) ∧ (r.toInt = 0 ∨ (((0 : Int) ≤ a1.toInt ∧ a1.toInt ≤ (3 : Int)) ∧ ((0 : Int) ≤ a2.toInt ∧ a2.toInt ≤ (39 : Int))))) := by
  refine enI (lv := [(0, .ref a0), (1, .int a1), (2, .int a2)]) (by decide) (Nat.le_of_ble_eq_true rfl) rfl (fun E D cy C Ci0 ret => ?_)
  have ha0 := I.2.1
  refine g_aload_n C dX12_away_0 rfl 0 rfl ?_
  refine g_iconst (v := 0) C dX12_away_1 (by decide) ?_
  refine g_putI C fi_X12_1 rfl (ha0).1 (ha0).2 dX12_away_2 ?_
  refine gqW (ks := [0]) (I.setI (rgOk.of rfl (by decide))) (EM.setI I (by decide)) (fun Y3899 Iy3900 Xy3901 w3902 => ?_)
  have w3902 : (pI Y3899 a0 0).toInt = 0 := w3902
  have Xz3903 : EM [0, 20, 21, 22, 23, 24, 25] a0 P Y3899 := Xy3901.mono (by decide)
  have h3904 := Xy3901.at ha0
  refine g_aload_n C dX12_away_5 rfl 0 rfl ?_
  refine g_iload_n C dX12_away_6 rfl 1 rfl ?_
  refine g_iload_n C dX12_away_7 rfl 2 rfl ?_
  refine g_callVI (rest := []) C mv_X12_298 [.int a1, .int a2] (s_X12_isPaper Iy3900) (h3904).1 (h3904).2 rfl rfl (by decide) (Nat.le_of_ble_eq_true rfl) (by decide) dX12_away_8 (fun r3905 Y3906 h3907 => ?_)
  obtain ⟨rfl, h3907⟩ := h3907
  obtain ⟨h3907, hi3908, hi3909⟩ := h3907
  have hi3908 : r3905.toInt = 0 ∨ (((0 : Int) ≤ a1.toInt ∧ a1.toInt ≤ (3 : Int)) ∧ ((0 : Int) ≤ a2.toInt ∧ a2.toInt ≤ (39 : Int))) := hi3908
  have h3907 : 0 ≤ r3905.toInt ∧ r3905.toInt ≤ 1 := h3907
  refine b_if_ne C 16 dX12_away_11 (by decide) (fun h3910 => ?_) (fun h3910 => ?_)
  · have h3910 : r3905.toInt ≠ 0 := ti_ne h3910
    replace hi3908 := hi3908.resolve_left (by omega)
    obtain ⟨b3911, e3912, h3913⟩ := Iy3900.fld (h3904) 20 13 20 rfl
    have hi3909 := (hi3909.resolve_left (by omega)) b3911 e3912
    have hi3909 : a2.toInt < (pI Y3899 b3911 (a1.toInt.toNat)).toInt ∧ 0 ≤ a2.toInt := hi3909
    have h3914 := Iy3900.arr e3912 rfl (a1.toInt.toNat)
    refine g_aload_n C dX12_away_16 rfl 0 rfl ?_
    refine g_iload_n C dX12_away_17 rfl 1 rfl ?_
    refine g_iload_n C dX12_away_18 rfl 2 rfl ?_
    refine g_callVV (rest := []) C mv_X12_185 [.int a1, .int a2] (s_X12_takesOut Iy3900 (by omega) (by omega) (fun b9 e9 => by rw [e3912] at e9; cases e9; show 1 ≤ (pI Y3899 b3911 (a1.toInt.toNat)).toInt ∧ (pI Y3899 b3911 (a1.toInt.toNat)).toInt ≤ 40; omega)) (h3904).1 (h3904).2 rfl rfl (by decide) (Nat.le_of_ble_eq_true rfl) (by decide) dX12_away_19 (fun Y3916 h3917 => ?_)
    obtain ⟨Iy3918, Xy3919, p3920⟩ := h3917
    have p3920 := p3920 b3911 e3912
    have p3920 : (pI Y3916 b3911 (a1.toInt.toNat)).toInt = (pI Y3899 b3911 (a1.toInt.toNat)).toInt - 1 := p3920
    have q3921 := Xy3919.keepF 0 (by decide)
    have Xz3922 : EM [0, 20, 21, 22, 23, 24, 25] a0 P Y3916 := EM.tr ha0 Xz3903 (Xy3919.mono (by decide))
    have e3923 := Xy3919.ref h3904 (by decide) e3912
    have h3924 := Xy3919.at h3904
    have h3925 := Xy3919.ar h3913
    refine g_iconst (v := 1) C dX12_away_22 (by decide) ?_
    exact ret _ _ _ _ _ _ dX12_away_23 rfl (by decide) (by decide) ⟨Iy3918, Xz3922, (by decide), Or.inr (by omega)⟩
  · have h3910 : r3905.toInt = 0 := congrArg Int32.toInt h3910
    clear hi3908
    refine g_iconst (v := 0) C dX12_away_14 (by decide) ?_
    exact ret _ _ _ _ _ _ dX12_away_15 rfl (by decide) (by decide) ⟨Iy3900, Xz3903, (by decide), Or.inl rfl⟩
theorem dX12_bits_0 : decode cX12_bits 0 = .ok (.iconst 0, 1) := by decide +kernel
theorem dX12_bits_1 : decode cX12_bits 1 = .ok (.istore_n 1, 1) := by decide +kernel
theorem dX12_bits_2 : decode cX12_bits 2 = .ok (.iconst 0, 1) := by decide +kernel
theorem dX12_bits_3 : decode cX12_bits 3 = .ok (.istore_n 2, 1) := by decide +kernel
theorem dX12_bits_4 : decode cX12_bits 4 = .ok (.iload_n 2, 1) := by decide +kernel
theorem dX12_bits_5 : decode cX12_bits 5 = .ok (.bipush 20, 2) := by decide +kernel
theorem dX12_bits_7 : decode cX12_bits 7 = .ok (.if_icmp .ge 17, 3) := by decide +kernel
theorem dX12_bits_10 : decode cX12_bits 10 = .ok (.iload_n 1, 1) := by decide +kernel
theorem dX12_bits_11 : decode cX12_bits 11 = .ok (.iload_n 0, 1) := by decide +kernel
theorem dX12_bits_12 : decode cX12_bits 12 = .ok (.iload_n 2, 1) := by decide +kernel
theorem dX12_bits_13 : decode cX12_bits 13 = .ok (.ishr, 1) := by decide +kernel
theorem dX12_bits_14 : decode cX12_bits 14 = .ok (.iconst 1, 1) := by decide +kernel
theorem dX12_bits_15 : decode cX12_bits 15 = .ok (.iand, 1) := by decide +kernel
theorem dX12_bits_16 : decode cX12_bits 16 = .ok (.iadd, 1) := by decide +kernel
theorem dX12_bits_17 : decode cX12_bits 17 = .ok (.istore_n 1, 1) := by decide +kernel
theorem dX12_bits_18 : decode cX12_bits 18 = .ok (.iinc 2 1, 3) := by decide +kernel
theorem dX12_bits_21 : decode cX12_bits 21 = .ok (.goto (-17), 3) := by decide +kernel
theorem dX12_bits_24 : decode cX12_bits 24 = .ok (.iload_n 1, 1) := by decide +kernel
theorem dX12_bits_25 : decode cX12_bits 25 = .ok (.ireturn, 1) := by decide +kernel
set_option maxHeartbeats 4000000 in
set_option maxRecDepth 100000 in
theorem s_X12_bits {P : PP} {a0 : Int32} (I : IV P) : CtrI yX12_bits cX12_bits 3 (some Jvm.ClassFile.FieldType.int) ({ frames := 1, cells := 0, slots := 0, locals := 64 } : Room) 0 0 P [.int a0] (fun r P2 => P = P2 ∧ (True)) := by
  refine enI (lv := [(0, .int a0)]) (by decide) (Nat.le_of_ble_eq_true rfl) rfl (fun E D cy C Ci0 ret => ?_)
  have J4 : ∀ (n4 : Nat) (v4_1 : Int32) (v4_2 : Int32), (20 - v4_2.toInt).toNat < n4 → (0 ≤ v4_2.toInt ∧ v4_2.toInt ≤ 20) → G E ({ frames := 1, cells := 0, slots := 0, locals := 64 } : Room) D cy 3 P 0 0 4 [(0, .int a0), (1, .int v4_1), (2, .int v4_2)] [] := by
    intro n4
    induction n4 with
    | zero => intro v4_1 v4_2 hm4 hv4_2; omega
    | succ n4 ih4 =>
      intro v4_1 v4_2 hm4 hv4_2
      refine g_iload_n C dX12_bits_4 rfl 2 rfl ?_
      refine g_bipush (v := 20) C dX12_bits_5 (by decide) ?_
      refine b_icmp_ge C 24 dX12_bits_7 (by decide) (fun h4232 => ?_) (fun h4232 => ?_)
      · have h4232 : 20 ≤ v4_2.toInt := h4232
        refine g_iload_n C dX12_bits_24 rfl 1 rfl ?_
        exact ret _ _ _ _ _ _ dX12_bits_25 rfl (by decide) (by decide) ⟨rfl, trivial⟩
      · have h4232 : v4_2.toInt < 20 := h4232
        refine g_iload_n C dX12_bits_10 rfl 1 rfl ?_
        refine g_iload_n C dX12_bits_11 rfl 0 rfl ?_
        refine g_iload_n C dX12_bits_12 rfl 2 rfl ?_
        refine a_ishr C dX12_bits_13 (fun z4233 => ?_)
        refine g_iconst (v := 1) C dX12_bits_14 (by decide) ?_
        refine s_iand C dX12_bits_15 (by show 0 ≤ 1; omega) (fun z4235 h4236 => ?_)
        have h4236 : 0 ≤ z4235.toInt ∧ z4235.toInt ≤ 1 := h4236
        refine a_iadd C dX12_bits_16 (fun z4237 => ?_)
        refine g_istore_n (lv' := [(1, .int z4237), (0, .int a0), (2, .int v4_2)]) C dX12_bits_17 rfl (by decide) rfl ?_
        refine s_iinc (lv0 := [(1, .int z4237), (0, .int a0)]) (m := 1) C dX12_bits_18 2 rfl (by decide) rfl (by decide) (by omega) (fun z4239 h4240 => ?_)
        have h4240 : z4239.toInt = v4_2.toInt + 1 := h4240
        refine g_goto C 4 dX12_bits_21 (by decide) ?_
        refine g_lv (lv' := [(0, .int a0), (1, .int z4237), (2, .int z4239)]) [2, 1, 0] rfl ?_
        exact ih4 z4237 z4239 (by omega) (by omega)
  refine g_iconst (v := 0) C dX12_bits_0 (by decide) ?_
  refine g_istore_n (lv' := [(1, .int 0), (0, .int a0)]) C dX12_bits_1 rfl (by decide) rfl ?_
  refine g_iconst (v := 0) C dX12_bits_2 (by decide) ?_
  refine g_istore_n (lv' := [(2, .int 0), (1, .int 0), (0, .int a0)]) C dX12_bits_3 rfl (by decide) rfl ?_
  refine g_lv (lv' := [(0, .int a0), (1, .int 0), (2, .int 0)]) [2, 1, 0] rfl ?_
  exact J4 _ 0 0 (Nat.lt_succ_self _) (by decide)
theorem dX12_book_0 : decode cX12_book 0 = .ok (.aload_n 0, 1) := by decide +kernel
theorem dX12_book_1 : decode cX12_book 1 = .ok (.iconst 0, 1) := by decide +kernel
theorem dX12_book_2 : decode cX12_book 2 = .ok (.putfield 1, 3) := by decide +kernel
theorem dX12_book_5 : decode cX12_book 5 = .ok (.iload_n 1, 1) := by decide +kernel
theorem dX12_book_6 : decode cX12_book 6 = .ok (.iconst 0, 1) := by decide +kernel
theorem dX12_book_7 : decode cX12_book 7 = .ok (.iconst 1, 1) := by decide +kernel
theorem dX12_book_8 : decode cX12_book 8 = .ok (.invokestatic 178, 3) := by decide +kernel
theorem dX12_book_11 : decode cX12_book 11 = .ok (.ifCond .eq 13, 3) := by decide +kernel
theorem dX12_book_14 : decode cX12_book 14 = .ok (.iload_n 2, 1) := by decide +kernel
theorem dX12_book_15 : decode cX12_book 15 = .ok (.iconst 1, 1) := by decide +kernel
theorem dX12_book_16 : decode cX12_book 16 = .ok (.bipush 16, 2) := by decide +kernel
theorem dX12_book_18 : decode cX12_book 18 = .ok (.invokestatic 178, 3) := by decide +kernel
theorem dX12_book_21 : decode cX12_book 21 = .ok (.ifCond .ne 5, 3) := by decide +kernel
theorem dX12_book_24 : decode cX12_book 24 = .ok (.iconst 0, 1) := by decide +kernel
theorem dX12_book_25 : decode cX12_book 25 = .ok (.ireturn, 1) := by decide +kernel
theorem dX12_book_26 : decode cX12_book 26 = .ok (.aload_n 0, 1) := by decide +kernel
theorem dX12_book_27 : decode cX12_book 27 = .ok (.getfield 45, 3) := by decide +kernel
theorem dX12_book_30 : decode cX12_book 30 = .ok (.iload_n 1, 1) := by decide +kernel
theorem dX12_book_31 : decode cX12_book 31 = .ok (.iload_n 2, 1) := by decide +kernel
theorem dX12_book_32 : decode cX12_book 32 = .ok (.iastore, 1) := by decide +kernel
theorem dX12_book_33 : decode cX12_book 33 = .ok (.iconst 0, 1) := by decide +kernel
theorem dX12_book_34 : decode cX12_book 34 = .ok (.istore_n 3, 1) := by decide +kernel
theorem dX12_book_35 : decode cX12_book 35 = .ok (.iload_n 3, 1) := by decide +kernel
theorem dX12_book_36 : decode cX12_book 36 = .ok (.bipush 16, 2) := by decide +kernel
theorem dX12_book_38 : decode cX12_book 38 = .ok (.if_icmp .ge 21, 3) := by decide +kernel
theorem dX12_book_41 : decode cX12_book 41 = .ok (.aload_n 0, 1) := by decide +kernel
theorem dX12_book_42 : decode cX12_book 42 = .ok (.getfield 48, 3) := by decide +kernel
theorem dX12_book_45 : decode cX12_book 45 = .ok (.bipush 16, 2) := by decide +kernel
theorem dX12_book_47 : decode cX12_book 47 = .ok (.iload_n 1, 1) := by decide +kernel
theorem dX12_book_48 : decode cX12_book 48 = .ok (.imul, 1) := by decide +kernel
theorem dX12_book_49 : decode cX12_book 49 = .ok (.iload_n 3, 1) := by decide +kernel
theorem dX12_book_50 : decode cX12_book 50 = .ok (.iadd, 1) := by decide +kernel
theorem dX12_book_51 : decode cX12_book 51 = .ok (.iconst 0, 1) := by decide +kernel
theorem dX12_book_52 : decode cX12_book 52 = .ok (.iastore, 1) := by decide +kernel
theorem dX12_book_53 : decode cX12_book 53 = .ok (.iinc 3 1, 3) := by decide +kernel
theorem dX12_book_56 : decode cX12_book 56 = .ok (.goto (-21), 3) := by decide +kernel
theorem dX12_book_59 : decode cX12_book 59 = .ok (.aload_n 0, 1) := by decide +kernel
theorem dX12_book_60 : decode cX12_book 60 = .ok (.iload_n 1, 1) := by decide +kernel
theorem dX12_book_61 : decode cX12_book 61 = .ok (.invokevirtual 182, 3) := by decide +kernel
theorem dX12_forgetsDraw_0 : decode cX12_forgetsDraw 0 = .ok (.iconst 0, 1) := by decide +kernel
theorem dX12_forgetsDraw_1 : decode cX12_forgetsDraw 1 = .ok (.istore_n 2, 1) := by decide +kernel
theorem dX12_forgetsDraw_2 : decode cX12_forgetsDraw 2 = .ok (.iload_n 2, 1) := by decide +kernel
theorem dX12_forgetsDraw_3 : decode cX12_forgetsDraw 3 = .ok (.bipush 21, 2) := by decide +kernel
theorem dX12_forgetsDraw_5 : decode cX12_forgetsDraw 5 = .ok (.if_icmp .ge 21, 3) := by decide +kernel
theorem dX12_forgetsDraw_8 : decode cX12_forgetsDraw 8 = .ok (.aload_n 0, 1) := by decide +kernel
theorem dX12_forgetsDraw_9 : decode cX12_forgetsDraw 9 = .ok (.getfield 51, 3) := by decide +kernel
theorem dX12_forgetsDraw_12 : decode cX12_forgetsDraw 12 = .ok (.bipush 21, 2) := by decide +kernel
theorem dX12_forgetsDraw_14 : decode cX12_forgetsDraw 14 = .ok (.iload_n 1, 1) := by decide +kernel
theorem dX12_forgetsDraw_15 : decode cX12_forgetsDraw 15 = .ok (.imul, 1) := by decide +kernel
theorem dX12_forgetsDraw_16 : decode cX12_forgetsDraw 16 = .ok (.iload_n 2, 1) := by decide +kernel
theorem dX12_forgetsDraw_17 : decode cX12_forgetsDraw 17 = .ok (.iadd, 1) := by decide +kernel
theorem dX12_forgetsDraw_18 : decode cX12_forgetsDraw 18 = .ok (.iconst (-1), 1) := by decide +kernel
theorem dX12_forgetsDraw_19 : decode cX12_forgetsDraw 19 = .ok (.iastore, 1) := by decide +kernel
theorem dX12_forgetsDraw_20 : decode cX12_forgetsDraw 20 = .ok (.iinc 2 1, 3) := by decide +kernel
theorem dX12_forgetsDraw_23 : decode cX12_forgetsDraw 23 = .ok (.goto (-21), 3) := by decide +kernel
theorem dX12_forgetsDraw_26 : decode cX12_forgetsDraw 26 = .ok (.aload_n 0, 1) := by decide +kernel
theorem dX12_forgetsDraw_27 : decode cX12_forgetsDraw 27 = .ok (.getfield 54, 3) := by decide +kernel
theorem dX12_forgetsDraw_30 : decode cX12_forgetsDraw 30 = .ok (.iload_n 1, 1) := by decide +kernel
theorem dX12_forgetsDraw_31 : decode cX12_forgetsDraw 31 = .ok (.iconst 0, 1) := by decide +kernel
theorem dX12_forgetsDraw_32 : decode cX12_forgetsDraw 32 = .ok (.iastore, 1) := by decide +kernel
theorem dX12_forgetsDraw_33 : decode cX12_forgetsDraw 33 = .ok (.aload_n 0, 1) := by decide +kernel
theorem dX12_forgetsDraw_34 : decode cX12_forgetsDraw 34 = .ok (.getfield 57, 3) := by decide +kernel
theorem dX12_forgetsDraw_37 : decode cX12_forgetsDraw 37 = .ok (.iload_n 1, 1) := by decide +kernel
theorem dX12_forgetsDraw_38 : decode cX12_forgetsDraw 38 = .ok (.iconst 1, 1) := by decide +kernel
theorem dX12_forgetsDraw_39 : decode cX12_forgetsDraw 39 = .ok (.iastore, 1) := by decide +kernel
theorem dX12_forgetsDraw_40 : decode cX12_forgetsDraw 40 = .ok (.aload_n 0, 1) := by decide +kernel
theorem dX12_forgetsDraw_41 : decode cX12_forgetsDraw 41 = .ok (.getfield 60, 3) := by decide +kernel
theorem dX12_forgetsDraw_44 : decode cX12_forgetsDraw 44 = .ok (.iload_n 1, 1) := by decide +kernel
theorem dX12_forgetsDraw_45 : decode cX12_forgetsDraw 45 = .ok (.iconst 0, 1) := by decide +kernel
theorem dX12_forgetsDraw_46 : decode cX12_forgetsDraw 46 = .ok (.iastore, 1) := by decide +kernel
theorem dX12_forgetsDraw_47 : decode cX12_forgetsDraw 47 = .ok (.aload_n 0, 1) := by decide +kernel
theorem dX12_forgetsDraw_48 : decode cX12_forgetsDraw 48 = .ok (.getfield 66, 3) := by decide +kernel
theorem dX12_forgetsDraw_51 : decode cX12_forgetsDraw 51 = .ok (.iload_n 1, 1) := by decide +kernel
theorem dX12_forgetsDraw_52 : decode cX12_forgetsDraw 52 = .ok (.iconst 0, 1) := by decide +kernel
theorem dX12_forgetsDraw_53 : decode cX12_forgetsDraw 53 = .ok (.iastore, 1) := by decide +kernel
theorem dX12_forgetsDraw_54 : decode cX12_forgetsDraw 54 = .ok (.return_, 1) := by decide +kernel
set_option maxHeartbeats 4000000 in
set_option maxRecDepth 100000 in
theorem s_X12_forgetsDraw {P : PP} {a0 : Nat} {a1 : Int32} (I : IM P a0) (ha1 : 0 ≤ a1.toInt ∧ a1.toInt ≤ 2) : CtrV yX12_forgetsDraw cX12_forgetsDraw 3 none ({ frames := 1, cells := 0, slots := 0, locals := 64 } : Room) 0 0 P [.ref a0, .int a1] (fun P2 => IM P2 a0 ∧ EM [12, 13, 14, 15, 17] a0 P P2) := by
  refine enV (lv := [(0, .ref a0), (1, .int a1)]) (by decide) (Nat.le_of_ble_eq_true rfl) rfl (fun E D cy C Ci0 ret => ?_)
  have ha0 := I.2.1
  have J2 : ∀ (n2 : Nat) (P2 : PP) (v2_2 : Int32), (21 - v2_2.toInt).toNat < n2 → (IM P2 a0) → (EM [12, 13, 14, 15, 17] a0 P P2) → (0 ≤ v2_2.toInt ∧ v2_2.toInt ≤ 21) → G E ({ frames := 1, cells := 0, slots := 0, locals := 64 } : Room) D cy 3 P2 0 0 2 [(0, .ref a0), (1, .int a1), (2, .int v2_2)] [] := by
    intro n2
    induction n2 with
    | zero => intro P2 v2_2 hm2 I2 X2 hv2_2; omega
    | succ n2 ih2 =>
      intro P2 v2_2 hm2 I2 X2 hv2_2
      have h4862 := X2.at ha0
      refine g_iload_n C dX12_forgetsDraw_2 rfl 2 rfl ?_
      refine g_bipush (v := 21) C dX12_forgetsDraw_3 (by decide) ?_
      refine b_icmp_ge C 26 dX12_forgetsDraw_5 (by decide) (fun h4863 => ?_) (fun h4863 => ?_)
      · have h4863 : 21 ≤ v2_2.toInt := h4863
        refine g_aload_n C dX12_forgetsDraw_26 rfl 0 rfl ?_
        obtain ⟨b4864, e4865, h4866⟩ := I2.fld (h4862) 13 13 3 rfl
        refine g_getR C fi_X12_54 rfl e4865 (h4862).1 (h4862).2 dX12_forgetsDraw_27 ?_
        refine g_iload_n C dX12_forgetsDraw_30 rfl 1 rfl ?_
        refine g_iconst (v := 0) C dX12_forgetsDraw_31 (by decide) ?_
        refine g_iast (j := (a1.toInt.toNat)) C h4866.1 h4866.2.1 (ix_in h4866.2.2 (by omega)) dX12_forgetsDraw_32 ?_
        refine gqW (ks := [13]) (I2.setA e4865 h4866 (by decide) (arOk.none rfl)) (EM.setA I2 e4865 rfl (by decide)) (fun Y4867 Iy4868 Xy4869 w4870 => ?_)
        have w4870 : (pI Y4867 b4864 (a1.toInt.toNat)).toInt = 0 := w4870
        have Xz4871 : EM [12, 13, 14, 15, 17] a0 P Y4867 := EM.tr ha0 X2 (Xy4869.mono (by decide))
        have e4872 := Xy4869.ref h4862 (by decide) e4865
        have h4873 := Xy4869.at h4862
        have h4874 := Xy4869.ar h4866
        refine g_aload_n C dX12_forgetsDraw_33 rfl 0 rfl ?_
        obtain ⟨b4875, e4876, h4877⟩ := Iy4868.fld (h4873) 14 13 3 rfl
        refine g_getR C fi_X12_57 rfl e4876 (h4873).1 (h4873).2 dX12_forgetsDraw_34 ?_
        refine g_iload_n C dX12_forgetsDraw_37 rfl 1 rfl ?_
        refine g_iconst (v := 1) C dX12_forgetsDraw_38 (by decide) ?_
        refine g_iast (j := (a1.toInt.toNat)) C h4877.1 h4877.2.1 (ix_in h4877.2.2 (by omega)) dX12_forgetsDraw_39 ?_
        refine gqW (ks := [14]) (Iy4868.setA e4876 h4877 (by decide) (arOk.of rfl (by decide))) (EM.setA Iy4868 e4876 rfl (by decide)) (fun Y4878 Iy4879 Xy4880 w4881 => ?_)
        have w4881 : (pI Y4878 b4875 (a1.toInt.toNat)).toInt = 1 := w4881
        have q4882 := Xy4880.keepA e4872 (by decide) rfl (a1.toInt.toNat)
        have Xz4883 : EM [12, 13, 14, 15, 17] a0 P Y4878 := EM.tr ha0 Xz4871 (Xy4880.mono (by decide))
        have e4884 := Xy4880.ref h4873 (by decide) e4872
        have e4885 := Xy4880.ref h4873 (by decide) e4876
        have h4886 := Xy4880.at h4873
        have h4887 := Xy4880.ar h4874
        have h4888 := Xy4880.ar h4877
        refine g_aload_n C dX12_forgetsDraw_40 rfl 0 rfl ?_
        obtain ⟨b4889, e4890, h4891⟩ := Iy4879.fld (h4886) 15 13 3 rfl
        refine g_getR C fi_X12_60 rfl e4890 (h4886).1 (h4886).2 dX12_forgetsDraw_41 ?_
        refine g_iload_n C dX12_forgetsDraw_44 rfl 1 rfl ?_
        refine g_iconst (v := 0) C dX12_forgetsDraw_45 (by decide) ?_
        refine g_iast (j := (a1.toInt.toNat)) C h4891.1 h4891.2.1 (ix_in h4891.2.2 (by omega)) dX12_forgetsDraw_46 ?_
        refine gqW (ks := [15]) (Iy4879.setA e4890 h4891 (by decide) (arOk.of rfl (by decide))) (EM.setA Iy4879 e4890 rfl (by decide)) (fun Y4892 Iy4893 Xy4894 w4895 => ?_)
        have w4895 : (pI Y4892 b4889 (a1.toInt.toNat)).toInt = 0 := w4895
        have q4896 := Xy4894.keepA e4884 (by decide) rfl (a1.toInt.toNat)
        have q4897 := Xy4894.keepA e4885 (by decide) rfl (a1.toInt.toNat)
        have Xz4898 : EM [12, 13, 14, 15, 17] a0 P Y4892 := EM.tr ha0 Xz4883 (Xy4894.mono (by decide))
        have e4899 := Xy4894.ref h4886 (by decide) e4884
        have e4900 := Xy4894.ref h4886 (by decide) e4885
        have e4901 := Xy4894.ref h4886 (by decide) e4890
        have h4902 := Xy4894.at h4886
        have h4903 := Xy4894.ar h4887
        have h4904 := Xy4894.ar h4888
        have h4905 := Xy4894.ar h4891
        refine g_aload_n C dX12_forgetsDraw_47 rfl 0 rfl ?_
        obtain ⟨b4906, e4907, h4908⟩ := Iy4893.fld (h4902) 17 13 3 rfl
        refine g_getR C fi_X12_66 rfl e4907 (h4902).1 (h4902).2 dX12_forgetsDraw_48 ?_
        refine g_iload_n C dX12_forgetsDraw_51 rfl 1 rfl ?_
        refine g_iconst (v := 0) C dX12_forgetsDraw_52 (by decide) ?_
        refine g_iast (j := (a1.toInt.toNat)) C h4908.1 h4908.2.1 (ix_in h4908.2.2 (by omega)) dX12_forgetsDraw_53 ?_
        refine gqW (ks := [17]) (Iy4893.setA e4907 h4908 (by decide) (arOk.none rfl)) (EM.setA Iy4893 e4907 rfl (by decide)) (fun Y4909 Iy4910 Xy4911 w4912 => ?_)
        have w4912 : (pI Y4909 b4906 (a1.toInt.toNat)).toInt = 0 := w4912
        have q4913 := Xy4911.keepA e4899 (by decide) rfl (a1.toInt.toNat)
        have q4914 := Xy4911.keepA e4900 (by decide) rfl (a1.toInt.toNat)
        have q4915 := Xy4911.keepA e4901 (by decide) rfl (a1.toInt.toNat)
        have Xz4916 : EM [12, 13, 14, 15, 17] a0 P Y4909 := EM.tr ha0 Xz4898 (Xy4911.mono (by decide))
        have e4917 := Xy4911.ref h4902 (by decide) e4899
        have e4918 := Xy4911.ref h4902 (by decide) e4900
        have e4919 := Xy4911.ref h4902 (by decide) e4901
        have e4920 := Xy4911.ref h4902 (by decide) e4907
        have h4921 := Xy4911.at h4902
        have h4922 := Xy4911.ar h4903
        have h4923 := Xy4911.ar h4904
        have h4924 := Xy4911.ar h4905
        have h4925 := Xy4911.ar h4908
        exact ret _ _ _ _ _ dX12_forgetsDraw_54 (by decide) (by decide) ⟨Iy4910, Xz4916⟩
      · have h4863 : v2_2.toInt < 21 := h4863
        refine g_aload_n C dX12_forgetsDraw_8 rfl 0 rfl ?_
        obtain ⟨b4926, e4927, h4928⟩ := I2.fld (h4862) 12 13 63 rfl
        refine g_getR C fi_X12_51 rfl e4927 (h4862).1 (h4862).2 dX12_forgetsDraw_9 ?_
        refine g_bipush (v := 21) C dX12_forgetsDraw_12 (by decide) ?_
        refine g_iload_n C dX12_forgetsDraw_14 rfl 1 rfl ?_
        refine s_imul C dX12_forgetsDraw_15 (by show -2147483648 ≤ 21 * a1.toInt ∧ 21 * a1.toInt ≤ 2147483647; omega) (fun z4929 h4930 => ?_)
        have h4930 : z4929.toInt = 21 * a1.toInt := h4930
        refine g_iload_n C dX12_forgetsDraw_16 rfl 2 rfl ?_
        refine s_iadd C dX12_forgetsDraw_17 (by show -2147483648 ≤ z4929.toInt + v2_2.toInt ∧ z4929.toInt + v2_2.toInt ≤ 2147483647; omega) (fun z4931 h4932 => ?_)
        have h4932 : z4931.toInt = z4929.toInt + v2_2.toInt := h4932
        refine g_iconst (v := (-1)) C dX12_forgetsDraw_18 (by decide) ?_
        refine g_iast (j := (z4931.toInt.toNat)) C h4928.1 h4928.2.1 (ix_in h4928.2.2 (by omega)) dX12_forgetsDraw_19 ?_
        refine gqW (ks := [12]) (I2.setA e4927 h4928 (by decide) (arOk.none rfl)) (EM.setA I2 e4927 rfl (by decide)) (fun Y4933 Iy4934 Xy4935 w4936 => ?_)
        have w4936 : (pI Y4933 b4926 (z4931.toInt.toNat)).toInt = (-1) := w4936
        have Xz4937 : EM [12, 13, 14, 15, 17] a0 P Y4933 := EM.tr ha0 X2 (Xy4935.mono (by decide))
        have e4938 := Xy4935.ref h4862 (by decide) e4927
        have h4939 := Xy4935.at h4862
        have h4940 := Xy4935.ar h4928
        refine s_iinc (lv0 := [(0, .ref a0), (1, .int a1)]) (m := 1) C dX12_forgetsDraw_20 2 rfl (by decide) rfl (by decide) (by omega) (fun z4941 h4942 => ?_)
        have h4942 : z4941.toInt = v2_2.toInt + 1 := h4942
        refine g_goto C 2 dX12_forgetsDraw_23 (by decide) ?_
        refine g_lv (lv' := [(0, .ref a0), (1, .int a1), (2, .int z4941)]) [1, 2, 0] rfl ?_
        exact ih2 Y4933 z4941 (by omega) Iy4934 Xz4937 (by omega)
  refine g_iconst (v := 0) C dX12_forgetsDraw_0 (by decide) ?_
  refine g_istore_n (lv' := [(2, .int 0), (0, .ref a0), (1, .int a1)]) C dX12_forgetsDraw_1 rfl (by decide) rfl ?_
  refine g_lv (lv' := [(0, .ref a0), (1, .int a1), (2, .int 0)]) [1, 2, 0] rfl ?_
  exact J2 _ P 0 (Nat.lt_succ_self _) I EM.rf (by decide)
theorem dX12_book_64 : decode cX12_book 64 = .ok (.iconst 0, 1) := by decide +kernel
theorem dX12_book_65 : decode cX12_book 65 = .ok (.istore_n 3, 1) := by decide +kernel
theorem dX12_book_66 : decode cX12_book 66 = .ok (.iload_n 3, 1) := by decide +kernel
theorem dX12_book_67 : decode cX12_book 67 = .ok (.iconst 4, 1) := by decide +kernel
theorem dX12_book_68 : decode cX12_book 68 = .ok (.if_icmp .ge 68, 3) := by decide +kernel
theorem dX12_book_71 : decode cX12_book 71 = .ok (.aload_n 0, 1) := by decide +kernel
theorem dX12_book_72 : decode cX12_book 72 = .ok (.getfield 69, 3) := by decide +kernel
theorem dX12_book_75 : decode cX12_book 75 = .ok (.iload_n 3, 1) := by decide +kernel
theorem dX12_book_76 : decode cX12_book 76 = .ok (.iaload, 1) := by decide +kernel
theorem dX12_book_77 : decode cX12_book 77 = .ok (.iconst 1, 1) := by decide +kernel
theorem dX12_book_78 : decode cX12_book 78 = .ok (.isub, 1) := by decide +kernel
theorem dX12_book_79 : decode cX12_book 79 = .ok (.istore 4, 2) := by decide +kernel
theorem dX12_book_81 : decode cX12_book 81 = .ok (.iload 4, 2) := by decide +kernel
theorem dX12_book_83 : decode cX12_book 83 = .ok (.ifCond .lt 47, 3) := by decide +kernel
theorem dX12_book_86 : decode cX12_book 86 = .ok (.aload_n 0, 1) := by decide +kernel
theorem dX12_book_87 : decode cX12_book 87 = .ok (.getfield 75, 3) := by decide +kernel
theorem dX12_book_90 : decode cX12_book 90 = .ok (.bipush 40, 2) := by decide +kernel
theorem dX12_book_92 : decode cX12_book 92 = .ok (.iload_n 3, 1) := by decide +kernel
theorem dX12_book_93 : decode cX12_book 93 = .ok (.imul, 1) := by decide +kernel
theorem dX12_book_94 : decode cX12_book 94 = .ok (.iload 4, 2) := by decide +kernel
theorem dX12_book_96 : decode cX12_book 96 = .ok (.iadd, 1) := by decide +kernel
theorem dX12_book_97 : decode cX12_book 97 = .ok (.iaload, 1) := by decide +kernel
theorem dX12_book_98 : decode cX12_book 98 = .ok (.iload_n 1, 1) := by decide +kernel
theorem dX12_book_99 : decode cX12_book 99 = .ok (.if_icmp .eq 18, 3) := by decide +kernel
theorem dX12_book_102 : decode cX12_book 102 = .ok (.aload_n 0, 1) := by decide +kernel
theorem dX12_book_103 : decode cX12_book 103 = .ok (.getfield 75, 3) := by decide +kernel
theorem dX12_book_106 : decode cX12_book 106 = .ok (.bipush 40, 2) := by decide +kernel
theorem dX12_book_108 : decode cX12_book 108 = .ok (.iload_n 3, 1) := by decide +kernel
theorem dX12_book_109 : decode cX12_book 109 = .ok (.imul, 1) := by decide +kernel
theorem dX12_book_110 : decode cX12_book 110 = .ok (.iload 4, 2) := by decide +kernel
theorem dX12_book_112 : decode cX12_book 112 = .ok (.iadd, 1) := by decide +kernel
theorem dX12_book_113 : decode cX12_book 113 = .ok (.iaload, 1) := by decide +kernel
theorem dX12_book_114 : decode cX12_book 114 = .ok (.ifCond .ge 10, 3) := by decide +kernel
theorem dX12_book_117 : decode cX12_book 117 = .ok (.aload_n 0, 1) := by decide +kernel
theorem dX12_book_118 : decode cX12_book 118 = .ok (.iload_n 3, 1) := by decide +kernel
theorem dX12_book_119 : decode cX12_book 119 = .ok (.iload 4, 2) := by decide +kernel
theorem dX12_book_121 : decode cX12_book 121 = .ok (.invokevirtual 185, 3) := by decide +kernel
theorem dX12_book_124 : decode cX12_book 124 = .ok (.iinc 4 (-1), 3) := by decide +kernel
theorem dX12_book_127 : decode cX12_book 127 = .ok (.goto (-46), 3) := by decide +kernel
theorem dX12_book_130 : decode cX12_book 130 = .ok (.iinc 3 1, 3) := by decide +kernel
theorem dX12_book_133 : decode cX12_book 133 = .ok (.goto (-67), 3) := by decide +kernel
theorem dX12_book_136 : decode cX12_book 136 = .ok (.aload_n 0, 1) := by decide +kernel
theorem dX12_book_137 : decode cX12_book 137 = .ok (.invokevirtual 189, 3) := by decide +kernel
theorem dX12_forgetsMarks_0 : decode cX12_forgetsMarks 0 = .ok (.iconst 0, 1) := by decide +kernel
theorem dX12_forgetsMarks_1 : decode cX12_forgetsMarks 1 = .ok (.istore_n 1, 1) := by decide +kernel
theorem dX12_forgetsMarks_2 : decode cX12_forgetsMarks 2 = .ok (.iload_n 1, 1) := by decide +kernel
theorem dX12_forgetsMarks_3 : decode cX12_forgetsMarks 3 = .ok (.iconst 4, 1) := by decide +kernel
theorem dX12_forgetsMarks_4 : decode cX12_forgetsMarks 4 = .ok (.if_icmp .ge 16, 3) := by decide +kernel
theorem dX12_forgetsMarks_7 : decode cX12_forgetsMarks 7 = .ok (.aload_n 0, 1) := by decide +kernel
theorem dX12_forgetsMarks_8 : decode cX12_forgetsMarks 8 = .ok (.getfield 87, 3) := by decide +kernel
theorem dX12_forgetsMarks_11 : decode cX12_forgetsMarks 11 = .ok (.iload_n 1, 1) := by decide +kernel
theorem dX12_forgetsMarks_12 : decode cX12_forgetsMarks 12 = .ok (.iconst 0, 1) := by decide +kernel
theorem dX12_forgetsMarks_13 : decode cX12_forgetsMarks 13 = .ok (.bastore, 1) := by decide +kernel
theorem dX12_forgetsMarks_14 : decode cX12_forgetsMarks 14 = .ok (.iinc 1 1, 3) := by decide +kernel
theorem dX12_forgetsMarks_17 : decode cX12_forgetsMarks 17 = .ok (.goto (-15), 3) := by decide +kernel
theorem dX12_forgetsMarks_20 : decode cX12_forgetsMarks 20 = .ok (.return_, 1) := by decide +kernel
set_option maxHeartbeats 4000000 in
set_option maxRecDepth 100000 in
theorem s_X12_forgetsMarks {P : PP} {a0 : Nat} (I : IM P a0) : CtrV yX12_forgetsMarks cX12_forgetsMarks 2 none ({ frames := 1, cells := 0, slots := 0, locals := 64 } : Room) 0 0 P [.ref a0] (fun P2 => IM P2 a0 ∧ EM [26] a0 P P2) := by
  refine enV (lv := [(0, .ref a0)]) (by decide) (Nat.le_of_ble_eq_true rfl) rfl (fun E D cy C Ci0 ret => ?_)
  have ha0 := I.2.1
  have J2 : ∀ (n2 : Nat) (P2 : PP) (v2_1 : Int32), (4 - v2_1.toInt).toNat < n2 → (IM P2 a0) → (EM [26] a0 P P2) → (0 ≤ v2_1.toInt ∧ v2_1.toInt ≤ 4) → G E ({ frames := 1, cells := 0, slots := 0, locals := 64 } : Room) D cy 2 P2 0 0 2 [(0, .ref a0), (1, .int v2_1)] [] := by
    intro n2
    induction n2 with
    | zero => intro P2 v2_1 hm2 I2 X2 hv2_1; omega
    | succ n2 ih2 =>
      intro P2 v2_1 hm2 I2 X2 hv2_1
      have h5592 := X2.at ha0
      refine g_iload_n C dX12_forgetsMarks_2 rfl 1 rfl ?_
      refine g_iconst (v := 4) C dX12_forgetsMarks_3 (by decide) ?_
      refine b_icmp_ge C 20 dX12_forgetsMarks_4 (by decide) (fun h5593 => ?_) (fun h5593 => ?_)
      · have h5593 : 4 ≤ v2_1.toInt := h5593
        exact ret _ _ _ _ _ dX12_forgetsMarks_20 (by decide) (by decide) ⟨I2, X2⟩
      · have h5593 : v2_1.toInt < 4 := h5593
        refine g_aload_n C dX12_forgetsMarks_7 rfl 0 rfl ?_
        obtain ⟨b5594, e5595, h5596⟩ := I2.fld (h5592) 26 15 4 rfl
        refine g_getR C fi_X12_87 rfl e5595 (h5592).1 (h5592).2 dX12_forgetsMarks_8 ?_
        refine g_iload_n C dX12_forgetsMarks_11 rfl 1 rfl ?_
        refine g_iconst (v := 0) C dX12_forgetsMarks_12 (by decide) ?_
        refine g_zast (j := (v2_1.toInt.toNat)) C h5596.1 h5596.2.1 (ix_in h5596.2.2 (by omega)) (Or.inl rfl) dX12_forgetsMarks_13 ?_
        refine gqW (ks := [26]) (I2.setA e5595 h5596 (by decide) (arOk.none rfl)) (EM.setA I2 e5595 rfl (by decide)) (fun Y5597 Iy5598 Xy5599 w5600 => ?_)
        have w5600 : (pI Y5597 b5594 (v2_1.toInt.toNat)).toInt = 0 := w5600
        have Xz5601 : EM [26] a0 P Y5597 := EM.tr ha0 X2 (Xy5599.mono (by decide))
        have e5602 := Xy5599.ref h5592 (by decide) e5595
        have h5603 := Xy5599.at h5592
        have h5604 := Xy5599.ar h5596
        refine s_iinc (lv0 := [(0, .ref a0)]) (m := 1) C dX12_forgetsMarks_14 1 rfl (by decide) rfl (by decide) (by omega) (fun z5605 h5606 => ?_)
        have h5606 : z5605.toInt = v2_1.toInt + 1 := h5606
        refine g_goto C 2 dX12_forgetsMarks_17 (by decide) ?_
        refine g_lv (lv' := [(0, .ref a0), (1, .int z5605)]) [1, 0] rfl ?_
        exact ih2 Y5597 z5605 (by omega) Iy5598 Xz5601 (by omega)
  refine g_iconst (v := 0) C dX12_forgetsMarks_0 (by decide) ?_
  refine g_istore_n (lv' := [(1, .int 0), (0, .ref a0)]) C dX12_forgetsMarks_1 rfl (by decide) rfl ?_
  refine g_lv (lv' := [(0, .ref a0), (1, .int 0)]) [1, 0] rfl ?_
  exact J2 _ P 0 (Nat.lt_succ_self _) I EM.rf (by decide)
theorem dX12_book_140 : decode cX12_book 140 = .ok (.iconst 1, 1) := by decide +kernel
theorem dX12_book_141 : decode cX12_book 141 = .ok (.ireturn, 1) := by decide +kernel
set_option maxHeartbeats 4000000 in
set_option maxRecDepth 100000 in
theorem s_X12_book {P : PP} {a0 : Nat} {a1 : Int32} {a2 : Int32} (I : IM P a0) : CtrI yX12_book cX12_book 5 (some Jvm.ClassFile.FieldType.boolean) ({ frames := 3, cells := 0, slots := 0, locals := 192 } : Room) 0 0 P [.ref a0, .int a1, .int a2] (fun r P2 => IM P2 a0 ∧ EM [0, 10, 11, 12, 13, 14, 15, 17, 20, 21, 22, 23, 24, 25, 26] a0 P P2 ∧ (0 ≤ r.toInt ∧ r.toInt ≤ 1) ∧ (r.toInt = 0 ∨ (((0 : Int) ≤ a1.toInt ∧ a1.toInt ≤ (1 : Int))))) := by
  refine enI (lv := [(0, .ref a0), (1, .int a1), (2, .int a2)]) (by decide) (Nat.le_of_ble_eq_true rfl) rfl (fun E D cy C Ci0 ret => ?_)
  have ha0 := I.2.1
  have J66 : ∀ (n66 : Nat) (P66 : PP) (v66_3 : Int32), (4 - v66_3.toInt).toNat < n66 → (IM P66 a0) → (EM [0, 10, 11, 12, 13, 14, 15, 17, 20, 21, 22, 23, 24, 25, 26] a0 P P66) → (0 ≤ a1.toInt ∧ a1.toInt ≤ 1) → (0 ≤ v66_3.toInt ∧ v66_3.toInt ≤ 4) → (0 ≤ (pI P66 a0 0).toInt ∧ (pI P66 a0 0).toInt ≤ 0) → (∀ b, pR P66 a0 10 = some b → 1 ≤ (pI P66 b (a1.toInt.toNat)).toInt ∧ (pI P66 b (a1.toInt.toNat)).toInt ≤ 16) → G E ({ frames := 3, cells := 0, slots := 0, locals := 192 } : Room) D cy 5 P66 0 0 66 [(0, .ref a0), (1, .int a1), (3, .int v66_3)] [] := by
    intro n66
    induction n66 with
    | zero => intro P66 v66_3 hm66 I66 X66 hv66_1 hv66_3 hq66_0 hq66_1; omega
    | succ n66 ih66 =>
      intro P66 v66_3 hm66 I66 X66 hv66_1 hv66_3 hq66_0 hq66_1
      have h6231 := X66.at ha0
      obtain ⟨b6232, e6233, h6234⟩ := I66.fld (h6231) 10 13 2 rfl
      have hq66_1 := hq66_1 b6232 e6233
      have J81 : ∀ (n81 : Nat) (P81 : PP) (v81_4 : Int32), (v81_4.toInt - (-1)).toNat < n81 → (IM P81 a0) → (EM [0, 10, 11, 12, 13, 14, 15, 17, 20, 21, 22, 23, 24, 25, 26] a0 P P81) → (0 ≤ a1.toInt ∧ a1.toInt ≤ 1) → (0 ≤ v66_3.toInt ∧ v66_3.toInt ≤ 3) → (-1 ≤ v81_4.toInt ∧ v81_4.toInt ≤ 39) → (0 ≤ (pI P81 a0 0).toInt ∧ (pI P81 a0 0).toInt ≤ 0) → (∀ b, pR P81 a0 10 = some b → 1 ≤ (pI P81 b (a1.toInt.toNat)).toInt ∧ (pI P81 b (a1.toInt.toNat)).toInt ≤ 16) → (∀ b920, pR P81 a0 20 = some b920 → v81_4.toInt < (pI P81 b920 (v66_3.toInt.toNat)).toInt) → G E ({ frames := 3, cells := 0, slots := 0, locals := 192 } : Room) D cy 5 P81 0 0 81 [(0, .ref a0), (1, .int a1), (3, .int v66_3), (4, .int v81_4)] [] := by
        intro n81
        induction n81 with
        | zero => intro P81 v81_4 hm81 I81 X81 hv81_1 hv81_3 hv81_4 hq81_0 hq81_1 rel81_0; omega
        | succ n81 ih81 =>
          intro P81 v81_4 hm81 I81 X81 hv81_1 hv81_3 hv81_4 hq81_0 hq81_1 rel81_0
          have h6235 := X81.at ha0
          obtain ⟨b6236, e6237, h6238⟩ := I81.fld (h6235) 10 13 2 rfl
          have hq81_1 := hq81_1 b6236 e6237
          obtain ⟨b6239, e6240, h6241⟩ := I81.fld (h6235) 20 13 20 rfl
          have rel81_0 := rel81_0 b6239 e6240
          have h6242 := I81.arr e6240 rfl (v66_3.toInt.toNat)
          have J124 : ∀ (P124 : PP), (IM P124 a0) → (EM [0, 10, 11, 12, 13, 14, 15, 17, 20, 21, 22, 23, 24, 25, 26] a0 P P124) → (0 ≤ a1.toInt ∧ a1.toInt ≤ 1) → (0 ≤ v66_3.toInt ∧ v66_3.toInt ≤ 3) → (0 ≤ v81_4.toInt ∧ v81_4.toInt ≤ 39) → (0 ≤ (pI P124 a0 0).toInt ∧ (pI P124 a0 0).toInt ≤ 0) → (∀ b, pR P124 a0 10 = some b → 1 ≤ (pI P124 b (a1.toInt.toNat)).toInt ∧ (pI P124 b (a1.toInt.toNat)).toInt ≤ 16) → (∀ b920, pR P124 a0 20 = some b920 → v81_4.toInt ≤ (pI P124 b920 (v66_3.toInt.toNat)).toInt) → G E ({ frames := 3, cells := 0, slots := 0, locals := 192 } : Room) D cy 5 P124 0 0 124 [(0, .ref a0), (1, .int a1), (3, .int v66_3), (4, .int v81_4)] [] := by
            intro P124 I124 X124 hv124_1 hv124_3 hv124_4 hq124_0 hq124_1 rel124_0
            have h6243 := X124.at ha0
            obtain ⟨b6244, e6245, h6246⟩ := I124.fld (h6243) 10 13 2 rfl
            have hq124_1 := hq124_1 b6244 e6245
            obtain ⟨b6247, e6248, h6249⟩ := I124.fld (h6243) 20 13 20 rfl
            have rel124_0 := rel124_0 b6247 e6248
            have h6250 := I124.arr e6248 rfl (v66_3.toInt.toNat)
            refine s_iinc (lv0 := [(0, .ref a0), (1, .int a1), (3, .int v66_3)]) (m := -1) C dX12_book_124 3 rfl (by decide) rfl (by decide) (by omega) (fun z6251 h6252 => ?_)
            have h6252 : z6251.toInt = v81_4.toInt + (-1) := h6252
            refine g_goto C 81 dX12_book_127 (by decide) ?_
            refine g_lv (lv' := [(0, .ref a0), (1, .int a1), (3, .int v66_3), (4, .int z6251)]) [1, 2, 3, 0] rfl ?_
            exact ih81 P124 z6251 (by omega) I124 X124 (by omega) (by omega) (by omega) (by omega) (fun b9 e9 => by rw [e6245] at e9; cases e9; omega) (by intro b920 e920; rw [e6248] at e920; cases e920; show z6251.toInt < (pI P124 b6247 (v66_3.toInt.toNat)).toInt; omega)
          have J117 : (0 ≤ a1.toInt ∧ a1.toInt ≤ 1) → (0 ≤ v66_3.toInt ∧ v66_3.toInt ≤ 3) → (0 ≤ v81_4.toInt ∧ v81_4.toInt ≤ 39) → (0 ≤ (pI P81 a0 0).toInt ∧ (pI P81 a0 0).toInt ≤ 0) → (∀ b, pR P81 a0 10 = some b → 1 ≤ (pI P81 b (a1.toInt.toNat)).toInt ∧ (pI P81 b (a1.toInt.toNat)).toInt ≤ 16) → (∀ b920, pR P81 a0 20 = some b920 → v81_4.toInt < (pI P81 b920 (v66_3.toInt.toNat)).toInt) → G E ({ frames := 3, cells := 0, slots := 0, locals := 192 } : Room) D cy 5 P81 0 0 117 [(0, .ref a0), (1, .int a1), (3, .int v66_3), (4, .int v81_4)] [] := by
            intro hv117_1 hv117_3 hv117_4 hq117_0 hq117_1 rel117_0
            have h6253 := X81.at ha0
            obtain ⟨b6254, e6255, h6256⟩ := I81.fld (h6253) 10 13 2 rfl
            have hq117_1 := hq117_1 b6254 e6255
            obtain ⟨b6257, e6258, h6259⟩ := I81.fld (h6253) 20 13 20 rfl
            have rel117_0 := rel117_0 b6257 e6258
            have h6260 := I81.arr e6258 rfl (v66_3.toInt.toNat)
            refine g_aload_n C dX12_book_117 rfl 0 rfl ?_
            refine g_iload_n C dX12_book_118 rfl 2 rfl ?_
            refine g_iload C dX12_book_119 3 rfl ?_
            refine g_callVV (rest := []) C mv_X12_185 [.int v66_3, .int v81_4] (s_X12_takesOut I81 (by omega) (by omega) (fun b9 e9 => by rw [e6258] at e9; cases e9; show 1 ≤ (pI P81 b6257 (v66_3.toInt.toNat)).toInt ∧ (pI P81 b6257 (v66_3.toInt.toNat)).toInt ≤ 40; omega)) (h6253).1 (h6253).2 rfl rfl (by decide) (Nat.le_of_ble_eq_true rfl) (by decide) dX12_book_121 (fun Y6262 h6263 => ?_)
            obtain ⟨Iy6264, Xy6265, p6266⟩ := h6263
            have p6266 := p6266 b6257 e6258
            have p6266 : (pI Y6262 b6257 (v66_3.toInt.toNat)).toInt = (pI P81 b6257 (v66_3.toInt.toNat)).toInt - 1 := p6266
            have q6267 := Xy6265.keepF 0 (by decide)
            have q6268 := Xy6265.keepA e6255 (by decide) rfl (a1.toInt.toNat)
            have Xz6269 : EM [0, 10, 11, 12, 13, 14, 15, 17, 20, 21, 22, 23, 24, 25, 26] a0 P Y6262 := EM.tr ha0 X81 (Xy6265.mono (by decide))
            have e6270 := Xy6265.ref h6253 (by decide) e6255
            have e6271 := Xy6265.ref h6253 (by decide) e6258
            have h6272 := Xy6265.at h6253
            have h6273 := Xy6265.ar h6256
            have h6274 := Xy6265.ar h6259
            exact J124 Y6262 Iy6264 Xz6269 (by omega) (by omega) (by omega) (by omega) (fun b9 e9 => by rw [e6270] at e9; cases e9; omega) (by intro b920 e920; rw [e6271] at e920; cases e920; show v81_4.toInt ≤ (pI Y6262 b6257 (v66_3.toInt.toNat)).toInt; omega)
          refine g_iload C dX12_book_81 3 rfl ?_
          refine b_if_lt C 130 dX12_book_83 (by decide) (fun h6275 => ?_) (fun h6275 => ?_)
          · have h6275 : v81_4.toInt < 0 := h6275
            refine s_iinc (lv0 := [(0, .ref a0), (1, .int a1), (4, .int v81_4)]) (m := 1) C dX12_book_130 2 rfl (by decide) rfl (by decide) (by omega) (fun z6276 h6277 => ?_)
            have h6277 : z6276.toInt = v66_3.toInt + 1 := h6277
            refine g_goto C 66 dX12_book_133 (by decide) ?_
            refine g_lv (lv' := [(0, .ref a0), (1, .int a1), (3, .int z6276)]) [1, 2, 0] rfl ?_
            exact ih66 P81 z6276 (by omega) I81 X81 (by omega) (by omega) (by omega) (fun b9 e9 => by rw [e6237] at e9; cases e9; omega)
          · have h6275 : 0 ≤ v81_4.toInt := h6275
            refine g_aload_n C dX12_book_86 rfl 0 rfl ?_
            obtain ⟨b6278, e6279, h6280⟩ := I81.fld (h6235) 22 13 800 rfl
            refine g_getR C fi_X12_75 rfl e6279 (h6235).1 (h6235).2 dX12_book_87 ?_
            refine g_bipush (v := 40) C dX12_book_90 (by decide) ?_
            refine g_iload_n C dX12_book_92 rfl 2 rfl ?_
            refine s_imul C dX12_book_93 (by show -2147483648 ≤ 40 * v66_3.toInt ∧ 40 * v66_3.toInt ≤ 2147483647; omega) (fun z6281 h6282 => ?_)
            have h6282 : z6281.toInt = 40 * v66_3.toInt := h6282
            refine g_iload C dX12_book_94 3 rfl ?_
            refine s_iadd C dX12_book_96 (by show -2147483648 ≤ z6281.toInt + v81_4.toInt ∧ z6281.toInt + v81_4.toInt ≤ 2147483647; omega) (fun z6283 h6284 => ?_)
            have h6284 : z6283.toInt = z6281.toInt + v81_4.toInt := h6284
            refine g_iald (j := (z6283.toInt.toNat)) C h6280.1 h6280.2.1 (ix_in h6280.2.2 (by omega)) dX12_book_97 ?_
            have h6285 := I81.arr e6279 rfl (z6283.toInt.toNat)
            refine g_iload_n C dX12_book_98 rfl 1 rfl ?_
            refine b_icmp_eq C 117 dX12_book_99 (by decide) (fun h6286 => ?_) (fun h6286 => ?_)
            · have h6286 : (pI P81 b6278 (z6283.toInt.toNat)).toInt = a1.toInt := congrArg Int32.toInt h6286
              exact J117 (by omega) (by omega) (by omega) (by omega) (fun b9 e9 => by rw [e6237] at e9; cases e9; omega) (by intro b920 e920; rw [e6240] at e920; cases e920; show v81_4.toInt < (pI P81 b6239 (v66_3.toInt.toNat)).toInt; omega)
            · have h6286 : (pI P81 b6278 (z6283.toInt.toNat)).toInt ≠ a1.toInt := ti_ne h6286
              refine g_aload_n C dX12_book_102 rfl 0 rfl ?_
              refine g_getR C fi_X12_75 rfl e6279 (h6235).1 (h6235).2 dX12_book_103 ?_
              refine g_bipush (v := 40) C dX12_book_106 (by decide) ?_
              refine g_iload_n C dX12_book_108 rfl 2 rfl ?_
              refine s_imul C dX12_book_109 (by show -2147483648 ≤ 40 * v66_3.toInt ∧ 40 * v66_3.toInt ≤ 2147483647; omega) (fun z6287 h6288 => ?_)
              have h6288 : z6287.toInt = 40 * v66_3.toInt := h6288
              refine g_iload C dX12_book_110 3 rfl ?_
              refine s_iadd C dX12_book_112 (by show -2147483648 ≤ z6287.toInt + v81_4.toInt ∧ z6287.toInt + v81_4.toInt ≤ 2147483647; omega) (fun z6289 h6290 => ?_)
              have h6290 : z6289.toInt = z6287.toInt + v81_4.toInt := h6290
              refine g_iald (j := (z6289.toInt.toNat)) C h6280.1 h6280.2.1 (ix_in h6280.2.2 (by omega)) dX12_book_113 ?_
              have h6291 := I81.arr e6279 rfl (z6289.toInt.toNat)
              refine b_if_ge C 124 dX12_book_114 (by decide) (fun h6292 => ?_) (fun h6292 => ?_)
              · have h6292 : 0 ≤ (pI P81 b6278 (z6289.toInt.toNat)).toInt := h6292
                exact J124 P81 I81 X81 (by omega) (by omega) (by omega) (by omega) (fun b9 e9 => by rw [e6237] at e9; cases e9; omega) (by intro b920 e920; rw [e6240] at e920; cases e920; show v81_4.toInt ≤ (pI P81 b6239 (v66_3.toInt.toNat)).toInt; omega)
              · have h6292 : (pI P81 b6278 (z6289.toInt.toNat)).toInt < 0 := h6292
                exact J117 (by omega) (by omega) (by omega) (by omega) (fun b9 e9 => by rw [e6237] at e9; cases e9; omega) (by intro b920 e920; rw [e6240] at e920; cases e920; show v81_4.toInt < (pI P81 b6239 (v66_3.toInt.toNat)).toInt; omega)
      refine g_iload_n C dX12_book_66 rfl 2 rfl ?_
      refine g_iconst (v := 4) C dX12_book_67 (by decide) ?_
      refine b_icmp_ge C 136 dX12_book_68 (by decide) (fun h6293 => ?_) (fun h6293 => ?_)
      · have h6293 : 4 ≤ v66_3.toInt := h6293
        refine g_aload_n C dX12_book_136 rfl 0 rfl ?_
        refine g_callVV (rest := []) C mv_X12_189 [] (s_X12_forgetsMarks I66) (h6231).1 (h6231).2 rfl rfl (by decide) (Nat.le_of_ble_eq_true rfl) (by decide) dX12_book_137 (fun Y6295 h6296 => ?_)
        obtain ⟨Iy6297, Xy6298⟩ := h6296
        have q6299 := Xy6298.keepF 0 (by decide)
        have q6300 := Xy6298.keepA e6233 (by decide) rfl (a1.toInt.toNat)
        have Xz6301 : EM [0, 10, 11, 12, 13, 14, 15, 17, 20, 21, 22, 23, 24, 25, 26] a0 P Y6295 := EM.tr ha0 X66 (Xy6298.mono (by decide))
        have e6302 := Xy6298.ref h6231 (by decide) e6233
        have h6303 := Xy6298.at h6231
        have h6304 := Xy6298.ar h6234
        refine g_iconst (v := 1) C dX12_book_140 (by decide) ?_
        exact ret _ _ _ _ _ _ dX12_book_141 rfl (by decide) (by decide) ⟨Iy6297, Xz6301, (by decide), Or.inr (by omega)⟩
      · have h6293 : v66_3.toInt < 4 := h6293
        refine g_aload_n C dX12_book_71 rfl 0 rfl ?_
        obtain ⟨b6305, e6306, h6307⟩ := I66.fld (h6231) 20 13 20 rfl
        refine g_getR C fi_X12_69 rfl e6306 (h6231).1 (h6231).2 dX12_book_72 ?_
        refine g_iload_n C dX12_book_75 rfl 2 rfl ?_
        refine g_iald (j := (v66_3.toInt.toNat)) C h6307.1 h6307.2.1 (ix_in h6307.2.2 (by omega)) dX12_book_76 ?_
        have h6308 := I66.arr e6306 rfl (v66_3.toInt.toNat)
        refine g_iconst (v := 1) C dX12_book_77 (by decide) ?_
        refine s_isub C dX12_book_78 (by show -2147483648 ≤ (pI P66 b6305 (v66_3.toInt.toNat)).toInt - 1 ∧ (pI P66 b6305 (v66_3.toInt.toNat)).toInt - 1 ≤ 2147483647; omega) (fun z6309 h6310 => ?_)
        have h6310 : z6309.toInt = (pI P66 b6305 (v66_3.toInt.toNat)).toInt - 1 := h6310
        refine g_istore (lv' := [(4, .int z6309), (0, .ref a0), (1, .int a1), (3, .int v66_3)]) C dX12_book_79 (by decide) rfl ?_
        refine g_lv (lv' := [(0, .ref a0), (1, .int a1), (3, .int v66_3), (4, .int z6309)]) [1, 2, 3, 0] rfl ?_
        exact J81 _ P66 z6309 (Nat.lt_succ_self _) I66 X66 (by omega) (by omega) (by omega) (by omega) (fun b9 e9 => by rw [e6233] at e9; cases e9; omega) (by intro b920 e920; rw [e6306] at e920; cases e920; show z6309.toInt < (pI P66 b6305 (v66_3.toInt.toNat)).toInt; omega)
  have J35 : ∀ (n35 : Nat) (P35 : PP) (v35_3 : Int32), (16 - v35_3.toInt).toNat < n35 → (IM P35 a0) → (EM [0, 10, 11, 12, 13, 14, 15, 17, 20, 21, 22, 23, 24, 25, 26] a0 P P35) → (0 ≤ a1.toInt ∧ a1.toInt ≤ 1) → (0 ≤ v35_3.toInt ∧ v35_3.toInt ≤ 16) → (0 ≤ (pI P35 a0 0).toInt ∧ (pI P35 a0 0).toInt ≤ 0) → (∀ b, pR P35 a0 10 = some b → 1 ≤ (pI P35 b (a1.toInt.toNat)).toInt ∧ (pI P35 b (a1.toInt.toNat)).toInt ≤ 16) → G E ({ frames := 3, cells := 0, slots := 0, locals := 192 } : Room) D cy 5 P35 0 0 35 [(0, .ref a0), (1, .int a1), (3, .int v35_3)] [] := by
    intro n35
    induction n35 with
    | zero => intro P35 v35_3 hm35 I35 X35 hv35_1 hv35_3 hq35_0 hq35_1; omega
    | succ n35 ih35 =>
      intro P35 v35_3 hm35 I35 X35 hv35_1 hv35_3 hq35_0 hq35_1
      have h6311 := X35.at ha0
      obtain ⟨b6312, e6313, h6314⟩ := I35.fld (h6311) 10 13 2 rfl
      have hq35_1 := hq35_1 b6312 e6313
      refine g_iload_n C dX12_book_35 rfl 2 rfl ?_
      refine g_bipush (v := 16) C dX12_book_36 (by decide) ?_
      refine b_icmp_ge C 59 dX12_book_38 (by decide) (fun h6315 => ?_) (fun h6315 => ?_)
      · have h6315 : 16 ≤ v35_3.toInt := h6315
        refine g_aload_n C dX12_book_59 rfl 0 rfl ?_
        refine g_iload_n C dX12_book_60 rfl 1 rfl ?_
        refine g_callVV (rest := []) C mv_X12_182 [.int a1] (s_X12_forgetsDraw I35 (by omega)) (h6311).1 (h6311).2 rfl rfl (by decide) (Nat.le_of_ble_eq_true rfl) (by decide) dX12_book_61 (fun Y6317 h6318 => ?_)
        obtain ⟨Iy6319, Xy6320⟩ := h6318
        have q6321 := Xy6320.keepF 0 (by decide)
        have q6322 := Xy6320.keepA e6313 (by decide) rfl (a1.toInt.toNat)
        have Xz6323 : EM [0, 10, 11, 12, 13, 14, 15, 17, 20, 21, 22, 23, 24, 25, 26] a0 P Y6317 := EM.tr ha0 X35 (Xy6320.mono (by decide))
        have e6324 := Xy6320.ref h6311 (by decide) e6313
        have h6325 := Xy6320.at h6311
        have h6326 := Xy6320.ar h6314
        refine g_iconst (v := 0) C dX12_book_64 (by decide) ?_
        refine g_istore_n (lv' := [(3, .int 0), (0, .ref a0), (1, .int a1)]) C dX12_book_65 rfl (by decide) rfl ?_
        refine g_lv (lv' := [(0, .ref a0), (1, .int a1), (3, .int 0)]) [1, 2, 0] rfl ?_
        exact J66 _ Y6317 0 (Nat.lt_succ_self _) Iy6319 Xz6323 (by omega) (by decide) (by omega) (fun b9 e9 => by rw [e6324] at e9; cases e9; omega)
      · have h6315 : v35_3.toInt < 16 := h6315
        refine g_aload_n C dX12_book_41 rfl 0 rfl ?_
        obtain ⟨b6327, e6328, h6329⟩ := I35.fld (h6311) 11 13 32 rfl
        refine g_getR C fi_X12_48 rfl e6328 (h6311).1 (h6311).2 dX12_book_42 ?_
        refine g_bipush (v := 16) C dX12_book_45 (by decide) ?_
        refine g_iload_n C dX12_book_47 rfl 1 rfl ?_
        refine s_imul C dX12_book_48 (by show -2147483648 ≤ 16 * a1.toInt ∧ 16 * a1.toInt ≤ 2147483647; omega) (fun z6330 h6331 => ?_)
        have h6331 : z6330.toInt = 16 * a1.toInt := h6331
        refine g_iload_n C dX12_book_49 rfl 2 rfl ?_
        refine s_iadd C dX12_book_50 (by show -2147483648 ≤ z6330.toInt + v35_3.toInt ∧ z6330.toInt + v35_3.toInt ≤ 2147483647; omega) (fun z6332 h6333 => ?_)
        have h6333 : z6332.toInt = z6330.toInt + v35_3.toInt := h6333
        refine g_iconst (v := 0) C dX12_book_51 (by decide) ?_
        refine g_iast (j := (z6332.toInt.toNat)) C h6329.1 h6329.2.1 (ix_in h6329.2.2 (by omega)) dX12_book_52 ?_
        refine gqW (ks := [11]) (I35.setA e6328 h6329 (by decide) (arOk.none rfl)) (EM.setA I35 e6328 rfl (by decide)) (fun Y6334 Iy6335 Xy6336 w6337 => ?_)
        have w6337 : (pI Y6334 b6327 (z6332.toInt.toNat)).toInt = 0 := w6337
        have q6338 := Xy6336.keepF 0 (by decide)
        have q6339 := Xy6336.keepA e6313 (by decide) rfl (a1.toInt.toNat)
        have Xz6340 : EM [0, 10, 11, 12, 13, 14, 15, 17, 20, 21, 22, 23, 24, 25, 26] a0 P Y6334 := EM.tr ha0 X35 (Xy6336.mono (by decide))
        have e6341 := Xy6336.ref h6311 (by decide) e6313
        have e6342 := Xy6336.ref h6311 (by decide) e6328
        have h6343 := Xy6336.at h6311
        have h6344 := Xy6336.ar h6314
        have h6345 := Xy6336.ar h6329
        refine s_iinc (lv0 := [(0, .ref a0), (1, .int a1)]) (m := 1) C dX12_book_53 2 rfl (by decide) rfl (by decide) (by omega) (fun z6346 h6347 => ?_)
        have h6347 : z6346.toInt = v35_3.toInt + 1 := h6347
        refine g_goto C 35 dX12_book_56 (by decide) ?_
        refine g_lv (lv' := [(0, .ref a0), (1, .int a1), (3, .int z6346)]) [1, 2, 0] rfl ?_
        exact ih35 Y6334 z6346 (by omega) Iy6335 Xz6340 (by omega) (by omega) (by omega) (fun b9 e9 => by rw [e6341] at e9; cases e9; omega)
  have J24 : ∀ (P24 : PP), (IM P24 a0) → (EM [0, 10, 11, 12, 13, 14, 15, 17, 20, 21, 22, 23, 24, 25, 26] a0 P P24) → (0 ≤ (pI P24 a0 0).toInt ∧ (pI P24 a0 0).toInt ≤ 0) → G E ({ frames := 3, cells := 0, slots := 0, locals := 192 } : Room) D cy 5 P24 0 0 24 [] [] := by
    intro P24 I24 X24 hq24_0
    have h6348 := X24.at ha0
    refine g_iconst (v := 0) C dX12_book_24 (by decide) ?_
    exact ret _ _ _ _ _ _ dX12_book_25 rfl (by decide) (by decide) ⟨I24, X24, (by decide), Or.inl rfl⟩
  refine g_aload_n C dX12_book_0 rfl 0 rfl ?_
  refine g_iconst (v := 0) C dX12_book_1 (by decide) ?_
  refine g_putI C fi_X12_1 rfl (ha0).1 (ha0).2 dX12_book_2 ?_
  refine gqW (ks := [0]) (I.setI (rgOk.of rfl (by decide))) (EM.setI I (by decide)) (fun Y6349 Iy6350 Xy6351 w6352 => ?_)
  have w6352 : (pI Y6349 a0 0).toInt = 0 := w6352
  have Xz6353 : EM [0, 10, 11, 12, 13, 14, 15, 17, 20, 21, 22, 23, 24, 25, 26] a0 P Y6349 := Xy6351.mono (by decide)
  have h6354 := Xy6351.at ha0
  refine g_iload_n C dX12_book_5 rfl 1 rfl ?_
  refine g_iconst (v := 0) C dX12_book_6 (by decide) ?_
  refine g_iconst (v := 1) C dX12_book_7 (by decide) ?_
  refine g_callSI (b := 0) (ci := 0) (rest := []) C ms_X12_178 [.int a1, .int 0, .int 1] (s_X12_within Iy6350.1) rfl rfl (by decide) (Nat.le_of_ble_eq_true rfl) (by decide) dX12_book_8 (fun r6355 Y6356 h6357 => ?_)
  obtain ⟨rfl, h6357⟩ := h6357
  obtain ⟨h6357, hi6358⟩ := h6357
  have hi6358 : r6355.toInt = 0 ∨ (0 ≤ a1.toInt ∧ a1.toInt ≤ 1) := hi6358
  have h6357 : 0 ≤ r6355.toInt ∧ r6355.toInt ≤ 1 := h6357
  refine b_if_eq C 24 dX12_book_11 (by decide) (fun h6359 => ?_) (fun h6359 => ?_)
  · have h6359 : r6355.toInt = 0 := congrArg Int32.toInt h6359
    clear hi6358
    refine g_lv (lv' := []) [] rfl ?_
    exact J24 Y6349 Iy6350 Xz6353 (by omega)
  · have h6359 : r6355.toInt ≠ 0 := ti_ne h6359
    replace hi6358 := hi6358.resolve_left (by omega)
    refine g_iload_n C dX12_book_14 rfl 2 rfl ?_
    refine g_iconst (v := 1) C dX12_book_15 (by decide) ?_
    refine g_bipush (v := 16) C dX12_book_16 (by decide) ?_
    refine g_callSI (b := 0) (ci := 0) (rest := []) C ms_X12_178 [.int a2, .int 1, .int 16] (s_X12_within Iy6350.1) rfl rfl (by decide) (Nat.le_of_ble_eq_true rfl) (by decide) dX12_book_18 (fun r6360 Y6361 h6362 => ?_)
    obtain ⟨rfl, h6362⟩ := h6362
    obtain ⟨h6362, hi6363⟩ := h6362
    have hi6363 : r6360.toInt = 0 ∨ (1 ≤ a2.toInt ∧ a2.toInt ≤ 16) := hi6363
    have h6362 : 0 ≤ r6360.toInt ∧ r6360.toInt ≤ 1 := h6362
    refine b_if_ne C 26 dX12_book_21 (by decide) (fun h6364 => ?_) (fun h6364 => ?_)
    · have h6364 : r6360.toInt ≠ 0 := ti_ne h6364
      replace hi6363 := hi6363.resolve_left (by omega)
      refine g_aload_n C dX12_book_26 rfl 0 rfl ?_
      obtain ⟨b6365, e6366, h6367⟩ := Iy6350.fld (h6354) 10 13 2 rfl
      refine g_getR C fi_X12_45 rfl e6366 (h6354).1 (h6354).2 dX12_book_27 ?_
      refine g_iload_n C dX12_book_30 rfl 1 rfl ?_
      refine g_iload_n C dX12_book_31 rfl 2 rfl ?_
      refine g_iast (j := (a1.toInt.toNat)) C h6367.1 h6367.2.1 (ix_in h6367.2.2 (by omega)) dX12_book_32 ?_
      refine gqW (ks := [10]) (Iy6350.setA e6366 h6367 (by decide) (arOk.of rfl (by omega))) (EM.setA Iy6350 e6366 rfl (by decide)) (fun Y6368 Iy6369 Xy6370 w6371 => ?_)
      have w6371 : (pI Y6368 b6365 (a1.toInt.toNat)).toInt = a2.toInt := w6371
      have q6372 := Xy6370.keepF 0 (by decide)
      have Xz6373 : EM [0, 10, 11, 12, 13, 14, 15, 17, 20, 21, 22, 23, 24, 25, 26] a0 P Y6368 := EM.tr ha0 Xz6353 (Xy6370.mono (by decide))
      have e6374 := Xy6370.ref h6354 (by decide) e6366
      have h6375 := Xy6370.at h6354
      have h6376 := Xy6370.ar h6367
      refine g_iconst (v := 0) C dX12_book_33 (by decide) ?_
      refine g_istore_n (lv' := [(3, .int 0), (0, .ref a0), (1, .int a1), (2, .int a2)]) C dX12_book_34 rfl (by decide) rfl ?_
      refine g_lv (lv' := [(0, .ref a0), (1, .int a1), (3, .int 0)]) [1, 2, 0] rfl ?_
      exact J35 _ Y6368 0 (Nat.lt_succ_self _) Iy6369 Xz6373 (by omega) (by decide) (by omega) (fun b9 e9 => by rw [e6374] at e9; cases e9; omega)
    · have h6364 : r6360.toInt = 0 := congrArg Int32.toInt h6364
      clear hi6363
      refine g_lv (lv' := []) [] rfl ?_
      exact J24 Y6349 Iy6350 Xz6353 (by omega)
theorem dX12_byteOf_0 : decode cX12_byteOf 0 = .ok (.iload_n 0, 1) := by decide +kernel
theorem dX12_byteOf_1 : decode cX12_byteOf 1 = .ok (.bipush 8, 2) := by decide +kernel
theorem dX12_byteOf_3 : decode cX12_byteOf 3 = .ok (.iload_n 1, 1) := by decide +kernel
theorem dX12_byteOf_4 : decode cX12_byteOf 4 = .ok (.imul, 1) := by decide +kernel
theorem dX12_byteOf_5 : decode cX12_byteOf 5 = .ok (.ishr, 1) := by decide +kernel
theorem dX12_byteOf_6 : decode cX12_byteOf 6 = .ok (.sipush 255, 3) := by decide +kernel
theorem dX12_byteOf_9 : decode cX12_byteOf 9 = .ok (.iand, 1) := by decide +kernel
theorem dX12_byteOf_10 : decode cX12_byteOf 10 = .ok (.ireturn, 1) := by decide +kernel
set_option maxHeartbeats 4000000 in
set_option maxRecDepth 100000 in
theorem s_X12_byteOf {P : PP} {a0 : Int32} {a1 : Int32} (I : IV P) : CtrI yX12_byteOf cX12_byteOf 2 (some Jvm.ClassFile.FieldType.int) ({ frames := 1, cells := 0, slots := 0, locals := 64 } : Room) 0 0 P [.int a0, .int a1] (fun r P2 => P = P2 ∧ (0 ≤ r.toInt ∧ r.toInt ≤ 255)) := by
  refine enI (lv := [(0, .int a0), (1, .int a1)]) (by decide) (Nat.le_of_ble_eq_true rfl) rfl (fun E D cy C Ci0 ret => ?_)
  refine g_iload_n C dX12_byteOf_0 rfl 0 rfl ?_
  refine g_bipush (v := 8) C dX12_byteOf_1 (by decide) ?_
  refine g_iload_n C dX12_byteOf_3 rfl 1 rfl ?_
  refine a_imul C dX12_byteOf_4 (fun z6383 => ?_)
  refine a_ishr C dX12_byteOf_5 (fun z6385 => ?_)
  refine g_sipush (v := 255) C dX12_byteOf_6 (by decide) ?_
  refine s_iand C dX12_byteOf_9 (by show 0 ≤ 255; omega) (fun z6387 h6388 => ?_)
  have h6388 : 0 ≤ z6387.toInt ∧ z6387.toInt ≤ 255 := h6388
  exact ret _ _ _ _ _ _ dX12_byteOf_10 rfl (by decide) (by decide) ⟨rfl, (by omega)⟩
