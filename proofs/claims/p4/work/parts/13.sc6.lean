theorem dX11_falls_0 : decode cX11_falls 0 = .ok (.iload_n 2, 1) := by decide +kernel
theorem dX11_falls_1 : decode cX11_falls 1 = .ok (.bipush 37, 2) := by decide +kernel
theorem dX11_falls_3 : decode cX11_falls 3 = .ok (.imul, 1) := by decide +kernel
theorem dX11_falls_4 : decode cX11_falls 4 = .ok (.bipush 11, 2) := by decide +kernel
theorem dX11_falls_6 : decode cX11_falls 6 = .ok (.aload_n 1, 1) := by decide +kernel
theorem dX11_falls_7 : decode cX11_falls 7 = .ok (.getfield 394, 3) := by decide +kernel
theorem dX11_falls_10 : decode cX11_falls 10 = .ok (.imul, 1) := by decide +kernel
theorem dX11_falls_11 : decode cX11_falls 11 = .ok (.iadd, 1) := by decide +kernel
theorem dX11_falls_12 : decode cX11_falls 12 = .ok (.bipush 101, 2) := by decide +kernel
theorem dX11_falls_14 : decode cX11_falls 14 = .ok (.iload_n 3, 1) := by decide +kernel
theorem dX11_falls_15 : decode cX11_falls 15 = .ok (.imul, 1) := by decide +kernel
theorem dX11_falls_16 : decode cX11_falls 16 = .ok (.iadd, 1) := by decide +kernel
theorem dX11_falls_17 : decode cX11_falls 17 = .ok (.bipush 13, 2) := by decide +kernel
theorem dX11_falls_19 : decode cX11_falls 19 = .ok (.iadd, 1) := by decide +kernel
theorem dX11_falls_20 : decode cX11_falls 20 = .ok (.bipush 7, 2) := by decide +kernel
theorem dX11_falls_22 : decode cX11_falls 22 = .ok (.imul, 1) := by decide +kernel
theorem dX11_falls_23 : decode cX11_falls 23 = .ok (.bipush 100, 2) := by decide +kernel
theorem dX11_falls_25 : decode cX11_falls 25 = .ok (.irem, 1) := by decide +kernel
theorem dX11_falls_26 : decode cX11_falls 26 = .ok (.aload_n 0, 1) := by decide +kernel
theorem dX11_falls_27 : decode cX11_falls 27 = .ok (.getfield 28, 3) := by decide +kernel
theorem dX11_falls_30 : decode cX11_falls 30 = .ok (.iload_n 3, 1) := by decide +kernel
theorem dX11_falls_31 : decode cX11_falls 31 = .ok (.iaload, 1) := by decide +kernel
theorem dX11_falls_32 : decode cX11_falls 32 = .ok (.if_icmp .lt 7, 3) := by decide +kernel
theorem dX11_falls_35 : decode cX11_falls 35 = .ok (.iconst 1, 1) := by decide +kernel
theorem dX11_falls_36 : decode cX11_falls 36 = .ok (.goto 4, 3) := by decide +kernel
theorem dX11_falls_39 : decode cX11_falls 39 = .ok (.iconst 0, 1) := by decide +kernel
theorem dX11_falls_40 : decode cX11_falls 40 = .ok (.ireturn, 1) := by decide +kernel
set_option maxHeartbeats 4000000 in
set_option maxRecDepth 100000 in
theorem s_X11_falls {P : PP} {a0 : Nat} {a1 : Nat} {a2 : Int32} {a3 : Int32} (I : IV P) (ha0 : At P a0 11) (ha1 : At P a1 1) (ha3 : 0 ≤ a3.toInt ∧ a3.toInt ≤ 3) : CtrI yX11_falls cX11_falls 4 (some Jvm.ClassFile.FieldType.boolean) ({ frames := 1, cells := 0, slots := 0, locals := 64 } : Room) 0 0 P [.ref a0, .ref a1, .int a2, .int a3] (fun r P2 => P = P2 ∧ (0 ≤ r.toInt ∧ r.toInt ≤ 1)) := by
  refine enI (lv := [(0, .ref a0), (1, .ref a1), (2, .int a2), (3, .int a3)]) (by decide) (Nat.le_of_ble_eq_true rfl) rfl (fun E D cy C Ci0 ret => ?_)
  refine g_iload_n C dX11_falls_0 rfl 2 rfl ?_
  refine g_bipush (v := 37) C dX11_falls_1 (by decide) ?_
  refine a_imul C dX11_falls_3 (fun z24107 => ?_)
  refine g_bipush (v := 11) C dX11_falls_4 (by decide) ?_
  refine g_aload_n C dX11_falls_6 rfl 1 rfl ?_
  refine g_getI C fi_X11_394 (by decide) (ha1).1 (ha1).2 dX11_falls_7 ?_
  have h24109 := I.rg (ha1) 0 rfl
  refine s_imul C dX11_falls_10 (by show -2147483648 ≤ 11 * (pI P a1 0).toInt ∧ 11 * (pI P a1 0).toInt ≤ 2147483647; omega) (fun z24110 h24111 => ?_)
  have h24111 : z24110.toInt = 11 * (pI P a1 0).toInt := h24111
  refine a_iadd C dX11_falls_11 (fun z24112 => ?_)
  refine g_bipush (v := 101) C dX11_falls_12 (by decide) ?_
  refine g_iload_n C dX11_falls_14 rfl 3 rfl ?_
  refine s_imul C dX11_falls_15 (by show -2147483648 ≤ 101 * a3.toInt ∧ 101 * a3.toInt ≤ 2147483647; omega) (fun z24114 h24115 => ?_)
  have h24115 : z24114.toInt = 101 * a3.toInt := h24115
  refine a_iadd C dX11_falls_16 (fun z24116 => ?_)
  refine g_bipush (v := 13) C dX11_falls_17 (by decide) ?_
  refine a_iadd C dX11_falls_19 (fun z24118 => ?_)
  refine g_bipush (v := 7) C dX11_falls_20 (by decide) ?_
  refine a_imul C dX11_falls_22 (fun z24120 => ?_)
  refine g_bipush (v := 100) C dX11_falls_23 (by decide) ?_
  refine a_irem C dX11_falls_25 (by show 100 ≠ 0; omega) (fun z24122 => ?_)
  refine g_aload_n C dX11_falls_26 rfl 0 rfl ?_
  obtain ⟨b24124, e24125, h24126⟩ := I.fld (ha0) 4 13 4 rfl
  refine g_getR C fi_X11_28 rfl e24125 (ha0).1 (ha0).2 dX11_falls_27 ?_
  refine g_iload_n C dX11_falls_30 rfl 3 rfl ?_
  refine g_iald (j := (a3.toInt.toNat)) C h24126.1 h24126.2.1 (ix_in h24126.2.2 (by omega)) dX11_falls_31 ?_
  refine g_topi (fun z24127 _ => ?_)
  have u24129 := ti_rng z24122
  have u24130 := ti_rng z24127
  refine b_icmp_lt C 39 dX11_falls_32 (by decide) (fun h24128 => ?_) (fun h24128 => ?_)
  · have h24128 : z24122.toInt < z24127.toInt := h24128
    refine g_iconst (v := 0) C dX11_falls_39 (by decide) ?_
    exact ret _ _ _ _ _ _ dX11_falls_40 rfl (by decide) (by decide) ⟨rfl, (by decide)⟩
  · have h24128 : z24127.toInt ≤ z24122.toInt := h24128
    refine g_iconst (v := 1) C dX11_falls_35 (by decide) ?_
    refine g_goto C 40 dX11_falls_36 (by decide) ?_
    exact ret _ _ _ _ _ _ dX11_falls_40 rfl (by decide) (by decide) ⟨rfl, (by decide)⟩
theorem dX11_feed_0 : decode cX11_feed 0 = .ok (.aload_n 0, 1) := by decide +kernel
theorem dX11_feed_1 : decode cX11_feed 1 = .ok (.getfield 41, 3) := by decide +kernel
theorem dX11_feed_4 : decode cX11_feed 4 = .ok (.getfield 111, 3) := by decide +kernel
theorem dX11_feed_7 : decode cX11_feed 7 = .ok (.astore 7, 2) := by decide +kernel
theorem dX11_feed_9 : decode cX11_feed 9 = .ok (.aload 7, 2) := by decide +kernel
theorem dX11_feed_11 : decode cX11_feed 11 = .ok (.lload_n 1, 1) := by decide +kernel
theorem dX11_feed_12 : decode cX11_feed 12 = .ok (.invokevirtual 115, 3) := by decide +kernel
theorem dX9_takeEight_0 : decode cX9_takeEight 0 = .ok (.bipush 56, 2) := by decide +kernel
theorem dX9_takeEight_2 : decode cX9_takeEight 2 = .ok (.istore_n 3, 1) := by decide +kernel
theorem dX9_takeEight_3 : decode cX9_takeEight 3 = .ok (.iload_n 3, 1) := by decide +kernel
theorem dX9_takeEight_4 : decode cX9_takeEight 4 = .ok (.ifCond .lt 71, 3) := by decide +kernel
theorem dX9_takeEight_7 : decode cX9_takeEight 7 = .ok (.lload_n 1, 1) := by decide +kernel
theorem dX9_takeEight_8 : decode cX9_takeEight 8 = .ok (.iload_n 3, 1) := by decide +kernel
theorem dX9_takeEight_9 : decode cX9_takeEight 9 = .ok (.lushr, 1) := by decide +kernel
theorem dX9_takeEight_10 : decode cX9_takeEight 10 = .ok (.l2i, 1) := by decide +kernel
theorem dX9_takeEight_11 : decode cX9_takeEight 11 = .ok (.sipush 255, 3) := by decide +kernel
theorem dX9_takeEight_14 : decode cX9_takeEight 14 = .ok (.iand, 1) := by decide +kernel
theorem dX9_takeEight_15 : decode cX9_takeEight 15 = .ok (.istore 4, 2) := by decide +kernel
theorem dX9_takeEight_17 : decode cX9_takeEight 17 = .ok (.iload 4, 2) := by decide +kernel
theorem dX9_takeEight_19 : decode cX9_takeEight 19 = .ok (.bipush 10, 2) := by decide +kernel
theorem dX9_takeEight_21 : decode cX9_takeEight 21 = .ok (.if_icmp .eq 17, 3) := by decide +kernel
theorem dX9_takeEight_24 : decode cX9_takeEight 24 = .ok (.iload 4, 2) := by decide +kernel
theorem dX9_takeEight_26 : decode cX9_takeEight 26 = .ok (.bipush 32, 2) := by decide +kernel
theorem dX9_takeEight_28 : decode cX9_takeEight 28 = .ok (.if_icmp .lt 41, 3) := by decide +kernel
theorem dX9_takeEight_31 : decode cX9_takeEight 31 = .ok (.iload 4, 2) := by decide +kernel
theorem dX9_takeEight_33 : decode cX9_takeEight 33 = .ok (.bipush 126, 2) := by decide +kernel
theorem dX9_takeEight_35 : decode cX9_takeEight 35 = .ok (.if_icmp .gt 34, 3) := by decide +kernel
theorem dX9_takeEight_38 : decode cX9_takeEight 38 = .ok (.aload_n 0, 1) := by decide +kernel
theorem dX9_takeEight_39 : decode cX9_takeEight 39 = .ok (.getfield 15, 3) := by decide +kernel
theorem dX9_takeEight_42 : decode cX9_takeEight 42 = .ok (.sipush 1000, 3) := by decide +kernel
theorem dX9_takeEight_45 : decode cX9_takeEight 45 = .ok (.if_icmp .ge 24, 3) := by decide +kernel
theorem dX9_takeEight_48 : decode cX9_takeEight 48 = .ok (.aload_n 0, 1) := by decide +kernel
theorem dX9_takeEight_49 : decode cX9_takeEight 49 = .ok (.getfield 9, 3) := by decide +kernel
theorem dX9_takeEight_52 : decode cX9_takeEight 52 = .ok (.aload_n 0, 1) := by decide +kernel
theorem dX9_takeEight_53 : decode cX9_takeEight 53 = .ok (.getfield 15, 3) := by decide +kernel
theorem dX9_takeEight_56 : decode cX9_takeEight 56 = .ok (.iload 4, 2) := by decide +kernel
theorem dX9_takeEight_58 : decode cX9_takeEight 58 = .ok (.iastore, 1) := by decide +kernel
theorem dX9_takeEight_59 : decode cX9_takeEight 59 = .ok (.aload_n 0, 1) := by decide +kernel
theorem dX9_takeEight_60 : decode cX9_takeEight 60 = .ok (.dup, 1) := by decide +kernel
theorem dX9_takeEight_61 : decode cX9_takeEight 61 = .ok (.getfield 15, 3) := by decide +kernel
theorem dX9_takeEight_64 : decode cX9_takeEight 64 = .ok (.iconst 1, 1) := by decide +kernel
theorem dX9_takeEight_65 : decode cX9_takeEight 65 = .ok (.iadd, 1) := by decide +kernel
theorem dX9_takeEight_66 : decode cX9_takeEight 66 = .ok (.putfield 15, 3) := by decide +kernel
theorem dX9_takeEight_69 : decode cX9_takeEight 69 = .ok (.iinc 3 (-8), 3) := by decide +kernel
theorem dX9_takeEight_72 : decode cX9_takeEight 72 = .ok (.goto (-69), 3) := by decide +kernel
theorem dX9_takeEight_75 : decode cX9_takeEight 75 = .ok (.return_, 1) := by decide +kernel
set_option maxHeartbeats 4000000 in
set_option maxRecDepth 100000 in
theorem s_X9_takeEight {P : PP} {a0 : Nat} {a1 : Int64} (I : IV P) (ha0 : At P a0 9) : CtrV yX9_takeEight cX9_takeEight 5 none ({ frames := 1, cells := 0, slots := 0, locals := 64 } : Room) 0 0 P [.ref a0, .long a1] (fun P2 => IV P2 ∧ EK [9, 13] P P2) := by
  refine enV (lv := [(0, .ref a0), (1, .long a1)]) (by decide) (Nat.le_of_ble_eq_true rfl) rfl (fun E D cy C Ci0 ret => ?_)
  have J3 : ∀ (n3 : Nat) (P3 : PP) (v3_3 : Int32), (v3_3.toInt - (-8)).toNat < n3 → (IV P3) → (EK [9, 13] P P3) → (-8 ≤ v3_3.toInt ∧ v3_3.toInt ≤ 56) → G E ({ frames := 1, cells := 0, slots := 0, locals := 64 } : Room) D cy 5 P3 0 0 3 [(0, .ref a0), (1, .long a1), (3, .int v3_3)] [] := by
    intro n3
    induction n3 with
    | zero => intro P3 v3_3 hm3 I3 X3 hv3_3; omega
    | succ n3 ih3 =>
      intro P3 v3_3 hm3 I3 X3 hv3_3
      have h24366 := X3.at ha0
      have J69 : ∀ (P69 : PP), (IV P69) → (EK [9, 13] P P69) → (0 ≤ v3_3.toInt ∧ v3_3.toInt ≤ 56) → G E ({ frames := 1, cells := 0, slots := 0, locals := 64 } : Room) D cy 5 P69 0 0 69 [(0, .ref a0), (1, .long a1), (3, .int v3_3)] [] := by
        intro P69 I69 X69 hv69_3
        have h24367 := X69.at ha0
        refine s_iinc (lv0 := [(0, .ref a0), (1, .long a1)]) (m := -8) C dX9_takeEight_69 2 rfl (by decide) rfl (by decide) (by omega) (fun z24368 h24369 => ?_)
        have h24369 : z24368.toInt = v3_3.toInt + (-8) := h24369
        refine g_goto C 3 dX9_takeEight_72 (by decide) ?_
        refine g_lv (lv' := [(0, .ref a0), (1, .long a1), (3, .int z24368)]) [1, 2, 0] rfl ?_
        exact ih3 P69 z24368 (by omega) I69 X69 (by omega)
      have J38 : ∀ (v38_4 : Int32), (0 ≤ v3_3.toInt ∧ v3_3.toInt ≤ 56) → (10 ≤ v38_4.toInt ∧ v38_4.toInt ≤ 126) → G E ({ frames := 1, cells := 0, slots := 0, locals := 64 } : Room) D cy 5 P3 0 0 38 [(0, .ref a0), (1, .long a1), (3, .int v3_3), (4, .int v38_4)] [] := by
        intro v38_4 hv38_3 hv38_4
        have h24370 := X3.at ha0
        refine g_aload_n C dX9_takeEight_38 rfl 0 rfl ?_
        refine g_getI C fi_X9_15 (by decide) (h24370).1 (h24370).2 dX9_takeEight_39 ?_
        have h24371 := I3.rg (h24370) 1 rfl
        refine g_sipush (v := 1000) C dX9_takeEight_42 (by decide) ?_
        refine b_icmp_ge C 69 dX9_takeEight_45 (by decide) (fun h24372 => ?_) (fun h24372 => ?_)
        · have h24372 : 1000 ≤ (pI P3 a0 1).toInt := h24372
          refine g_lv (lv' := [(0, .ref a0), (1, .long a1), (3, .int v3_3)]) [0, 1, 2] rfl ?_
          exact J69 P3 I3 X3 (by omega)
        · have h24372 : (pI P3 a0 1).toInt < 1000 := h24372
          refine g_aload_n C dX9_takeEight_48 rfl 0 rfl ?_
          obtain ⟨b24373, e24374, h24375⟩ := I3.fld (h24370) 0 13 1000 rfl
          refine g_getR C fi_X9_9 rfl e24374 (h24370).1 (h24370).2 dX9_takeEight_49 ?_
          refine g_aload_n C dX9_takeEight_52 rfl 0 rfl ?_
          refine g_getI C fi_X9_15 (by decide) (h24370).1 (h24370).2 dX9_takeEight_53 ?_
          refine g_iload C dX9_takeEight_56 3 rfl ?_
          refine g_iast (j := ((pI P3 a0 1).toInt.toNat)) C h24375.1 h24375.2.1 (ix_in h24375.2.2 (by omega)) dX9_takeEight_58 ?_
          refine gp (ks := [13]) (I3.setA h24375 (by decide)) (EK.setI h24375.2.1 (by decide)) (fun Y24376 Iy24377 Xy24378 => ?_)
          have q24379 := Xy24378.keep h24370 (by decide) 1
          have Xz24380 : EK [9, 13] P Y24376 := X3.tr (Xy24378.mono (by decide))
          have h24381 := Xy24378.at h24370
          refine g_aload_n C dX9_takeEight_59 rfl 0 rfl ?_
          refine g_dup C dX9_takeEight_60 rfl ?_
          refine g_getI C fi_X9_15 (by decide) (h24381).1 (h24381).2 dX9_takeEight_61 ?_
          refine g_iconst (v := 1) C dX9_takeEight_64 (by decide) ?_
          refine s_iadd C dX9_takeEight_65 (by show -2147483648 ≤ (pI Y24376 a0 1).toInt + 1 ∧ (pI Y24376 a0 1).toInt + 1 ≤ 2147483647; omega) (fun z24382 h24383 => ?_)
          have h24383 : z24382.toInt = (pI Y24376 a0 1).toInt + 1 := h24383
          refine g_putI C fi_X9_15 rfl (h24381).1 (h24381).2 dX9_takeEight_66 ?_
          refine gpW (ks := [9]) (Iy24377.setI (h24381) (rgOk.of rfl (by omega))) (EK.setI (h24381).2 (by decide)) (fun Y24384 Iy24385 Xy24386 w24387 w24388 => ?_)
          have Xz24389 : EK [9, 13] P Y24384 := Xz24380.tr (Xy24386.mono (by decide))
          have h24390 := Xy24386.at h24381
          refine g_lv (lv' := [(0, .ref a0), (1, .long a1), (3, .int v3_3)]) [0, 1, 2] rfl ?_
          exact J69 Y24384 Iy24385 Xz24389 (by omega)
      refine g_iload_n C dX9_takeEight_3 rfl 2 rfl ?_
      refine b_if_lt C 75 dX9_takeEight_4 (by decide) (fun h24391 => ?_) (fun h24391 => ?_)
      · have h24391 : v3_3.toInt < 0 := h24391
        exact ret _ _ _ _ _ dX9_takeEight_75 (by decide) (by decide) ⟨I3, X3⟩
      · have h24391 : 0 ≤ v3_3.toInt := h24391
        refine g_lload_n C dX9_takeEight_7 rfl 1 rfl ?_
        refine g_iload_n C dX9_takeEight_8 rfl 2 rfl ?_
        refine a_lushr C dX9_takeEight_9 (fun l24392 => ?_)
        refine a_l2i C dX9_takeEight_10 (fun z24393 => ?_)
        refine g_sipush (v := 255) C dX9_takeEight_11 (by decide) ?_
        refine s_iand C dX9_takeEight_14 (by show 0 ≤ 255; omega) (fun z24394 h24395 => ?_)
        have h24395 : 0 ≤ z24394.toInt ∧ z24394.toInt ≤ 255 := h24395
        refine g_istore (lv' := [(4, .int z24394), (0, .ref a0), (1, .long a1), (3, .int v3_3)]) C dX9_takeEight_15 (by decide) rfl ?_
        refine g_iload C dX9_takeEight_17 0 rfl ?_
        refine g_bipush (v := 10) C dX9_takeEight_19 (by decide) ?_
        refine b_icmp_eq C 38 dX9_takeEight_21 (by decide) (fun h24396 => ?_) (fun h24396 => ?_)
        · have h24396 : z24394.toInt = 10 := congrArg Int32.toInt h24396
          refine g_lv (lv' := [(0, .ref a0), (1, .long a1), (3, .int v3_3), (4, .int z24394)]) [1, 2, 3, 0] rfl ?_
          exact J38 z24394 (by omega) (by omega)
        · have h24396 : z24394.toInt ≠ 10 := ti_ne h24396
          refine g_iload C dX9_takeEight_24 0 rfl ?_
          refine g_bipush (v := 32) C dX9_takeEight_26 (by decide) ?_
          refine b_icmp_lt C 69 dX9_takeEight_28 (by decide) (fun h24397 => ?_) (fun h24397 => ?_)
          · have h24397 : z24394.toInt < 32 := h24397
            refine g_lv (lv' := [(0, .ref a0), (1, .long a1), (3, .int v3_3)]) [1, 2, 3] rfl ?_
            exact J69 P3 I3 X3 (by omega)
          · have h24397 : 32 ≤ z24394.toInt := h24397
            refine g_iload C dX9_takeEight_31 0 rfl ?_
            refine g_bipush (v := 126) C dX9_takeEight_33 (by decide) ?_
            refine b_icmp_gt C 69 dX9_takeEight_35 (by decide) (fun h24398 => ?_) (fun h24398 => ?_)
            · have h24398 : 126 < z24394.toInt := h24398
              refine g_lv (lv' := [(0, .ref a0), (1, .long a1), (3, .int v3_3)]) [1, 2, 3] rfl ?_
              exact J69 P3 I3 X3 (by omega)
            · have h24398 : z24394.toInt ≤ 126 := h24398
              refine g_lv (lv' := [(0, .ref a0), (1, .long a1), (3, .int v3_3), (4, .int z24394)]) [1, 2, 3, 0] rfl ?_
              exact J38 z24394 (by omega) (by omega)
  refine g_bipush (v := 56) C dX9_takeEight_0 (by decide) ?_
  refine g_istore_n (lv' := [(3, .int 56), (0, .ref a0), (1, .long a1)]) C dX9_takeEight_2 rfl (by decide) rfl ?_
  refine g_lv (lv' := [(0, .ref a0), (1, .long a1), (3, .int 56)]) [1, 2, 0] rfl ?_
  exact J3 _ P 56 (Nat.lt_succ_self _) I EK.rf (by decide)
theorem dX11_feed_15 : decode cX11_feed 15 = .ok (.aload 7, 2) := by decide +kernel
theorem dX11_feed_17 : decode cX11_feed 17 = .ok (.lload_n 3, 1) := by decide +kernel
theorem dX11_feed_18 : decode cX11_feed 18 = .ok (.invokevirtual 115, 3) := by decide +kernel
theorem dX11_feed_21 : decode cX11_feed 21 = .ok (.aload 7, 2) := by decide +kernel
theorem dX11_feed_23 : decode cX11_feed 23 = .ok (.lload 5, 2) := by decide +kernel
theorem dX11_feed_25 : decode cX11_feed 25 = .ok (.invokevirtual 115, 3) := by decide +kernel
theorem dX11_feed_28 : decode cX11_feed 28 = .ok (.aload 7, 2) := by decide +kernel
theorem dX11_feed_30 : decode cX11_feed 30 = .ok (.getfield 121, 3) := by decide +kernel
theorem dX11_feed_33 : decode cX11_feed 33 = .ok (.ireturn, 1) := by decide +kernel
set_option maxHeartbeats 4000000 in
set_option maxRecDepth 100000 in
theorem s_X11_feed {P : PP} {a0 : Nat} {a1 : Int64} {a2 : Int64} {a3 : Int64} (I : IV P) (ha0 : At P a0 11) : CtrI yX11_feed cX11_feed 8 (some Jvm.ClassFile.FieldType.int) ({ frames := 2, cells := 0, slots := 0, locals := 128 } : Room) 0 0 P [.ref a0, .long a1, .long a2, .long a3] (fun r P2 => IV P2 ∧ EK [9, 13] P P2 ∧ (0 ≤ r.toInt ∧ r.toInt ≤ 1000)) := by
  refine enI (lv := [(0, .ref a0), (1, .long a1), (3, .long a2), (5, .long a3)]) (by decide) (Nat.le_of_ble_eq_true rfl) rfl (fun E D cy C Ci0 ret => ?_)
  refine g_aload_n C dX11_feed_0 rfl 0 rfl ?_
  obtain ⟨b24430, e24431, h24432⟩ := I.fld (ha0) 7 4 0 rfl
  refine g_getR C fi_X11_41 rfl e24431 (ha0).1 (ha0).2 dX11_feed_1 ?_
  obtain ⟨b24433, e24434, h24435⟩ := I.fld (h24432.at) 0 9 0 rfl
  refine g_getR C fi_X11_111 rfl e24434 (h24432.at).1 (h24432.at).2 dX11_feed_4 ?_
  refine g_astore (lv' := [(7, .ref b24433), (0, .ref a0), (1, .long a1), (3, .long a2), (5, .long a3)]) C dX11_feed_7 (by decide) rfl ?_
  refine g_aload C dX11_feed_9 0 rfl ?_
  refine g_lload_n C dX11_feed_11 rfl 2 rfl ?_
  refine g_callVV (rest := []) C mv_X11_115 [.long a1] (s_X9_takeEight I h24435.at) (h24435.at).1 (h24435.at).2 rfl rfl (by decide) (Nat.le_of_ble_eq_true rfl) (by decide) dX11_feed_12 (fun Y24437 h24438 => ?_)
  obtain ⟨Iy24439, Xy24440⟩ := h24438
  have Xz24441 : EK [9, 13] P Y24437 := Xy24440.mono (by decide)
  have h24442 := Xy24440.at ha0
  have h24443 := Xy24440.ar h24435
  refine g_aload C dX11_feed_15 0 rfl ?_
  refine g_lload_n C dX11_feed_17 rfl 3 rfl ?_
  refine g_callVV (rest := []) C mv_X11_115 [.long a2] (s_X9_takeEight Iy24439 h24443.at) (h24443.at).1 (h24443.at).2 rfl rfl (by decide) (Nat.le_of_ble_eq_true rfl) (by decide) dX11_feed_18 (fun Y24445 h24446 => ?_)
  obtain ⟨Iy24447, Xy24448⟩ := h24446
  have Xz24449 : EK [9, 13] P Y24445 := Xz24441.tr (Xy24448.mono (by decide))
  have h24450 := Xy24448.at h24442
  have h24451 := Xy24448.ar h24443
  refine g_aload C dX11_feed_21 0 rfl ?_
  refine g_lload C dX11_feed_23 4 rfl ?_
  refine g_callVV (rest := []) C mv_X11_115 [.long a3] (s_X9_takeEight Iy24447 h24451.at) (h24451.at).1 (h24451.at).2 rfl rfl (by decide) (Nat.le_of_ble_eq_true rfl) (by decide) dX11_feed_25 (fun Y24453 h24454 => ?_)
  obtain ⟨Iy24455, Xy24456⟩ := h24454
  have Xz24457 : EK [9, 13] P Y24453 := Xz24449.tr (Xy24456.mono (by decide))
  have h24458 := Xy24456.at h24450
  have h24459 := Xy24456.ar h24451
  refine g_aload C dX11_feed_28 0 rfl ?_
  refine g_getI C fi_X11_121 (by decide) (h24459.at).1 (h24459.at).2 dX11_feed_30 ?_
  have h24460 := Iy24455.rg (h24459.at) 1 rfl
  exact ret _ _ _ _ _ _ dX11_feed_33 rfl (by decide) (by decide) ⟨Iy24455, Xz24457, (by omega)⟩
theorem dX11_forged_0 : decode cX11_forged 0 = .ok (.iload_n 1, 1) := by decide +kernel
theorem dX11_forged_1 : decode cX11_forged 1 = .ok (.invokestatic 158, 3) := by decide +kernel
theorem dX11_forged_4 : decode cX11_forged 4 = .ok (.ifCond .eq 12, 3) := by decide +kernel
theorem dX11_forged_7 : decode cX11_forged 7 = .ok (.aload_n 0, 1) := by decide +kernel
theorem dX11_forged_8 : decode cX11_forged 8 = .ok (.iload_n 2, 1) := by decide +kernel
theorem dX11_forged_9 : decode cX11_forged 9 = .ok (.iload_n 3, 1) := by decide +kernel
theorem dX11_forged_10 : decode cX11_forged 10 = .ok (.invokevirtual 136, 3) := by decide +kernel
theorem dX11_forged_13 : decode cX11_forged 13 = .ok (.ifCond .ne 5, 3) := by decide +kernel
theorem dX11_forged_18 : decode cX11_forged 18 = .ok (.iload 4, 2) := by decide +kernel
theorem dX11_forged_20 : decode cX11_forged 20 = .ok (.ifCond .lt 23, 3) := by decide +kernel
theorem dX11_forged_23 : decode cX11_forged 23 = .ok (.iload 4, 2) := by decide +kernel
theorem dX11_forged_25 : decode cX11_forged 25 = .ok (.ldc 104, 2) := by decide +kernel
theorem dX11_forged_27 : decode cX11_forged 27 = .ok (.if_icmp .gt 16, 3) := by decide +kernel
theorem dX11_forged_30 : decode cX11_forged 30 = .ok (.iload 5, 2) := by decide +kernel
theorem dX11_forged_32 : decode cX11_forged 32 = .ok (.ifCond .lt 11, 3) := by decide +kernel
theorem dX11_forged_35 : decode cX11_forged 35 = .ok (.iload 5, 2) := by decide +kernel
theorem dX11_forged_37 : decode cX11_forged 37 = .ok (.sipush 997, 3) := by decide +kernel
theorem dX11_forged_40 : decode cX11_forged 40 = .ok (.if_icmp .lt 5, 3) := by decide +kernel
theorem dX11_forged_45 : decode cX11_forged 45 = .ok (.aload_n 0, 1) := by decide +kernel
theorem dX11_forged_46 : decode cX11_forged 46 = .ok (.iload_n 1, 1) := by decide +kernel
theorem dX11_forged_47 : decode cX11_forged 47 = .ok (.aload_n 0, 1) := by decide +kernel
theorem dX11_forged_48 : decode cX11_forged 48 = .ok (.getfield 11, 3) := by decide +kernel
theorem dX11_forged_51 : decode cX11_forged 51 = .ok (.iload_n 2, 1) := by decide +kernel
theorem dX11_forged_52 : decode cX11_forged 52 = .ok (.aaload, 1) := by decide +kernel
theorem dX11_forged_53 : decode cX11_forged 53 = .ok (.iload_n 3, 1) := by decide +kernel
theorem dX11_forged_54 : decode cX11_forged 54 = .ok (.iload 4, 2) := by decide +kernel
theorem dX11_forged_56 : decode cX11_forged 56 = .ok (.iload 5, 2) := by decide +kernel
theorem dX11_forged_58 : decode cX11_forged 58 = .ok (.invokevirtual 169, 3) := by decide +kernel
theorem dX11_send_0 : decode cX11_send 0 = .ok (.aload_n 2, 1) := by decide +kernel
theorem dX11_send_1 : decode cX11_send 1 = .ok (.getfield 354, 3) := by decide +kernel
theorem dX11_send_4 : decode cX11_send 4 = .ok (.getfield 357, 3) := by decide +kernel
theorem dX11_send_7 : decode cX11_send 7 = .ok (.ifCond .eq 27, 3) := by decide +kernel
theorem dX11_send_10 : decode cX11_send 10 = .ok (.iload 5, 2) := by decide +kernel
theorem dX11_send_12 : decode cX11_send 12 = .ok (.aload_n 2, 1) := by decide +kernel
theorem dX11_send_13 : decode cX11_send 13 = .ok (.iload_n 3, 1) := by decide +kernel
theorem dX11_send_14 : decode cX11_send 14 = .ok (.iload 4, 2) := by decide +kernel
theorem dX11_send_16 : decode cX11_send 16 = .ok (.invokevirtual 146, 3) := by decide +kernel
theorem dX11_send_19 : decode cX11_send 19 = .ok (.if_icmp .eq 15, 3) := by decide +kernel
theorem dX11_send_22 : decode cX11_send 22 = .ok (.aload_n 0, 1) := by decide +kernel
theorem dX11_send_23 : decode cX11_send 23 = .ok (.dup, 1) := by decide +kernel
theorem dX11_send_24 : decode cX11_send 24 = .ok (.getfield 348, 3) := by decide +kernel
theorem dX11_send_27 : decode cX11_send 27 = .ok (.iconst 1, 1) := by decide +kernel
theorem dX11_send_28 : decode cX11_send 28 = .ok (.iadd, 1) := by decide +kernel
theorem dX11_send_29 : decode cX11_send 29 = .ok (.putfield 348, 3) := by decide +kernel
theorem dX11_send_32 : decode cX11_send 32 = .ok (.iconst (-1), 1) := by decide +kernel
theorem dX11_send_33 : decode cX11_send 33 = .ok (.ireturn, 1) := by decide +kernel
theorem dX11_send_34 : decode cX11_send 34 = .ok (.aload_n 0, 1) := by decide +kernel
theorem dX11_send_35 : decode cX11_send 35 = .ok (.getfield 17, 3) := by decide +kernel
theorem dX11_send_38 : decode cX11_send 38 = .ok (.iload_n 1, 1) := by decide +kernel
theorem dX11_send_39 : decode cX11_send 39 = .ok (.aaload, 1) := by decide +kernel
theorem dX11_send_40 : decode cX11_send 40 = .ok (.aload_n 2, 1) := by decide +kernel
theorem dX11_send_41 : decode cX11_send 41 = .ok (.iload_n 3, 1) := by decide +kernel
theorem dX11_send_42 : decode cX11_send 42 = .ok (.aload_n 2, 1) := by decide +kernel
theorem dX11_send_43 : decode cX11_send 43 = .ok (.iload_n 3, 1) := by decide +kernel
theorem dX11_send_44 : decode cX11_send 44 = .ok (.invokevirtual 140, 3) := by decide +kernel
theorem dX11_send_47 : decode cX11_send 47 = .ok (.iload 4, 2) := by decide +kernel
theorem dX11_send_49 : decode cX11_send 49 = .ok (.iconst 3, 1) := by decide +kernel
theorem dX11_send_50 : decode cX11_send 50 = .ok (.iload 5, 2) := by decide +kernel
theorem dX11_send_52 : decode cX11_send 52 = .ok (.invokevirtual 360, 3) := by decide +kernel
theorem dX11_send_55 : decode cX11_send 55 = .ok (.invokevirtual 165, 3) := by decide +kernel
theorem dX11_send_58 : decode cX11_send 58 = .ok (.ireturn, 1) := by decide +kernel
set_option maxHeartbeats 4000000 in
set_option maxRecDepth 100000 in
theorem s_X11_send {P : PP} {a0 : Nat} {a1 : Int32} {a2 : Nat} {a3 : Int32} {a4 : Int32} {a5 : Int32} (I : IV P) (ha0 : At P a0 11) (ha1 : 0 ≤ a1.toInt ∧ a1.toInt ≤ 3) (ha2 : At P a2 1) : CtrI yX11_send cX11_send 6 (some Jvm.ClassFile.FieldType.int) ({ frames := 5, cells := 1, slots := 7, locals := 320 } : Room) 1 7 P [.ref a0, .int a1, .ref a2, .int a3, .int a4, .int a5] (fun r P2 => IV P2 ∧ EK [1, 6, 7, 11, 13] P P2 ∧ (-1 ≤ r.toInt ∧ r.toInt ≤ 39)) := by
  refine enI (lv := [(0, .ref a0), (1, .int a1), (2, .ref a2), (3, .int a3), (4, .int a4), (5, .int a5)]) (by decide) (Nat.le_of_ble_eq_true rfl) rfl (fun E D cy C Ci0 ret => ?_)
  have J34 : G E ({ frames := 5, cells := 1, slots := 7, locals := 320 } : Room) D cy 6 P 0 0 34 [(0, .ref a0), (1, .int a1), (2, .ref a2), (3, .int a3), (4, .int a4), (5, .int a5)] [] := by
    refine g_aload_n C dX11_send_34 rfl 0 rfl ?_
    obtain ⟨b24540, e24541, h24542⟩ := I.fld (ha0) 1 19 4 rfl
    refine g_getR C fi_X11_17 rfl e24541 (ha0).1 (ha0).2 dX11_send_35 ?_
    refine g_iload_n C dX11_send_38 rfl 1 rfl ?_
    obtain ⟨b24543, e24544, h24545⟩ := I.elm h24542 (by decide) (a1.toInt.toNat) (by omega)
    refine g_aldR C h24542.1 h24542.2.1 (by decide) (ix_in h24542.2.2 (by omega)) e24544 dX11_send_39 ?_
    refine g_aload_n C dX11_send_40 rfl 2 rfl ?_
    refine g_iload_n C dX11_send_41 rfl 3 rfl ?_
    refine g_aload_n C dX11_send_42 rfl 2 rfl ?_
    refine g_iload_n C dX11_send_43 rfl 3 rfl ?_
    refine g_callVI (rest := [.int a3, .ref a2, .ref b24543]) C mv_X11_140 [.int a3] (s_X1_pagesOf I ha2) (ha2).1 (ha2).2 rfl rfl (by decide) (Nat.le_of_ble_eq_true rfl) (by decide) dX11_send_44 (fun r24546 Y24547 h24548 => ?_)
    obtain ⟨Iy24549, Xy24550, h24548⟩ := h24548
    have Xz24551 : EK [1, 6, 7, 11, 13] P Y24547 := Xy24550.mono (by decide)
    have h24552 := Xy24550.at ha0
    have h24553 := Xy24550.at ha2
    have h24554 := Xy24550.at h24545
    have h24548 : True := h24548
    refine g_iload C dX11_send_47 4 rfl ?_
    refine g_iconst (v := 3) C dX11_send_49 (by decide) ?_
    refine g_iload C dX11_send_50 5 rfl ?_
    refine g_callVQ (rest := [.ref b24543]) C mv_X11_360 [.int a3, .int r24546, .int a4, .int 3, .int a5] (s_X1_paperOf Iy24549 h24553) (h24553).1 (h24553).2 rfl rfl (by decide) (Nat.le_of_ble_eq_true rfl) (by decide) dX11_send_52 (fun r24555 Y24556 h24557 => ?_)
    obtain ⟨Iy24558, Xy24559, h24557⟩ := h24557
    have Xz24560 : EK [1, 6, 7, 11, 13] P Y24556 := Xz24551.tr (Xy24559.mono (by decide))
    have h24561 := Xy24559.at h24552
    have h24562 := Xy24559.at h24553
    have h24563 := Xy24559.at h24554
    obtain ⟨b24565, rfl, h24557⟩ := h24557
    show G _ _ _ _ _ _ _ _ _ _ (.ref b24565 :: _)
    refine g_callVI (rest := []) C mv_X11_165 [.ref b24565] (s_X6_put Iy24558 h24563 h24557) (h24563).1 (h24563).2 rfl rfl (by decide) (Nat.le_of_ble_eq_true rfl) (by decide) dX11_send_55 (fun r24566 Y24567 h24568 => ?_)
    obtain ⟨Iy24569, Xy24570, h24568⟩ := h24568
    have Xz24571 : EK [1, 6, 7, 11, 13] P Y24567 := Xz24560.tr (Xy24570.mono (by decide))
    have h24572 := Xy24570.at h24561
    have h24573 := Xy24570.at h24562
    have h24568 : -1 ≤ r24566.toInt ∧ r24566.toInt ≤ 39 := h24568
    exact ret _ _ _ _ _ _ dX11_send_58 rfl (by decide) (by decide) ⟨Iy24569, Xz24571, (by omega)⟩
  refine g_aload_n C dX11_send_0 rfl 2 rfl ?_
  obtain ⟨b24574, e24575, h24576⟩ := I.fld (ha2) 2 3 0 rfl
  refine g_getR C fi_X11_354 rfl e24575 (ha2).1 (ha2).2 dX11_send_1 ?_
  refine g_getI C fi_X11_357 (by decide) (h24576.at).1 (h24576.at).2 dX11_send_4 ?_
  have u24578 := ti_rng (pI P b24574 5)
  refine b_if_eq C 34 dX11_send_7 (by decide) (fun h24577 => ?_) (fun h24577 => ?_)
  · have h24577 : (pI P b24574 5).toInt = 0 := congrArg Int32.toInt h24577
    exact J34 
  · have h24577 : (pI P b24574 5).toInt ≠ 0 := ti_ne h24577
    refine g_iload C dX11_send_10 5 rfl ?_
    refine g_aload_n C dX11_send_12 rfl 2 rfl ?_
    refine g_iload_n C dX11_send_13 rfl 3 rfl ?_
    refine g_iload C dX11_send_14 4 rfl ?_
    refine g_callVI (rest := [.int a5]) C mv_X11_146 [.int a3, .int a4] (s_X1_sealOf I ha2) (ha2).1 (ha2).2 rfl rfl (by decide) (Nat.le_of_ble_eq_true rfl) (by decide) dX11_send_16 (fun r24579 Y24580 h24581 => ?_)
    obtain ⟨rfl, h24581⟩ := h24581
    have h24581 : True := h24581
    have u24583 := ti_rng a5
    have u24584 := ti_rng r24579
    refine b_icmp_eq C 34 dX11_send_19 (by decide) (fun h24582 => ?_) (fun h24582 => ?_)
    · have h24582 : a5.toInt = r24579.toInt := congrArg Int32.toInt h24582
      exact J34 
    · have h24582 : a5.toInt ≠ r24579.toInt := ti_ne h24582
      refine g_aload_n C dX11_send_22 rfl 0 rfl ?_
      refine g_dup C dX11_send_23 rfl ?_
      refine g_getI C fi_X11_348 (by decide) (ha0).1 (ha0).2 dX11_send_24 ?_
      refine g_iconst (v := 1) C dX11_send_27 (by decide) ?_
      refine a_iadd C dX11_send_28 (fun z24585 => ?_)
      refine g_putI C fi_X11_348 rfl (ha0).1 (ha0).2 dX11_send_29 ?_
      refine gpW (ks := [11]) (I.setI (ha0) (rgOk.none rfl)) (EK.setI (ha0).2 (by decide)) (fun Y24587 Iy24588 Xy24589 w24590 w24591 => ?_)
      have Xz24592 : EK [1, 6, 7, 11, 13] P Y24587 := Xy24589.mono (by decide)
      have h24593 := Xy24589.at ha0
      have h24594 := Xy24589.at ha2
      refine g_iconst (v := (-1)) C dX11_send_32 (by decide) ?_
      exact ret _ _ _ _ _ _ dX11_send_33 rfl (by decide) (by decide) ⟨Iy24588, Xz24592, (by decide)⟩
theorem dX11_forged_16 : decode cX11_forged 16 = .ok (.iconst (-1), 1) := by decide +kernel
theorem dX11_forged_17 : decode cX11_forged 17 = .ok (.ireturn, 1) := by decide +kernel
theorem dX11_forged_43 : decode cX11_forged 43 = .ok (.iconst (-1), 1) := by decide +kernel
theorem dX11_forged_44 : decode cX11_forged 44 = .ok (.ireturn, 1) := by decide +kernel
theorem dX11_forged_61 : decode cX11_forged 61 = .ok (.ireturn, 1) := by decide +kernel
set_option maxHeartbeats 4000000 in
set_option maxRecDepth 100000 in
theorem s_X11_forged {P : PP} {a0 : Nat} {a1 : Int32} {a2 : Int32} {a3 : Int32} {a4 : Int32} {a5 : Int32} (I : IV P) (ha0 : At P a0 11) : CtrI yX11_forged cX11_forged 6 (some Jvm.ClassFile.FieldType.int) ({ frames := 6, cells := 1, slots := 7, locals := 384 } : Room) 1 7 P [.ref a0, .int a1, .int a2, .int a3, .int a4, .int a5] (fun r P2 => IV P2 ∧ EK [1, 6, 7, 11, 13] P P2 ∧ (-1 ≤ r.toInt ∧ r.toInt ≤ 39)) := by
  refine enI (lv := [(0, .ref a0), (1, .int a1), (2, .int a2), (3, .int a3), (4, .int a4), (5, .int a5)]) (by decide) (Nat.le_of_ble_eq_true rfl) rfl (fun E D cy C Ci0 ret => ?_)
  have J43 : G E ({ frames := 6, cells := 1, slots := 7, locals := 384 } : Room) D cy 6 P 0 0 43 [] [] := by
    refine g_iconst (v := (-1)) C dX11_forged_43 (by decide) ?_
    exact ret _ _ _ _ _ _ dX11_forged_44 rfl (by decide) (by decide) ⟨I, EK.rf, (by decide)⟩
  have J16 : G E ({ frames := 6, cells := 1, slots := 7, locals := 384 } : Room) D cy 6 P 0 0 16 [] [] := by
    refine g_iconst (v := (-1)) C dX11_forged_16 (by decide) ?_
    exact ret _ _ _ _ _ _ dX11_forged_17 rfl (by decide) (by decide) ⟨I, EK.rf, (by decide)⟩
  refine g_iload_n C dX11_forged_0 rfl 1 rfl ?_
  refine g_callSI (b := 0) (ci := 0) (rest := []) C ms_X11_158 [.int a1] (s_X11_isQuarter I) rfl rfl (by decide) (Nat.le_of_ble_eq_true rfl) (by decide) dX11_forged_1 (fun r24626 Y24627 h24628 => ?_)
  obtain ⟨rfl, h24628⟩ := h24628
  obtain ⟨h24628, hi24629⟩ := h24628
  have hi24629 : r24626.toInt = 0 ∨ (((0 : Int) ≤ a1.toInt ∧ a1.toInt ≤ (3 : Int))) := hi24629
  have h24628 : 0 ≤ r24626.toInt ∧ r24626.toInt ≤ 1 := h24628
  refine b_if_eq C 16 dX11_forged_4 (by decide) (fun h24630 => ?_) (fun h24630 => ?_)
  · have h24630 : r24626.toInt = 0 := congrArg Int32.toInt h24630
    clear hi24629
    refine g_lv (lv' := []) [] rfl ?_
    exact J16 
  · have h24630 : r24626.toInt ≠ 0 := ti_ne h24630
    replace hi24629 := hi24629.resolve_left (by omega)
    refine g_aload_n C dX11_forged_7 rfl 0 rfl ?_
    refine g_iload_n C dX11_forged_8 rfl 2 rfl ?_
    refine g_iload_n C dX11_forged_9 rfl 3 rfl ?_
    refine g_callVI (rest := []) C mv_X11_136 [.int a2, .int a3] (s_X11_isLeaflet I ha0) (ha0).1 (ha0).2 rfl rfl (by decide) (Nat.le_of_ble_eq_true rfl) (by decide) dX11_forged_10 (fun r24631 Y24632 h24633 => ?_)
    obtain ⟨rfl, h24633⟩ := h24633
    obtain ⟨h24633, hi24634⟩ := h24633
    have hi24634 : r24631.toInt = 0 ∨ (((0 : Int) ≤ a2.toInt ∧ a2.toInt ≤ (1 : Int)) ∧ ((0 : Int) ≤ a3.toInt ∧ a3.toInt ≤ (9999 : Int))) := hi24634
    have h24633 : 0 ≤ r24631.toInt ∧ r24631.toInt ≤ 1 := h24633
    refine b_if_ne C 18 dX11_forged_13 (by decide) (fun h24635 => ?_) (fun h24635 => ?_)
    · have h24635 : r24631.toInt ≠ 0 := ti_ne h24635
      replace hi24634 := hi24634.resolve_left (by omega)
      refine g_iload C dX11_forged_18 4 rfl ?_
      have u24637 := ti_rng a4
      refine b_if_lt C 43 dX11_forged_20 (by decide) (fun h24636 => ?_) (fun h24636 => ?_)
      · have h24636 : a4.toInt < 0 := h24636
        refine g_lv (lv' := []) [] rfl ?_
        exact J43 
      · have h24636 : 0 ≤ a4.toInt := h24636
        refine g_iload C dX11_forged_23 4 rfl ?_
        refine g_ldc (v := 65535) C kc_X11_104 dX11_forged_25 ?_
        have u24639 := ti_rng a4
        refine b_icmp_gt C 43 dX11_forged_27 (by decide) (fun h24638 => ?_) (fun h24638 => ?_)
        · have h24638 : 65535 < a4.toInt := h24638
          refine g_lv (lv' := []) [] rfl ?_
          exact J43 
        · have h24638 : a4.toInt ≤ 65535 := h24638
          refine g_iload C dX11_forged_30 5 rfl ?_
          have u24641 := ti_rng a5
          refine b_if_lt C 43 dX11_forged_32 (by decide) (fun h24640 => ?_) (fun h24640 => ?_)
          · have h24640 : a5.toInt < 0 := h24640
            refine g_lv (lv' := []) [] rfl ?_
            exact J43 
          · have h24640 : 0 ≤ a5.toInt := h24640
            refine g_iload C dX11_forged_35 5 rfl ?_
            refine g_sipush (v := 997) C dX11_forged_37 (by decide) ?_
            have u24643 := ti_rng a5
            refine b_icmp_lt C 45 dX11_forged_40 (by decide) (fun h24642 => ?_) (fun h24642 => ?_)
            · have h24642 : a5.toInt < 997 := h24642
              refine g_aload_n C dX11_forged_45 rfl 0 rfl ?_
              refine g_iload_n C dX11_forged_46 rfl 1 rfl ?_
              refine g_aload_n C dX11_forged_47 rfl 0 rfl ?_
              obtain ⟨b24644, e24645, h24646⟩ := I.fld (ha0) 0 17 2 rfl
              refine g_getR C fi_X11_11 rfl e24645 (ha0).1 (ha0).2 dX11_forged_48 ?_
              refine g_iload_n C dX11_forged_51 rfl 2 rfl ?_
              obtain ⟨b24647, e24648, h24649⟩ := I.elm h24646 (by decide) (a2.toInt.toNat) (by omega)
              refine g_aldR C h24646.1 h24646.2.1 (by decide) (ix_in h24646.2.2 (by omega)) e24648 dX11_forged_52 ?_
              refine g_iload_n C dX11_forged_53 rfl 3 rfl ?_
              refine g_iload C dX11_forged_54 4 rfl ?_
              refine g_iload C dX11_forged_56 5 rfl ?_
              refine g_callVI (rest := []) C mv_X11_169 [.int a1, .ref b24647, .int a3, .int a4, .int a5] (s_X11_send I ha0 (by omega) h24649) (ha0).1 (ha0).2 rfl rfl (by decide) (Nat.le_of_ble_eq_true rfl) (by decide) dX11_forged_58 (fun r24650 Y24651 h24652 => ?_)
              obtain ⟨Iy24653, Xy24654, h24652⟩ := h24652
              have Xz24655 : EK [1, 6, 7, 11, 13] P Y24651 := Xy24654.mono (by decide)
              have h24656 := Xy24654.at ha0
              have h24652 : -1 ≤ r24650.toInt ∧ r24650.toInt ≤ 39 := h24652
              exact ret _ _ _ _ _ _ dX11_forged_61 rfl (by decide) (by decide) ⟨Iy24653, Xz24655, (by omega)⟩
            · have h24642 : 997 ≤ a5.toInt := h24642
              refine g_lv (lv' := []) [] rfl ?_
              exact J43 
    · have h24635 : r24631.toInt = 0 := congrArg Int32.toInt h24635
      clear hi24634
      refine g_lv (lv' := []) [] rfl ?_
      exact J16 
theorem dX11_guard_0 : decode cX11_guard 0 = .ok (.iload_n 1, 1) := by decide +kernel
theorem dX11_guard_1 : decode cX11_guard 1 = .ok (.invokestatic 158, 3) := by decide +kernel
theorem dX11_guard_4 : decode cX11_guard 4 = .ok (.ifCond .eq 20, 3) := by decide +kernel
theorem dX11_guard_7 : decode cX11_guard 7 = .ok (.aload_n 0, 1) := by decide +kernel
theorem dX11_guard_8 : decode cX11_guard 8 = .ok (.iload_n 2, 1) := by decide +kernel
theorem dX11_guard_9 : decode cX11_guard 9 = .ok (.iload 4, 2) := by decide +kernel
theorem dX11_guard_11 : decode cX11_guard 11 = .ok (.invokevirtual 155, 3) := by decide +kernel
theorem dX11_isPageOf_0 : decode cX11_isPageOf 0 = .ok (.aload_n 0, 1) := by decide +kernel
theorem dX11_isPageOf_1 : decode cX11_isPageOf 1 = .ok (.iload_n 1, 1) := by decide +kernel
theorem dX11_isPageOf_2 : decode cX11_isPageOf 2 = .ok (.invokevirtual 97, 3) := by decide +kernel
theorem dX11_isPageOf_5 : decode cX11_isPageOf 5 = .ok (.ifCond .eq 24, 3) := by decide +kernel
theorem dX11_isPageOf_8 : decode cX11_isPageOf 8 = .ok (.iload_n 2, 1) := by decide +kernel
theorem dX11_isPageOf_9 : decode cX11_isPageOf 9 = .ok (.ifCond .lt 20, 3) := by decide +kernel
theorem dX11_isPageOf_12 : decode cX11_isPageOf 12 = .ok (.iload_n 2, 1) := by decide +kernel
theorem dX11_isPageOf_13 : decode cX11_isPageOf 13 = .ok (.aload_n 0, 1) := by decide +kernel
theorem dX11_isPageOf_14 : decode cX11_isPageOf 14 = .ok (.getfield 11, 3) := by decide +kernel
theorem dX11_isPageOf_17 : decode cX11_isPageOf 17 = .ok (.iload_n 1, 1) := by decide +kernel
theorem dX11_isPageOf_18 : decode cX11_isPageOf 18 = .ok (.aaload, 1) := by decide +kernel
theorem dX11_isPageOf_19 : decode cX11_isPageOf 19 = .ok (.invokevirtual 233, 3) := by decide +kernel
theorem dX11_isPageOf_22 : decode cX11_isPageOf 22 = .ok (.if_icmp .ge 7, 3) := by decide +kernel
theorem dX11_isPageOf_25 : decode cX11_isPageOf 25 = .ok (.iconst 1, 1) := by decide +kernel
theorem dX11_isPageOf_26 : decode cX11_isPageOf 26 = .ok (.goto 4, 3) := by decide +kernel
theorem dX11_isPageOf_29 : decode cX11_isPageOf 29 = .ok (.iconst 0, 1) := by decide +kernel
theorem dX11_isPageOf_30 : decode cX11_isPageOf 30 = .ok (.ireturn, 1) := by decide +kernel
set_option maxHeartbeats 4000000 in
set_option maxRecDepth 100000 in
theorem s_X11_isPageOf {P : PP} {a0 : Nat} {a1 : Int32} {a2 : Int32} (I : IV P) (ha0 : At P a0 11) : CtrI yX11_isPageOf cX11_isPageOf 3 (some Jvm.ClassFile.FieldType.boolean) ({ frames := 3, cells := 0, slots := 0, locals := 192 } : Room) 0 0 P [.ref a0, .int a1, .int a2] (fun r P2 => P = P2 ∧ (0 ≤ r.toInt ∧ r.toInt ≤ 1) ∧ (r.toInt = 0 ∨ (((0 : Int) ≤ a1.toInt ∧ a1.toInt ≤ (1 : Int)) ∧ ((0 : Int) ≤ a2.toInt ∧ a2.toInt ≤ (19 : Int))))) := by
  refine enI (lv := [(0, .ref a0), (1, .int a1), (2, .int a2)]) (by decide) (Nat.le_of_ble_eq_true rfl) rfl (fun E D cy C Ci0 ret => ?_)
  have J29 : G E ({ frames := 3, cells := 0, slots := 0, locals := 192 } : Room) D cy 3 P 0 0 29 [] [] := by
    refine g_iconst (v := 0) C dX11_isPageOf_29 (by decide) ?_
    exact ret _ _ _ _ _ _ dX11_isPageOf_30 rfl (by decide) (by decide) ⟨rfl, (by decide), Or.inl rfl⟩
  refine g_aload_n C dX11_isPageOf_0 rfl 0 rfl ?_
  refine g_iload_n C dX11_isPageOf_1 rfl 1 rfl ?_
  refine g_callVI (rest := []) C mv_X11_97 [.int a1] (s_X11_isTold I ha0) (ha0).1 (ha0).2 rfl rfl (by decide) (Nat.le_of_ble_eq_true rfl) (by decide) dX11_isPageOf_2 (fun r24680 Y24681 h24682 => ?_)
  obtain ⟨rfl, h24682⟩ := h24682
  obtain ⟨h24682, hi24683⟩ := h24682
  have hi24683 : r24680.toInt = 0 ∨ (((0 : Int) ≤ a1.toInt ∧ a1.toInt ≤ (1 : Int))) := hi24683
  have h24682 : 0 ≤ r24680.toInt ∧ r24680.toInt ≤ 1 := h24682
  refine b_if_eq C 29 dX11_isPageOf_5 (by decide) (fun h24684 => ?_) (fun h24684 => ?_)
  · have h24684 : r24680.toInt = 0 := congrArg Int32.toInt h24684
    clear hi24683
    refine g_lv (lv' := []) [] rfl ?_
    exact J29 
  · have h24684 : r24680.toInt ≠ 0 := ti_ne h24684
    replace hi24683 := hi24683.resolve_left (by omega)
    refine g_iload_n C dX11_isPageOf_8 rfl 2 rfl ?_
    have u24686 := ti_rng a2
    refine b_if_lt C 29 dX11_isPageOf_9 (by decide) (fun h24685 => ?_) (fun h24685 => ?_)
    · have h24685 : a2.toInt < 0 := h24685
      refine g_lv (lv' := []) [] rfl ?_
      exact J29 
    · have h24685 : 0 ≤ a2.toInt := h24685
      refine g_iload_n C dX11_isPageOf_12 rfl 2 rfl ?_
      refine g_aload_n C dX11_isPageOf_13 rfl 0 rfl ?_
      obtain ⟨b24687, e24688, h24689⟩ := I.fld (ha0) 0 17 2 rfl
      refine g_getR C fi_X11_11 rfl e24688 (ha0).1 (ha0).2 dX11_isPageOf_14 ?_
      refine g_iload_n C dX11_isPageOf_17 rfl 1 rfl ?_
      obtain ⟨b24690, e24691, h24692⟩ := I.elm h24689 (by decide) (a1.toInt.toNat) (by omega)
      refine g_aldR C h24689.1 h24689.2.1 (by decide) (ix_in h24689.2.2 (by omega)) e24691 dX11_isPageOf_18 ?_
      refine g_callVI (rest := [.int a2]) C mv_X11_233 [] (s_X1_all I h24692) (h24692).1 (h24692).2 rfl rfl (by decide) (Nat.le_of_ble_eq_true rfl) (by decide) dX11_isPageOf_19 (fun r24693 Y24694 h24695 => ?_)
      obtain ⟨rfl, h24695⟩ := h24695
      have h24695 : 0 ≤ r24693.toInt ∧ r24693.toInt ≤ 20 := h24695
      have u24697 := ti_rng a2
      refine b_icmp_ge C 29 dX11_isPageOf_22 (by decide) (fun h24696 => ?_) (fun h24696 => ?_)
      · have h24696 : r24693.toInt ≤ a2.toInt := h24696
        refine g_lv (lv' := []) [] rfl ?_
        exact J29 
      · have h24696 : a2.toInt < r24693.toInt := h24696
        refine g_iconst (v := 1) C dX11_isPageOf_25 (by decide) ?_
        refine g_goto C 30 dX11_isPageOf_26 (by decide) ?_
        exact ret _ _ _ _ _ _ dX11_isPageOf_30 rfl (by decide) (by decide) ⟨rfl, (by decide), Or.inr (by omega)⟩
theorem dX11_guard_14 : decode cX11_guard 14 = .ok (.ifCond .eq 10, 3) := by decide +kernel
theorem dX11_guard_17 : decode cX11_guard 17 = .ok (.iload_n 3, 1) := by decide +kernel
theorem dX11_guard_18 : decode cX11_guard 18 = .ok (.invokestatic 213, 3) := by decide +kernel
theorem dX11_guard_21 : decode cX11_guard 21 = .ok (.ifCond .ne 5, 3) := by decide +kernel
theorem dX11_guard_26 : decode cX11_guard 26 = .ok (.aload_n 0, 1) := by decide +kernel
theorem dX11_guard_27 : decode cX11_guard 27 = .ok (.iload_n 1, 1) := by decide +kernel
theorem dX11_guard_28 : decode cX11_guard 28 = .ok (.iload_n 2, 1) := by decide +kernel
theorem dX11_guard_29 : decode cX11_guard 29 = .ok (.iload_n 3, 1) := by decide +kernel
theorem dX11_guard_30 : decode cX11_guard 30 = .ok (.invokevirtual 216, 3) := by decide +kernel
theorem dX11_guard_33 : decode cX11_guard 33 = .ok (.astore 5, 2) := by decide +kernel
theorem dX11_guard_35 : decode cX11_guard 35 = .ok (.aload_n 0, 1) := by decide +kernel
theorem dX11_guard_36 : decode cX11_guard 36 = .ok (.getfield 53, 3) := by decide +kernel
theorem dX11_guard_39 : decode cX11_guard 39 = .ok (.iconst 0, 1) := by decide +kernel
theorem dX11_guard_40 : decode cX11_guard 40 = .ok (.aaload, 1) := by decide +kernel
theorem dX11_guard_41 : decode cX11_guard 41 = .ok (.astore 6, 2) := by decide +kernel
theorem dX11_guard_43 : decode cX11_guard 43 = .ok (.aload 6, 2) := by decide +kernel
theorem dX11_guard_45 : decode cX11_guard 45 = .ok (.aload 5, 2) := by decide +kernel
theorem dX11_guard_47 : decode cX11_guard 47 = .ok (.iconst (-1), 1) := by decide +kernel
theorem dX11_guard_48 : decode cX11_guard 48 = .ok (.invokevirtual 236, 3) := by decide +kernel
theorem dX11_guard_51 : decode cX11_guard 51 = .ok (.aload 6, 2) := by decide +kernel
theorem dX11_guard_53 : decode cX11_guard 53 = .ok (.iload 4, 2) := by decide +kernel
theorem dX11_guard_55 : decode cX11_guard 55 = .ok (.invokevirtual 272, 3) := by decide +kernel
theorem dX11_guard_58 : decode cX11_guard 58 = .ok (.iconst (-1), 1) := by decide +kernel
theorem dX11_guard_59 : decode cX11_guard 59 = .ok (.if_icmp .ne 5, 3) := by decide +kernel
theorem dX11_guard_64 : decode cX11_guard 64 = .ok (.aload 5, 2) := by decide +kernel
theorem dX11_guard_66 : decode cX11_guard 66 = .ok (.aload_n 0, 1) := by decide +kernel
theorem dX11_guard_67 : decode cX11_guard 67 = .ok (.getfield 11, 3) := by decide +kernel
theorem dX11_guard_70 : decode cX11_guard 70 = .ok (.iload_n 2, 1) := by decide +kernel
theorem dX11_guard_71 : decode cX11_guard 71 = .ok (.aaload, 1) := by decide +kernel
theorem dX11_guard_72 : decode cX11_guard 72 = .ok (.iload 4, 2) := by decide +kernel
theorem dX11_guard_74 : decode cX11_guard 74 = .ok (.invokevirtual 275, 3) := by decide +kernel
theorem dX5_fewestGuarding_0 : decode cX5_fewestGuarding 0 = .ok (.aload_n 0, 1) := by decide +kernel
theorem dX5_fewestGuarding_1 : decode cX5_fewestGuarding 1 = .ok (.aload_n 1, 1) := by decide +kernel
theorem dX5_fewestGuarding_2 : decode cX5_fewestGuarding 2 = .ok (.invokevirtual 73, 3) := by decide +kernel
theorem dX5_touchPapers_0 : decode cX5_touchPapers 0 = .ok (.iconst 0, 1) := by decide +kernel
theorem dX5_touchPapers_1 : decode cX5_touchPapers 1 = .ok (.istore_n 2, 1) := by decide +kernel
theorem dX5_touchPapers_2 : decode cX5_touchPapers 2 = .ok (.iload_n 2, 1) := by decide +kernel
theorem dX5_touchPapers_3 : decode cX5_touchPapers 3 = .ok (.bipush 16, 2) := by decide +kernel
theorem dX5_touchPapers_5 : decode cX5_touchPapers 5 = .ok (.if_icmp .ge 16, 3) := by decide +kernel
theorem dX5_touchPapers_8 : decode cX5_touchPapers 8 = .ok (.aload_n 0, 1) := by decide +kernel
theorem dX5_touchPapers_9 : decode cX5_touchPapers 9 = .ok (.getfield 21, 3) := by decide +kernel
theorem dX5_touchPapers_12 : decode cX5_touchPapers 12 = .ok (.iload_n 2, 1) := by decide +kernel
theorem dX5_touchPapers_13 : decode cX5_touchPapers 13 = .ok (.lconst 0, 1) := by decide +kernel
theorem dX5_touchPapers_14 : decode cX5_touchPapers 14 = .ok (.lastore, 1) := by decide +kernel
theorem dX5_touchPapers_15 : decode cX5_touchPapers 15 = .ok (.iinc 2 1, 3) := by decide +kernel
theorem dX5_touchPapers_18 : decode cX5_touchPapers 18 = .ok (.goto (-16), 3) := by decide +kernel
theorem dX5_touchPapers_21 : decode cX5_touchPapers 21 = .ok (.aload_n 0, 1) := by decide +kernel
theorem dX5_touchPapers_22 : decode cX5_touchPapers 22 = .ok (.getfield 50, 3) := by decide +kernel
theorem dX5_touchPapers_25 : decode cX5_touchPapers 25 = .ok (.istore_n 2, 1) := by decide +kernel
theorem dX5_touchPapers_26 : decode cX5_touchPapers 26 = .ok (.iload_n 2, 1) := by decide +kernel
theorem dX5_touchPapers_27 : decode cX5_touchPapers 27 = .ok (.aload_n 0, 1) := by decide +kernel
theorem dX5_touchPapers_28 : decode cX5_touchPapers 28 = .ok (.getfield 25, 3) := by decide +kernel
theorem dX5_touchPapers_31 : decode cX5_touchPapers 31 = .ok (.if_icmp .ge 68, 3) := by decide +kernel
theorem dX5_touchPapers_34 : decode cX5_touchPapers 34 = .ok (.aload_n 1, 1) := by decide +kernel
theorem dX5_touchPapers_35 : decode cX5_touchPapers 35 = .ok (.aload_n 0, 1) := by decide +kernel
theorem dX5_touchPapers_36 : decode cX5_touchPapers 36 = .ok (.getfield 9, 3) := by decide +kernel
theorem dX5_touchPapers_39 : decode cX5_touchPapers 39 = .ok (.iload_n 2, 1) := by decide +kernel
theorem dX5_touchPapers_40 : decode cX5_touchPapers 40 = .ok (.iaload, 1) := by decide +kernel
theorem dX5_touchPapers_41 : decode cX5_touchPapers 41 = .ok (.ldc 53, 2) := by decide +kernel
theorem dX5_touchPapers_43 : decode cX5_touchPapers 43 = .ok (.iand, 1) := by decide +kernel
theorem dX5_touchPapers_44 : decode cX5_touchPapers 44 = .ok (.invokevirtual 77, 3) := by decide +kernel
theorem dX5_touchPapers_47 : decode cX5_touchPapers 47 = .ok (.istore_n 3, 1) := by decide +kernel
theorem dX5_touchPapers_48 : decode cX5_touchPapers 48 = .ok (.iconst 0, 1) := by decide +kernel
theorem dX5_touchPapers_49 : decode cX5_touchPapers 49 = .ok (.istore 4, 2) := by decide +kernel
theorem dX5_touchPapers_51 : decode cX5_touchPapers 51 = .ok (.iload 4, 2) := by decide +kernel
theorem dX5_touchPapers_53 : decode cX5_touchPapers 53 = .ok (.aload_n 1, 1) := by decide +kernel
theorem dX5_touchPapers_54 : decode cX5_touchPapers 54 = .ok (.getfield 43, 3) := by decide +kernel
theorem dX5_touchPapers_57 : decode cX5_touchPapers 57 = .ok (.if_icmp .ge 36, 3) := by decide +kernel
theorem dX5_touchPapers_60 : decode cX5_touchPapers 60 = .ok (.iload_n 3, 1) := by decide +kernel
theorem dX5_touchPapers_61 : decode cX5_touchPapers 61 = .ok (.iload 4, 2) := by decide +kernel
theorem dX5_touchPapers_63 : decode cX5_touchPapers 63 = .ok (.ishr, 1) := by decide +kernel
theorem dX5_touchPapers_64 : decode cX5_touchPapers 64 = .ok (.iconst 1, 1) := by decide +kernel
theorem dX5_touchPapers_65 : decode cX5_touchPapers 65 = .ok (.iand, 1) := by decide +kernel
theorem dX5_touchPapers_66 : decode cX5_touchPapers 66 = .ok (.ifCond .eq 21, 3) := by decide +kernel
theorem dX5_touchPapers_69 : decode cX5_touchPapers 69 = .ok (.aload_n 0, 1) := by decide +kernel
theorem dX5_touchPapers_70 : decode cX5_touchPapers 70 = .ok (.getfield 21, 3) := by decide +kernel
theorem dX5_touchPapers_73 : decode cX5_touchPapers 73 = .ok (.iload 4, 2) := by decide +kernel
theorem dX5_touchPapers_75 : decode cX5_touchPapers 75 = .ok (.dup2, 1) := by decide +kernel
theorem dX5_touchPapers_76 : decode cX5_touchPapers 76 = .ok (.laload, 1) := by decide +kernel
theorem dX5_touchPapers_77 : decode cX5_touchPapers 77 = .ok (.lconst 1, 1) := by decide +kernel
theorem dX5_touchPapers_78 : decode cX5_touchPapers 78 = .ok (.iload_n 2, 1) := by decide +kernel
theorem dX5_touchPapers_79 : decode cX5_touchPapers 79 = .ok (.aload_n 0, 1) := by decide +kernel
theorem dX5_touchPapers_80 : decode cX5_touchPapers 80 = .ok (.getfield 50, 3) := by decide +kernel
theorem dX5_touchPapers_83 : decode cX5_touchPapers 83 = .ok (.isub, 1) := by decide +kernel
theorem dX5_touchPapers_84 : decode cX5_touchPapers 84 = .ok (.lshl, 1) := by decide +kernel
theorem dX5_touchPapers_85 : decode cX5_touchPapers 85 = .ok (.lor, 1) := by decide +kernel
theorem dX5_touchPapers_86 : decode cX5_touchPapers 86 = .ok (.lastore, 1) := by decide +kernel
theorem dX5_touchPapers_87 : decode cX5_touchPapers 87 = .ok (.iinc 4 1, 3) := by decide +kernel
theorem dX5_touchPapers_90 : decode cX5_touchPapers 90 = .ok (.goto (-39), 3) := by decide +kernel
theorem dX5_touchPapers_93 : decode cX5_touchPapers 93 = .ok (.iinc 2 1, 3) := by decide +kernel
theorem dX5_touchPapers_96 : decode cX5_touchPapers 96 = .ok (.goto (-70), 3) := by decide +kernel
theorem dX5_touchPapers_99 : decode cX5_touchPapers 99 = .ok (.return_, 1) := by decide +kernel
set_option maxHeartbeats 4000000 in
set_option maxRecDepth 100000 in
theorem s_X5_touchPapers {P : PP} {a0 : Nat} {a1 : Nat} (I : IV P) (ha0 : At P a0 5) (ha1 : At P a1 1) : CtrV yX5_touchPapers cX5_touchPapers 5 none ({ frames := 2, cells := 0, slots := 0, locals := 128 } : Room) 0 0 P [.ref a0, .ref a1] (fun P2 => IV P2 ∧ EK [] P P2) := by
  refine enV (lv := [(0, .ref a0), (1, .ref a1)]) (by decide) (Nat.le_of_ble_eq_true rfl) rfl (fun E D cy C Ci0 ret => ?_)
  have J26 : ∀ (n26 : Nat) (P26 : PP) (v26_2 : Int32), (44 - v26_2.toInt).toNat < n26 → (IV P26) → (EK [] P P26) → (0 ≤ v26_2.toInt ∧ v26_2.toInt ≤ 44) → G E ({ frames := 2, cells := 0, slots := 0, locals := 128 } : Room) D cy 5 P26 0 0 26 [(0, .ref a0), (1, .ref a1), (2, .int v26_2)] [] := by
    intro n26
    induction n26 with
    | zero => intro P26 v26_2 hm26 I26 X26 hv26_2; omega
    | succ n26 ih26 =>
      intro P26 v26_2 hm26 I26 X26 hv26_2
      have h25279 := X26.at ha0
      have h25280 := X26.at ha1
      have J51 : ∀ (n51 : Nat) (P51 : PP) (v51_3 : Int32) (v51_4 : Int32), (16 - v51_4.toInt).toNat < n51 → (IV P51) → (EK [] P P51) → (0 ≤ v26_2.toInt ∧ v26_2.toInt ≤ 43) → (0 ≤ v51_4.toInt ∧ v51_4.toInt ≤ 16) → (1 ≤ (pI P51 a0 4).toInt ∧ (pI P51 a0 4).toInt ≤ 44) → G E ({ frames := 2, cells := 0, slots := 0, locals := 128 } : Room) D cy 5 P51 0 0 51 [(0, .ref a0), (1, .ref a1), (2, .int v26_2), (3, .int v51_3), (4, .int v51_4)] [] := by
        intro n51
        induction n51 with
        | zero => intro P51 v51_3 v51_4 hm51 I51 X51 hv51_2 hv51_4 hq51_0; omega
        | succ n51 ih51 =>
          intro P51 v51_3 v51_4 hm51 I51 X51 hv51_2 hv51_4 hq51_0
          have h25281 := X51.at ha0
          have h25282 := X51.at ha1
          have J87 : ∀ (P87 : PP), (IV P87) → (EK [] P P87) → (0 ≤ v26_2.toInt ∧ v26_2.toInt ≤ 43) → (0 ≤ v51_4.toInt ∧ v51_4.toInt ≤ 15) → (1 ≤ (pI P87 a0 4).toInt ∧ (pI P87 a0 4).toInt ≤ 44) → (1 ≤ (pI P87 a1 5).toInt ∧ (pI P87 a1 5).toInt ≤ 16) → G E ({ frames := 2, cells := 0, slots := 0, locals := 128 } : Room) D cy 5 P87 0 0 87 [(0, .ref a0), (1, .ref a1), (2, .int v26_2), (3, .int v51_3), (4, .int v51_4)] [] := by
            intro P87 I87 X87 hv87_2 hv87_4 hq87_0 hq87_1
            have h25283 := X87.at ha0
            have h25284 := X87.at ha1
            refine s_iinc (lv0 := [(0, .ref a0), (1, .ref a1), (2, .int v26_2), (3, .int v51_3)]) (m := 1) C dX5_touchPapers_87 4 rfl (by decide) rfl (by decide) (by omega) (fun z25285 h25286 => ?_)
            have h25286 : z25285.toInt = v51_4.toInt + 1 := h25286
            refine g_goto C 51 dX5_touchPapers_90 (by decide) ?_
            refine g_lv (lv' := [(0, .ref a0), (1, .ref a1), (2, .int v26_2), (3, .int v51_3), (4, .int z25285)]) [1, 2, 3, 4, 0] rfl ?_
            exact ih51 P87 v51_3 z25285 (by omega) I87 X87 (by omega) (by omega) (by omega)
          refine g_iload C dX5_touchPapers_51 4 rfl ?_
          refine g_aload_n C dX5_touchPapers_53 rfl 1 rfl ?_
          refine g_getI C fi_X5_43 (by decide) (h25282).1 (h25282).2 dX5_touchPapers_54 ?_
          have h25287 := I51.rg (h25282) 5 rfl
          refine b_icmp_ge C 93 dX5_touchPapers_57 (by decide) (fun h25288 => ?_) (fun h25288 => ?_)
          · have h25288 : (pI P51 a1 5).toInt ≤ v51_4.toInt := h25288
            refine s_iinc (lv0 := [(0, .ref a0), (1, .ref a1), (3, .int v51_3), (4, .int v51_4)]) (m := 1) C dX5_touchPapers_93 2 rfl (by decide) rfl (by decide) (by omega) (fun z25289 h25290 => ?_)
            have h25290 : z25289.toInt = v26_2.toInt + 1 := h25290
            refine g_goto C 26 dX5_touchPapers_96 (by decide) ?_
            refine g_lv (lv' := [(0, .ref a0), (1, .ref a1), (2, .int z25289)]) [1, 2, 0] rfl ?_
            exact ih26 P51 z25289 (by omega) I51 X51 (by omega)
          · have h25288 : v51_4.toInt < (pI P51 a1 5).toInt := h25288
            refine g_iload_n C dX5_touchPapers_60 rfl 3 rfl ?_
            refine g_iload C dX5_touchPapers_61 4 rfl ?_
            refine a_ishr C dX5_touchPapers_63 (fun z25291 => ?_)
            refine g_iconst (v := 1) C dX5_touchPapers_64 (by decide) ?_
            refine s_iand C dX5_touchPapers_65 (by show 0 ≤ 1; omega) (fun z25293 h25294 => ?_)
            have h25294 : 0 ≤ z25293.toInt ∧ z25293.toInt ≤ 1 := h25294
            refine b_if_eq C 87 dX5_touchPapers_66 (by decide) (fun h25295 => ?_) (fun h25295 => ?_)
            · have h25295 : z25293.toInt = 0 := congrArg Int32.toInt h25295
              exact J87 P51 I51 X51 (by omega) (by omega) (by omega) (by omega)
            · have h25295 : z25293.toInt ≠ 0 := ti_ne h25295
              refine g_aload_n C dX5_touchPapers_69 rfl 0 rfl ?_
              obtain ⟨b25296, e25297, h25298⟩ := I51.fld (h25281) 3 14 16 rfl
              refine g_getR C fi_X5_21 rfl e25297 (h25281).1 (h25281).2 dX5_touchPapers_70 ?_
              refine g_iload C dX5_touchPapers_73 4 rfl ?_
              refine g_dup2_11 C dX5_touchPapers_75 rfl rfl ?_
              refine g_lald (j := (v51_4.toInt.toNat)) C h25298.1 h25298.2.1 (ix_in h25298.2.2 (by omega)) dX5_touchPapers_76 ?_
              refine g_topl (fun l25299 _ => ?_)
              refine g_lconst (v := 1) C dX5_touchPapers_77 (by decide) ?_
              refine g_iload_n C dX5_touchPapers_78 rfl 2 rfl ?_
              refine g_aload_n C dX5_touchPapers_79 rfl 0 rfl ?_
              refine g_getI C fi_X5_50 (by decide) (h25281).1 (h25281).2 dX5_touchPapers_80 ?_
              have h25300 := I51.rg (h25281) 5 rfl
              refine s_isub C dX5_touchPapers_83 (by show -2147483648 ≤ v26_2.toInt - (pI P51 a0 5).toInt ∧ v26_2.toInt - (pI P51 a0 5).toInt ≤ 2147483647; omega) (fun z25301 h25302 => ?_)
              have h25302 : z25301.toInt = v26_2.toInt - (pI P51 a0 5).toInt := h25302
              refine a_lshl C dX5_touchPapers_84 (fun l25303 => ?_)
              refine a_lor C dX5_touchPapers_85 (fun l25304 => ?_)
              refine g_last (j := (v51_4.toInt.toNat)) C h25298.1 h25298.2.1 (ix_in h25298.2.2 (by omega)) dX5_touchPapers_86 ?_
              refine gp (ks := []) (I51.setJ) (EK.setJ) (fun Y25305 Iy25306 Xy25307 => ?_)
              have q25308 := Xy25307.keep h25281 (by decide) 4
              have q25309 := Xy25307.keep h25282 (by decide) 5
              have q25310 := Xy25307.keep h25281 (by decide) 5
              have Xz25311 : EK [] P Y25305 := X51.tr (Xy25307.mono (by decide))
              have h25312 := Xy25307.at h25281
              have h25313 := Xy25307.at h25282
              exact J87 Y25305 Iy25306 Xz25311 (by omega) (by omega) (by omega) (by omega)
      refine g_iload_n C dX5_touchPapers_26 rfl 2 rfl ?_
      refine g_aload_n C dX5_touchPapers_27 rfl 0 rfl ?_
      refine g_getI C fi_X5_25 (by decide) (h25279).1 (h25279).2 dX5_touchPapers_28 ?_
      have h25314 := I26.rg (h25279) 4 rfl
      refine b_icmp_ge C 99 dX5_touchPapers_31 (by decide) (fun h25315 => ?_) (fun h25315 => ?_)
      · have h25315 : (pI P26 a0 4).toInt ≤ v26_2.toInt := h25315
        exact ret _ _ _ _ _ dX5_touchPapers_99 (by decide) (by decide) ⟨I26, X26⟩
      · have h25315 : v26_2.toInt < (pI P26 a0 4).toInt := h25315
        refine g_aload_n C dX5_touchPapers_34 rfl 1 rfl ?_
        refine g_aload_n C dX5_touchPapers_35 rfl 0 rfl ?_
        obtain ⟨b25316, e25317, h25318⟩ := I26.fld (h25279) 0 13 44 rfl
        refine g_getR C fi_X5_9 rfl e25317 (h25279).1 (h25279).2 dX5_touchPapers_36 ?_
        refine g_iload_n C dX5_touchPapers_39 rfl 2 rfl ?_
        refine g_iald (j := (v26_2.toInt.toNat)) C h25318.1 h25318.2.1 (ix_in h25318.2.2 (by omega)) dX5_touchPapers_40 ?_
        refine g_topi (fun z25319 _ => ?_)
        refine g_ldc (v := 1048575) C kc_X5_53 dX5_touchPapers_41 ?_
        refine s_iand C dX5_touchPapers_43 (by show 0 ≤ 1048575; omega) (fun z25320 h25321 => ?_)
        have h25321 : 0 ≤ z25320.toInt ∧ z25320.toInt ≤ 1048575 := h25321
        refine g_callVI (rest := []) C mv_X5_77 [.int z25320] (s_X1_withoutHidden I26 h25280) (h25280).1 (h25280).2 rfl rfl (by decide) (Nat.le_of_ble_eq_true rfl) (by decide) dX5_touchPapers_44 (fun r25322 Y25323 h25324 => ?_)
        obtain ⟨rfl, h25324⟩ := h25324
        have h25324 : True := h25324
        refine g_istore_n (lv' := [(3, .int r25322), (0, .ref a0), (1, .ref a1), (2, .int v26_2)]) C dX5_touchPapers_47 rfl (by decide) rfl ?_
        refine g_iconst (v := 0) C dX5_touchPapers_48 (by decide) ?_
        refine g_istore (lv' := [(4, .int 0), (3, .int r25322), (0, .ref a0), (1, .ref a1), (2, .int v26_2)]) C dX5_touchPapers_49 (by decide) rfl ?_
        refine g_lv (lv' := [(0, .ref a0), (1, .ref a1), (2, .int v26_2), (3, .int r25322), (4, .int 0)]) [2, 3, 4, 1, 0] rfl ?_
        exact J51 _ P26 r25322 0 (Nat.lt_succ_self _) I26 X26 (by omega) (by decide) (by omega)
  have J2 : ∀ (n2 : Nat) (P2 : PP) (v2_2 : Int32), (16 - v2_2.toInt).toNat < n2 → (IV P2) → (EK [] P P2) → (0 ≤ v2_2.toInt ∧ v2_2.toInt ≤ 16) → G E ({ frames := 2, cells := 0, slots := 0, locals := 128 } : Room) D cy 5 P2 0 0 2 [(0, .ref a0), (1, .ref a1), (2, .int v2_2)] [] := by
    intro n2
    induction n2 with
    | zero => intro P2 v2_2 hm2 I2 X2 hv2_2; omega
    | succ n2 ih2 =>
      intro P2 v2_2 hm2 I2 X2 hv2_2
      have h25325 := X2.at ha0
      have h25326 := X2.at ha1
      refine g_iload_n C dX5_touchPapers_2 rfl 2 rfl ?_
      refine g_bipush (v := 16) C dX5_touchPapers_3 (by decide) ?_
      refine b_icmp_ge C 21 dX5_touchPapers_5 (by decide) (fun h25327 => ?_) (fun h25327 => ?_)
      · have h25327 : 16 ≤ v2_2.toInt := h25327
        refine g_aload_n C dX5_touchPapers_21 rfl 0 rfl ?_
        refine g_getI C fi_X5_50 (by decide) (h25325).1 (h25325).2 dX5_touchPapers_22 ?_
        have h25328 := I2.rg (h25325) 5 rfl
        refine g_topi (fun z25329 h25330 => ?_)
        have h25330 : z25329.toInt = (pI P2 a0 5).toInt := congrArg Int32.toInt h25330
        refine g_istore_n (lv' := [(2, .int z25329), (0, .ref a0), (1, .ref a1)]) C dX5_touchPapers_25 rfl (by decide) rfl ?_
        refine g_lv (lv' := [(0, .ref a0), (1, .ref a1), (2, .int z25329)]) [1, 2, 0] rfl ?_
        exact J26 _ P2 z25329 (Nat.lt_succ_self _) I2 X2 (by omega)
      · have h25327 : v2_2.toInt < 16 := h25327
        refine g_aload_n C dX5_touchPapers_8 rfl 0 rfl ?_
        obtain ⟨b25331, e25332, h25333⟩ := I2.fld (h25325) 3 14 16 rfl
        refine g_getR C fi_X5_21 rfl e25332 (h25325).1 (h25325).2 dX5_touchPapers_9 ?_
        refine g_iload_n C dX5_touchPapers_12 rfl 2 rfl ?_
        refine g_lconst (v := 0) C dX5_touchPapers_13 (by decide) ?_
        refine g_last (j := (v2_2.toInt.toNat)) C h25333.1 h25333.2.1 (ix_in h25333.2.2 (by omega)) dX5_touchPapers_14 ?_
        refine gp (ks := []) (I2.setJ) (EK.setJ) (fun Y25334 Iy25335 Xy25336 => ?_)
        have Xz25337 : EK [] P Y25334 := X2.tr (Xy25336.mono (by decide))
        have h25338 := Xy25336.at h25325
        have h25339 := Xy25336.at h25326
        refine s_iinc (lv0 := [(0, .ref a0), (1, .ref a1)]) (m := 1) C dX5_touchPapers_15 2 rfl (by decide) rfl (by decide) (by omega) (fun z25340 h25341 => ?_)
        have h25341 : z25340.toInt = v2_2.toInt + 1 := h25341
        refine g_goto C 2 dX5_touchPapers_18 (by decide) ?_
        refine g_lv (lv' := [(0, .ref a0), (1, .ref a1), (2, .int z25340)]) [1, 2, 0] rfl ?_
        exact ih2 Y25334 z25340 (by omega) Iy25335 Xz25337 (by omega)
  refine g_iconst (v := 0) C dX5_touchPapers_0 (by decide) ?_
  refine g_istore_n (lv' := [(2, .int 0), (0, .ref a0), (1, .ref a1)]) C dX5_touchPapers_1 rfl (by decide) rfl ?_
  refine g_lv (lv' := [(0, .ref a0), (1, .ref a1), (2, .int 0)]) [1, 2, 0] rfl ?_
  exact J2 _ P 0 (Nat.lt_succ_self _) I EK.rf (by decide)
theorem dX5_fewestGuarding_5 : decode cX5_fewestGuarding 5 = .ok (.aload_n 1, 1) := by decide +kernel
theorem dX5_fewestGuarding_6 : decode cX5_fewestGuarding 6 = .ok (.iconst 1, 1) := by decide +kernel
theorem dX5_fewestGuarding_7 : decode cX5_fewestGuarding 7 = .ok (.iload_n 2, 1) := by decide +kernel
theorem dX5_fewestGuarding_8 : decode cX5_fewestGuarding 8 = .ok (.ishl, 1) := by decide +kernel
theorem dX5_fewestGuarding_9 : decode cX5_fewestGuarding 9 = .ok (.invokevirtual 77, 3) := by decide +kernel
theorem dX5_fewestGuarding_12 : decode cX5_fewestGuarding 12 = .ok (.istore_n 3, 1) := by decide +kernel
theorem dX5_fewestGuarding_13 : decode cX5_fewestGuarding 13 = .ok (.iload_n 3, 1) := by decide +kernel
theorem dX5_fewestGuarding_14 : decode cX5_fewestGuarding 14 = .ok (.invokestatic 62, 3) := by decide +kernel
theorem dX11_lowestPlace_0 : decode cX11_lowestPlace 0 = .ok (.iload_n 0, 1) := by decide +kernel
theorem dX11_lowestPlace_1 : decode cX11_lowestPlace 1 = .ok (.iload_n 0, 1) := by decide +kernel
theorem dX11_lowestPlace_2 : decode cX11_lowestPlace 2 = .ok (.ineg, 1) := by decide +kernel
theorem dX11_lowestPlace_3 : decode cX11_lowestPlace 3 = .ok (.iand, 1) := by decide +kernel
theorem dX11_lowestPlace_4 : decode cX11_lowestPlace 4 = .ok (.iconst 1, 1) := by decide +kernel
theorem dX11_lowestPlace_5 : decode cX11_lowestPlace 5 = .ok (.isub, 1) := by decide +kernel
theorem dX11_lowestPlace_6 : decode cX11_lowestPlace 6 = .ok (.invokestatic 150, 3) := by decide +kernel
theorem dJ6_bitCount_0f7a4_0 : decode cJ6_bitCount_0f7a4 0 = .ok (.iload_n 0, 1) := by decide +kernel
theorem dJ6_bitCount_0f7a4_1 : decode cJ6_bitCount_0f7a4 1 = .ok (.iload_n 0, 1) := by decide +kernel
theorem dJ6_bitCount_0f7a4_2 : decode cJ6_bitCount_0f7a4 2 = .ok (.iconst 1, 1) := by decide +kernel
theorem dJ6_bitCount_0f7a4_3 : decode cJ6_bitCount_0f7a4 3 = .ok (.iushr, 1) := by decide +kernel
theorem dJ6_bitCount_0f7a4_4 : decode cJ6_bitCount_0f7a4 4 = .ok (.ldc_w 265, 3) := by decide +kernel
theorem dJ6_bitCount_0f7a4_7 : decode cJ6_bitCount_0f7a4 7 = .ok (.iand, 1) := by decide +kernel
theorem dJ6_bitCount_0f7a4_8 : decode cJ6_bitCount_0f7a4 8 = .ok (.isub, 1) := by decide +kernel
theorem dJ6_bitCount_0f7a4_9 : decode cJ6_bitCount_0f7a4 9 = .ok (.istore_n 0, 1) := by decide +kernel
theorem dJ6_bitCount_0f7a4_10 : decode cJ6_bitCount_0f7a4 10 = .ok (.iload_n 0, 1) := by decide +kernel
theorem dJ6_bitCount_0f7a4_11 : decode cJ6_bitCount_0f7a4 11 = .ok (.ldc_w 266, 3) := by decide +kernel
theorem dJ6_bitCount_0f7a4_14 : decode cJ6_bitCount_0f7a4 14 = .ok (.iand, 1) := by decide +kernel
theorem dJ6_bitCount_0f7a4_15 : decode cJ6_bitCount_0f7a4 15 = .ok (.iload_n 0, 1) := by decide +kernel
theorem dJ6_bitCount_0f7a4_16 : decode cJ6_bitCount_0f7a4 16 = .ok (.iconst 2, 1) := by decide +kernel
theorem dJ6_bitCount_0f7a4_17 : decode cJ6_bitCount_0f7a4 17 = .ok (.iushr, 1) := by decide +kernel
theorem dJ6_bitCount_0f7a4_18 : decode cJ6_bitCount_0f7a4 18 = .ok (.ldc_w 266, 3) := by decide +kernel
theorem dJ6_bitCount_0f7a4_21 : decode cJ6_bitCount_0f7a4 21 = .ok (.iand, 1) := by decide +kernel
theorem dJ6_bitCount_0f7a4_22 : decode cJ6_bitCount_0f7a4 22 = .ok (.iadd, 1) := by decide +kernel
theorem dJ6_bitCount_0f7a4_23 : decode cJ6_bitCount_0f7a4 23 = .ok (.istore_n 0, 1) := by decide +kernel
theorem dJ6_bitCount_0f7a4_24 : decode cJ6_bitCount_0f7a4 24 = .ok (.iload_n 0, 1) := by decide +kernel
theorem dJ6_bitCount_0f7a4_25 : decode cJ6_bitCount_0f7a4 25 = .ok (.iload_n 0, 1) := by decide +kernel
theorem dJ6_bitCount_0f7a4_26 : decode cJ6_bitCount_0f7a4 26 = .ok (.iconst 4, 1) := by decide +kernel
theorem dJ6_bitCount_0f7a4_27 : decode cJ6_bitCount_0f7a4 27 = .ok (.iushr, 1) := by decide +kernel
theorem dJ6_bitCount_0f7a4_28 : decode cJ6_bitCount_0f7a4 28 = .ok (.iadd, 1) := by decide +kernel
theorem dJ6_bitCount_0f7a4_29 : decode cJ6_bitCount_0f7a4 29 = .ok (.ldc_w 267, 3) := by decide +kernel
theorem dJ6_bitCount_0f7a4_32 : decode cJ6_bitCount_0f7a4 32 = .ok (.iand, 1) := by decide +kernel
theorem dJ6_bitCount_0f7a4_33 : decode cJ6_bitCount_0f7a4 33 = .ok (.istore_n 0, 1) := by decide +kernel
theorem dJ6_bitCount_0f7a4_34 : decode cJ6_bitCount_0f7a4 34 = .ok (.iload_n 0, 1) := by decide +kernel
theorem dJ6_bitCount_0f7a4_35 : decode cJ6_bitCount_0f7a4 35 = .ok (.iload_n 0, 1) := by decide +kernel
theorem dJ6_bitCount_0f7a4_36 : decode cJ6_bitCount_0f7a4 36 = .ok (.bipush 8, 2) := by decide +kernel
theorem dJ6_bitCount_0f7a4_38 : decode cJ6_bitCount_0f7a4 38 = .ok (.iushr, 1) := by decide +kernel
theorem dJ6_bitCount_0f7a4_39 : decode cJ6_bitCount_0f7a4 39 = .ok (.iadd, 1) := by decide +kernel
theorem dJ6_bitCount_0f7a4_40 : decode cJ6_bitCount_0f7a4 40 = .ok (.istore_n 0, 1) := by decide +kernel
theorem dJ6_bitCount_0f7a4_41 : decode cJ6_bitCount_0f7a4 41 = .ok (.iload_n 0, 1) := by decide +kernel
theorem dJ6_bitCount_0f7a4_42 : decode cJ6_bitCount_0f7a4 42 = .ok (.iload_n 0, 1) := by decide +kernel
theorem dJ6_bitCount_0f7a4_43 : decode cJ6_bitCount_0f7a4 43 = .ok (.bipush 16, 2) := by decide +kernel
theorem dJ6_bitCount_0f7a4_45 : decode cJ6_bitCount_0f7a4 45 = .ok (.iushr, 1) := by decide +kernel
theorem dJ6_bitCount_0f7a4_46 : decode cJ6_bitCount_0f7a4 46 = .ok (.iadd, 1) := by decide +kernel
theorem dJ6_bitCount_0f7a4_47 : decode cJ6_bitCount_0f7a4 47 = .ok (.istore_n 0, 1) := by decide +kernel
theorem dJ6_bitCount_0f7a4_48 : decode cJ6_bitCount_0f7a4 48 = .ok (.iload_n 0, 1) := by decide +kernel
theorem dJ6_bitCount_0f7a4_49 : decode cJ6_bitCount_0f7a4 49 = .ok (.bipush 63, 2) := by decide +kernel
theorem dJ6_bitCount_0f7a4_51 : decode cJ6_bitCount_0f7a4 51 = .ok (.iand, 1) := by decide +kernel
theorem dJ6_bitCount_0f7a4_52 : decode cJ6_bitCount_0f7a4 52 = .ok (.ireturn, 1) := by decide +kernel
set_option maxHeartbeats 4000000 in
set_option maxRecDepth 100000 in
theorem s_J6_bitCount_0f7a4 {P : PP} {a0 : Int32} (I : IV P) : CtrI yJ6_bitCount_0f7a4 cJ6_bitCount_0f7a4 1 (some Jvm.ClassFile.FieldType.int) ({ frames := 1, cells := 0, slots := 0, locals := 64 } : Room) 0 0 P [.int a0] (fun r P2 => P = P2 ∧ (0 ≤ r.toInt ∧ r.toInt ≤ 63) ∧ (r = bcF a0)) := by
  refine enI (lv := [(0, .int a0)]) (by decide) (Nat.le_of_ble_eq_true rfl) rfl (fun E D cy C Ci0 ret => ?_)
  refine g_iload_n C dJ6_bitCount_0f7a4_0 rfl 0 rfl ?_
  refine g_iload_n C dJ6_bitCount_0f7a4_1 rfl 0 rfl ?_
  refine g_iconst (v := 1) C dJ6_bitCount_0f7a4_2 (by decide) ?_
  refine g_iushr C dJ6_bitCount_0f7a4_3 rfl ?_
  refine g_topi (fun z25392 h25393 => ?_)
  refine g_ldcw (v := 1431655765) C kc_J6_265 dJ6_bitCount_0f7a4_4 ?_
  refine g_iand C dJ6_bitCount_0f7a4_7 ?_
  refine g_topi (fun z25394 h25395 => ?_)
  refine g_isub C dJ6_bitCount_0f7a4_8 ?_
  refine g_topi (fun z25396 h25397 => ?_)
  refine g_istore_n (lv' := [(0, .int z25396)]) C dJ6_bitCount_0f7a4_9 rfl (by decide) rfl ?_
  refine g_iload_n C dJ6_bitCount_0f7a4_10 rfl 0 rfl ?_
  refine g_ldcw (v := 858993459) C kc_J6_266 dJ6_bitCount_0f7a4_11 ?_
  refine g_iand C dJ6_bitCount_0f7a4_14 ?_
  refine g_topi (fun z25398 h25399 => ?_)
  refine g_iload_n C dJ6_bitCount_0f7a4_15 rfl 0 rfl ?_
  refine g_iconst (v := 2) C dJ6_bitCount_0f7a4_16 (by decide) ?_
  refine g_iushr C dJ6_bitCount_0f7a4_17 rfl ?_
  refine g_topi (fun z25400 h25401 => ?_)
  refine g_ldcw (v := 858993459) C kc_J6_266 dJ6_bitCount_0f7a4_18 ?_
  refine g_iand C dJ6_bitCount_0f7a4_21 ?_
  refine g_topi (fun z25402 h25403 => ?_)
  refine g_iadd C dJ6_bitCount_0f7a4_22 ?_
  refine g_topi (fun z25404 h25405 => ?_)
  refine g_istore_n (lv' := [(0, .int z25404)]) C dJ6_bitCount_0f7a4_23 rfl (by decide) rfl ?_
  refine g_iload_n C dJ6_bitCount_0f7a4_24 rfl 0 rfl ?_
  refine g_iload_n C dJ6_bitCount_0f7a4_25 rfl 0 rfl ?_
  refine g_iconst (v := 4) C dJ6_bitCount_0f7a4_26 (by decide) ?_
  refine g_iushr C dJ6_bitCount_0f7a4_27 rfl ?_
  refine g_topi (fun z25406 h25407 => ?_)
  refine g_iadd C dJ6_bitCount_0f7a4_28 ?_
  refine g_topi (fun z25408 h25409 => ?_)
  refine g_ldcw (v := 252645135) C kc_J6_267 dJ6_bitCount_0f7a4_29 ?_
  refine g_iand C dJ6_bitCount_0f7a4_32 ?_
  refine g_topi (fun z25410 h25411 => ?_)
  refine g_istore_n (lv' := [(0, .int z25410)]) C dJ6_bitCount_0f7a4_33 rfl (by decide) rfl ?_
  refine g_iload_n C dJ6_bitCount_0f7a4_34 rfl 0 rfl ?_
  refine g_iload_n C dJ6_bitCount_0f7a4_35 rfl 0 rfl ?_
  refine g_bipush (v := 8) C dJ6_bitCount_0f7a4_36 (by decide) ?_
  refine g_iushr C dJ6_bitCount_0f7a4_38 rfl ?_
  refine g_topi (fun z25412 h25413 => ?_)
  refine g_iadd C dJ6_bitCount_0f7a4_39 ?_
  refine g_topi (fun z25414 h25415 => ?_)
  refine g_istore_n (lv' := [(0, .int z25414)]) C dJ6_bitCount_0f7a4_40 rfl (by decide) rfl ?_
  refine g_iload_n C dJ6_bitCount_0f7a4_41 rfl 0 rfl ?_
  refine g_iload_n C dJ6_bitCount_0f7a4_42 rfl 0 rfl ?_
  refine g_bipush (v := 16) C dJ6_bitCount_0f7a4_43 (by decide) ?_
  refine g_iushr C dJ6_bitCount_0f7a4_45 rfl ?_
  refine g_topi (fun z25416 h25417 => ?_)
  refine g_iadd C dJ6_bitCount_0f7a4_46 ?_
  refine g_topi (fun z25418 h25419 => ?_)
  refine g_istore_n (lv' := [(0, .int z25418)]) C dJ6_bitCount_0f7a4_47 rfl (by decide) rfl ?_
  refine g_iload_n C dJ6_bitCount_0f7a4_48 rfl 0 rfl ?_
  refine g_bipush (v := 63) C dJ6_bitCount_0f7a4_49 (by decide) ?_
  refine g_iand C dJ6_bitCount_0f7a4_51 ?_
  refine g_topi (fun z25420 h25421 => ?_)
  have h25422 : 0 ≤ z25420.toInt ∧ z25420.toInt ≤ 63 := by rw [h25421]; exact i_and (by decide)
  exact ret _ _ _ _ _ _ dJ6_bitCount_0f7a4_52 rfl (by decide) (by decide) ⟨rfl, (by omega), (by subst_vars; rfl)⟩
theorem dX11_lowestPlace_9 : decode cX11_lowestPlace 9 = .ok (.ireturn, 1) := by decide +kernel
set_option maxHeartbeats 4000000 in
set_option maxRecDepth 100000 in
theorem s_X11_lowestPlace {P : PP} {a0 : Int32} (I : IV P) : CtrI yX11_lowestPlace cX11_lowestPlace 1 (some Jvm.ClassFile.FieldType.int) ({ frames := 2, cells := 0, slots := 0, locals := 128 } : Room) 0 0 P [.int a0] (fun r P2 => P = P2 ∧ (0 ≤ r.toInt ∧ r.toInt ≤ 63) ∧ (r = lpF a0)) := by
  refine enI (lv := [(0, .int a0)]) (by decide) (Nat.le_of_ble_eq_true rfl) rfl (fun E D cy C Ci0 ret => ?_)
  refine g_iload_n C dX11_lowestPlace_0 rfl 0 rfl ?_
  refine g_iload_n C dX11_lowestPlace_1 rfl 0 rfl ?_
  refine g_ineg C dX11_lowestPlace_2 ?_
  refine g_topi (fun z25433 h25434 => ?_)
  refine g_iand C dX11_lowestPlace_3 ?_
  refine g_topi (fun z25435 h25436 => ?_)
  refine g_iconst (v := 1) C dX11_lowestPlace_4 (by decide) ?_
  refine g_isub C dX11_lowestPlace_5 ?_
  refine g_topi (fun z25437 h25438 => ?_)
  refine g_callSI (b := 0) (ci := 0) (rest := []) C ms_X11_150 [.int z25437] (s_J6_bitCount_0f7a4 I) rfl rfl (by decide) (Nat.le_of_ble_eq_true rfl) (by decide) dX11_lowestPlace_6 (fun r25439 Y25440 h25441 => ?_)
  obtain ⟨rfl, h25441⟩ := h25441
  obtain ⟨h25441, hi25442⟩ := h25441
  have hi25442 : r25439 = bcF z25437 := hi25442
  have h25441 : 0 ≤ r25439.toInt ∧ r25439.toInt ≤ 63 := h25441
  exact ret _ _ _ _ _ _ dX11_lowestPlace_9 rfl (by decide) (by decide) ⟨rfl, (by omega), (by subst_vars; rfl)⟩
theorem dX5_fewestGuarding_17 : decode cX5_fewestGuarding 17 = .ok (.istore 4, 2) := by decide +kernel
theorem dX5_fewestGuarding_19 : decode cX5_fewestGuarding 19 = .ok (.aload_n 1, 1) := by decide +kernel
theorem dX5_fewestGuarding_20 : decode cX5_fewestGuarding 20 = .ok (.getfield 43, 3) := by decide +kernel
theorem dX5_fewestGuarding_23 : decode cX5_fewestGuarding 23 = .ok (.iconst 1, 1) := by decide +kernel
theorem dX5_fewestGuarding_24 : decode cX5_fewestGuarding 24 = .ok (.isub, 1) := by decide +kernel
theorem dX5_fewestGuarding_25 : decode cX5_fewestGuarding 25 = .ok (.istore 5, 2) := by decide +kernel
theorem dX5_fewestGuarding_27 : decode cX5_fewestGuarding 27 = .ok (.iload 4, 2) := by decide +kernel
theorem dX5_fewestGuarding_29 : decode cX5_fewestGuarding 29 = .ok (.iload 5, 2) := by decide +kernel
theorem dX5_fewestGuarding_31 : decode cX5_fewestGuarding 31 = .ok (.if_icmp .gt 10, 3) := by decide +kernel
theorem dX5_fewestGuarding_34 : decode cX5_fewestGuarding 34 = .ok (.iload 5, 2) := by decide +kernel
theorem dX5_fewestGuarding_36 : decode cX5_fewestGuarding 36 = .ok (.bipush 16, 2) := by decide +kernel
theorem dX5_fewestGuarding_38 : decode cX5_fewestGuarding 38 = .ok (.if_icmp .lt 5, 3) := by decide +kernel
theorem dX5_fewestGuarding_41 : decode cX5_fewestGuarding 41 = .ok (.iconst (-1), 1) := by decide +kernel
theorem dX5_fewestGuarding_42 : decode cX5_fewestGuarding 42 = .ok (.ireturn, 1) := by decide +kernel
theorem dX5_fewestGuarding_43 : decode cX5_fewestGuarding 43 = .ok (.aload_n 0, 1) := by decide +kernel
theorem dX5_fewestGuarding_44 : decode cX5_fewestGuarding 44 = .ok (.getfield 21, 3) := by decide +kernel
theorem dX5_fewestGuarding_47 : decode cX5_fewestGuarding 47 = .ok (.iload 4, 2) := by decide +kernel
theorem dX5_fewestGuarding_49 : decode cX5_fewestGuarding 49 = .ok (.laload, 1) := by decide +kernel
theorem dX5_fewestGuarding_50 : decode cX5_fewestGuarding 50 = .ok (.lstore 6, 2) := by decide +kernel
theorem dX5_fewestGuarding_52 : decode cX5_fewestGuarding 52 = .ok (.iconst 0, 1) := by decide +kernel
theorem dX5_fewestGuarding_53 : decode cX5_fewestGuarding 53 = .ok (.istore 8, 2) := by decide +kernel
theorem dX5_fewestGuarding_55 : decode cX5_fewestGuarding 55 = .ok (.iload 8, 2) := by decide +kernel
theorem dX5_fewestGuarding_57 : decode cX5_fewestGuarding 57 = .ok (.iload 5, 2) := by decide +kernel
theorem dX5_fewestGuarding_59 : decode cX5_fewestGuarding 59 = .ok (.if_icmp .gt 37, 3) := by decide +kernel
theorem dX5_fewestGuarding_62 : decode cX5_fewestGuarding 62 = .ok (.iload 8, 2) := by decide +kernel
theorem dX5_fewestGuarding_64 : decode cX5_fewestGuarding 64 = .ok (.iload 4, 2) := by decide +kernel
theorem dX5_fewestGuarding_66 : decode cX5_fewestGuarding 66 = .ok (.if_icmp .eq 24, 3) := by decide +kernel
theorem dX5_fewestGuarding_69 : decode cX5_fewestGuarding 69 = .ok (.iload_n 3, 1) := by decide +kernel
theorem dX5_fewestGuarding_70 : decode cX5_fewestGuarding 70 = .ok (.iload 8, 2) := by decide +kernel
theorem dX5_fewestGuarding_72 : decode cX5_fewestGuarding 72 = .ok (.ishr, 1) := by decide +kernel
theorem dX5_fewestGuarding_73 : decode cX5_fewestGuarding 73 = .ok (.iconst 1, 1) := by decide +kernel
theorem dX5_fewestGuarding_74 : decode cX5_fewestGuarding 74 = .ok (.iand, 1) := by decide +kernel
theorem dX5_fewestGuarding_75 : decode cX5_fewestGuarding 75 = .ok (.ifCond .eq 15, 3) := by decide +kernel
theorem dX5_fewestGuarding_78 : decode cX5_fewestGuarding 78 = .ok (.aload_n 0, 1) := by decide +kernel
theorem dX5_fewestGuarding_79 : decode cX5_fewestGuarding 79 = .ok (.getfield 21, 3) := by decide +kernel
theorem dX5_fewestGuarding_82 : decode cX5_fewestGuarding 82 = .ok (.iload 8, 2) := by decide +kernel
theorem dX5_fewestGuarding_84 : decode cX5_fewestGuarding 84 = .ok (.dup2, 1) := by decide +kernel
theorem dX5_fewestGuarding_85 : decode cX5_fewestGuarding 85 = .ok (.laload, 1) := by decide +kernel
theorem dX5_fewestGuarding_86 : decode cX5_fewestGuarding 86 = .ok (.lload 6, 2) := by decide +kernel
theorem dX5_fewestGuarding_88 : decode cX5_fewestGuarding 88 = .ok (.lxor, 1) := by decide +kernel
theorem dX5_fewestGuarding_89 : decode cX5_fewestGuarding 89 = .ok (.lastore, 1) := by decide +kernel
theorem dX5_fewestGuarding_90 : decode cX5_fewestGuarding 90 = .ok (.iinc 8 1, 3) := by decide +kernel
theorem dX5_fewestGuarding_93 : decode cX5_fewestGuarding 93 = .ok (.goto (-38), 3) := by decide +kernel
theorem dX5_fewestGuarding_96 : decode cX5_fewestGuarding 96 = .ok (.aload_n 0, 1) := by decide +kernel
theorem dX5_fewestGuarding_97 : decode cX5_fewestGuarding 97 = .ok (.getfield 21, 3) := by decide +kernel
theorem dX5_fewestGuarding_100 : decode cX5_fewestGuarding 100 = .ok (.iload 4, 2) := by decide +kernel
theorem dX5_fewestGuarding_102 : decode cX5_fewestGuarding 102 = .ok (.aload_n 0, 1) := by decide +kernel
theorem dX5_fewestGuarding_103 : decode cX5_fewestGuarding 103 = .ok (.getfield 21, 3) := by decide +kernel
theorem dX5_fewestGuarding_106 : decode cX5_fewestGuarding 106 = .ok (.iload 5, 2) := by decide +kernel
theorem dX5_fewestGuarding_108 : decode cX5_fewestGuarding 108 = .ok (.laload, 1) := by decide +kernel
theorem dX5_fewestGuarding_109 : decode cX5_fewestGuarding 109 = .ok (.lastore, 1) := by decide +kernel
theorem dX5_fewestGuarding_110 : decode cX5_fewestGuarding 110 = .ok (.aload_n 0, 1) := by decide +kernel
theorem dX5_fewestGuarding_111 : decode cX5_fewestGuarding 111 = .ok (.lload 6, 2) := by decide +kernel
theorem dX5_fewestGuarding_113 : decode cX5_fewestGuarding 113 = .ok (.iload 5, 2) := by decide +kernel
theorem dX5_fewestGuarding_115 : decode cX5_fewestGuarding 115 = .ok (.invokevirtual 80, 3) := by decide +kernel
theorem dX5_fewestTouched_0 : decode cX5_fewestTouched 0 = .ok (.lload_n 1, 1) := by decide +kernel
theorem dX5_fewestTouched_1 : decode cX5_fewestTouched 1 = .ok (.lstore 4, 2) := by decide +kernel
theorem dX5_fewestTouched_3 : decode cX5_fewestTouched 3 = .ok (.lload 4, 2) := by decide +kernel
theorem dX5_fewestTouched_5 : decode cX5_fewestTouched 5 = .ok (.invokestatic 84, 3) := by decide +kernel
theorem dJ13_bitCount_95d88_0 : decode cJ13_bitCount_95d88 0 = .ok (.lload_n 0, 1) := by decide +kernel
theorem dJ13_bitCount_95d88_1 : decode cJ13_bitCount_95d88 1 = .ok (.lload_n 0, 1) := by decide +kernel
theorem dJ13_bitCount_95d88_2 : decode cJ13_bitCount_95d88 2 = .ok (.iconst 1, 1) := by decide +kernel
theorem dJ13_bitCount_95d88_3 : decode cJ13_bitCount_95d88 3 = .ok (.lushr, 1) := by decide +kernel
theorem dJ13_bitCount_95d88_4 : decode cJ13_bitCount_95d88 4 = .ok (.ldc2_w 314, 3) := by decide +kernel
theorem dJ13_bitCount_95d88_7 : decode cJ13_bitCount_95d88 7 = .ok (.land, 1) := by decide +kernel
theorem dJ13_bitCount_95d88_8 : decode cJ13_bitCount_95d88 8 = .ok (.lsub, 1) := by decide +kernel
theorem dJ13_bitCount_95d88_9 : decode cJ13_bitCount_95d88 9 = .ok (.lstore_n 0, 1) := by decide +kernel
theorem dJ13_bitCount_95d88_10 : decode cJ13_bitCount_95d88 10 = .ok (.lload_n 0, 1) := by decide +kernel
theorem dJ13_bitCount_95d88_11 : decode cJ13_bitCount_95d88 11 = .ok (.ldc2_w 316, 3) := by decide +kernel
theorem dJ13_bitCount_95d88_14 : decode cJ13_bitCount_95d88 14 = .ok (.land, 1) := by decide +kernel
theorem dJ13_bitCount_95d88_15 : decode cJ13_bitCount_95d88 15 = .ok (.lload_n 0, 1) := by decide +kernel
theorem dJ13_bitCount_95d88_16 : decode cJ13_bitCount_95d88 16 = .ok (.iconst 2, 1) := by decide +kernel
theorem dJ13_bitCount_95d88_17 : decode cJ13_bitCount_95d88 17 = .ok (.lushr, 1) := by decide +kernel
theorem dJ13_bitCount_95d88_18 : decode cJ13_bitCount_95d88 18 = .ok (.ldc2_w 316, 3) := by decide +kernel
theorem dJ13_bitCount_95d88_21 : decode cJ13_bitCount_95d88 21 = .ok (.land, 1) := by decide +kernel
theorem dJ13_bitCount_95d88_22 : decode cJ13_bitCount_95d88 22 = .ok (.ladd, 1) := by decide +kernel
theorem dJ13_bitCount_95d88_23 : decode cJ13_bitCount_95d88 23 = .ok (.lstore_n 0, 1) := by decide +kernel
theorem dJ13_bitCount_95d88_24 : decode cJ13_bitCount_95d88 24 = .ok (.lload_n 0, 1) := by decide +kernel
theorem dJ13_bitCount_95d88_25 : decode cJ13_bitCount_95d88 25 = .ok (.lload_n 0, 1) := by decide +kernel
theorem dJ13_bitCount_95d88_26 : decode cJ13_bitCount_95d88 26 = .ok (.iconst 4, 1) := by decide +kernel
theorem dJ13_bitCount_95d88_27 : decode cJ13_bitCount_95d88 27 = .ok (.lushr, 1) := by decide +kernel
theorem dJ13_bitCount_95d88_28 : decode cJ13_bitCount_95d88 28 = .ok (.ladd, 1) := by decide +kernel
theorem dJ13_bitCount_95d88_29 : decode cJ13_bitCount_95d88 29 = .ok (.ldc2_w 318, 3) := by decide +kernel
theorem dJ13_bitCount_95d88_32 : decode cJ13_bitCount_95d88 32 = .ok (.land, 1) := by decide +kernel
theorem dJ13_bitCount_95d88_33 : decode cJ13_bitCount_95d88 33 = .ok (.lstore_n 0, 1) := by decide +kernel
theorem dJ13_bitCount_95d88_34 : decode cJ13_bitCount_95d88 34 = .ok (.lload_n 0, 1) := by decide +kernel
theorem dJ13_bitCount_95d88_35 : decode cJ13_bitCount_95d88 35 = .ok (.lload_n 0, 1) := by decide +kernel
theorem dJ13_bitCount_95d88_36 : decode cJ13_bitCount_95d88 36 = .ok (.bipush 8, 2) := by decide +kernel
theorem dJ13_bitCount_95d88_38 : decode cJ13_bitCount_95d88 38 = .ok (.lushr, 1) := by decide +kernel
theorem dJ13_bitCount_95d88_39 : decode cJ13_bitCount_95d88 39 = .ok (.ladd, 1) := by decide +kernel
theorem dJ13_bitCount_95d88_40 : decode cJ13_bitCount_95d88 40 = .ok (.lstore_n 0, 1) := by decide +kernel
theorem dJ13_bitCount_95d88_41 : decode cJ13_bitCount_95d88 41 = .ok (.lload_n 0, 1) := by decide +kernel
theorem dJ13_bitCount_95d88_42 : decode cJ13_bitCount_95d88 42 = .ok (.lload_n 0, 1) := by decide +kernel
theorem dJ13_bitCount_95d88_43 : decode cJ13_bitCount_95d88 43 = .ok (.bipush 16, 2) := by decide +kernel
theorem dJ13_bitCount_95d88_45 : decode cJ13_bitCount_95d88 45 = .ok (.lushr, 1) := by decide +kernel
theorem dJ13_bitCount_95d88_46 : decode cJ13_bitCount_95d88 46 = .ok (.ladd, 1) := by decide +kernel
theorem dJ13_bitCount_95d88_47 : decode cJ13_bitCount_95d88 47 = .ok (.lstore_n 0, 1) := by decide +kernel
theorem dJ13_bitCount_95d88_48 : decode cJ13_bitCount_95d88 48 = .ok (.lload_n 0, 1) := by decide +kernel
theorem dJ13_bitCount_95d88_49 : decode cJ13_bitCount_95d88 49 = .ok (.lload_n 0, 1) := by decide +kernel
theorem dJ13_bitCount_95d88_50 : decode cJ13_bitCount_95d88 50 = .ok (.bipush 32, 2) := by decide +kernel
theorem dJ13_bitCount_95d88_52 : decode cJ13_bitCount_95d88 52 = .ok (.lushr, 1) := by decide +kernel
theorem dJ13_bitCount_95d88_53 : decode cJ13_bitCount_95d88 53 = .ok (.ladd, 1) := by decide +kernel
theorem dJ13_bitCount_95d88_54 : decode cJ13_bitCount_95d88 54 = .ok (.lstore_n 0, 1) := by decide +kernel
theorem dJ13_bitCount_95d88_55 : decode cJ13_bitCount_95d88 55 = .ok (.lload_n 0, 1) := by decide +kernel
theorem dJ13_bitCount_95d88_56 : decode cJ13_bitCount_95d88 56 = .ok (.l2i, 1) := by decide +kernel
theorem dJ13_bitCount_95d88_57 : decode cJ13_bitCount_95d88 57 = .ok (.bipush 127, 2) := by decide +kernel
theorem dJ13_bitCount_95d88_59 : decode cJ13_bitCount_95d88 59 = .ok (.iand, 1) := by decide +kernel
theorem dJ13_bitCount_95d88_60 : decode cJ13_bitCount_95d88 60 = .ok (.ireturn, 1) := by decide +kernel
set_option maxHeartbeats 4000000 in
set_option maxRecDepth 100000 in
theorem s_J13_bitCount_95d88 {P : PP} {a0 : Int64} (I : IV P) : CtrI yJ13_bitCount_95d88 cJ13_bitCount_95d88 2 (some Jvm.ClassFile.FieldType.int) ({ frames := 1, cells := 0, slots := 0, locals := 64 } : Room) 0 0 P [.long a0] (fun r P2 => P = P2 ∧ (0 ≤ r.toInt ∧ r.toInt ≤ 127)) := by
  refine enI (lv := [(0, .long a0)]) (by decide) (Nat.le_of_ble_eq_true rfl) rfl (fun E D cy C Ci0 ret => ?_)
  refine g_lload_n C dJ13_bitCount_95d88_0 rfl 0 rfl ?_
  refine g_lload_n C dJ13_bitCount_95d88_1 rfl 0 rfl ?_
  refine g_iconst (v := 1) C dJ13_bitCount_95d88_2 (by decide) ?_
  refine a_lushr C dJ13_bitCount_95d88_3 (fun l25531 => ?_)
  refine g_ldc2 (v := 6148914691236517205) C kl_J13_314 dJ13_bitCount_95d88_4 ?_
  refine g_topl (fun l25532 el25532 => ?_)
  have hz_l25532 : ¬ l25532 = 0 := by rw [el25532]; decide
  refine a_land C dJ13_bitCount_95d88_7 (fun l25533 => ?_)
  refine a_lsub C dJ13_bitCount_95d88_8 (fun l25534 => ?_)
  refine g_lstore_n (lv' := [(0, .long l25534)]) C dJ13_bitCount_95d88_9 rfl (by decide) rfl ?_
  refine g_lload_n C dJ13_bitCount_95d88_10 rfl 0 rfl ?_
  refine g_ldc2 (v := 3689348814741910323) C kl_J13_316 dJ13_bitCount_95d88_11 ?_
  refine g_topl (fun l25535 el25535 => ?_)
  have hz_l25535 : ¬ l25535 = 0 := by rw [el25535]; decide
  refine a_land C dJ13_bitCount_95d88_14 (fun l25536 => ?_)
  refine g_lload_n C dJ13_bitCount_95d88_15 rfl 0 rfl ?_
  refine g_iconst (v := 2) C dJ13_bitCount_95d88_16 (by decide) ?_
  refine a_lushr C dJ13_bitCount_95d88_17 (fun l25537 => ?_)
  refine g_ldc2 (v := 3689348814741910323) C kl_J13_316 dJ13_bitCount_95d88_18 ?_
  refine g_topl (fun l25538 el25538 => ?_)
  have hz_l25538 : ¬ l25538 = 0 := by rw [el25538]; decide
  refine a_land C dJ13_bitCount_95d88_21 (fun l25539 => ?_)
  refine a_ladd C dJ13_bitCount_95d88_22 (fun l25540 => ?_)
  refine g_lstore_n (lv' := [(0, .long l25540)]) C dJ13_bitCount_95d88_23 rfl (by decide) rfl ?_
  refine g_lload_n C dJ13_bitCount_95d88_24 rfl 0 rfl ?_
  refine g_lload_n C dJ13_bitCount_95d88_25 rfl 0 rfl ?_
  refine g_iconst (v := 4) C dJ13_bitCount_95d88_26 (by decide) ?_
  refine a_lushr C dJ13_bitCount_95d88_27 (fun l25541 => ?_)
  refine a_ladd C dJ13_bitCount_95d88_28 (fun l25542 => ?_)
  refine g_ldc2 (v := 1085102592571150095) C kl_J13_318 dJ13_bitCount_95d88_29 ?_
  refine g_topl (fun l25543 el25543 => ?_)
  have hz_l25543 : ¬ l25543 = 0 := by rw [el25543]; decide
  refine a_land C dJ13_bitCount_95d88_32 (fun l25544 => ?_)
  refine g_lstore_n (lv' := [(0, .long l25544)]) C dJ13_bitCount_95d88_33 rfl (by decide) rfl ?_
  refine g_lload_n C dJ13_bitCount_95d88_34 rfl 0 rfl ?_
  refine g_lload_n C dJ13_bitCount_95d88_35 rfl 0 rfl ?_
  refine g_bipush (v := 8) C dJ13_bitCount_95d88_36 (by decide) ?_
  refine a_lushr C dJ13_bitCount_95d88_38 (fun l25545 => ?_)
  refine a_ladd C dJ13_bitCount_95d88_39 (fun l25546 => ?_)
  refine g_lstore_n (lv' := [(0, .long l25546)]) C dJ13_bitCount_95d88_40 rfl (by decide) rfl ?_
  refine g_lload_n C dJ13_bitCount_95d88_41 rfl 0 rfl ?_
  refine g_lload_n C dJ13_bitCount_95d88_42 rfl 0 rfl ?_
  refine g_bipush (v := 16) C dJ13_bitCount_95d88_43 (by decide) ?_
  refine a_lushr C dJ13_bitCount_95d88_45 (fun l25547 => ?_)
  refine a_ladd C dJ13_bitCount_95d88_46 (fun l25548 => ?_)
  refine g_lstore_n (lv' := [(0, .long l25548)]) C dJ13_bitCount_95d88_47 rfl (by decide) rfl ?_
  refine g_lload_n C dJ13_bitCount_95d88_48 rfl 0 rfl ?_
  refine g_lload_n C dJ13_bitCount_95d88_49 rfl 0 rfl ?_
  refine g_bipush (v := 32) C dJ13_bitCount_95d88_50 (by decide) ?_
  refine a_lushr C dJ13_bitCount_95d88_52 (fun l25549 => ?_)
  refine a_ladd C dJ13_bitCount_95d88_53 (fun l25550 => ?_)
  refine g_lstore_n (lv' := [(0, .long l25550)]) C dJ13_bitCount_95d88_54 rfl (by decide) rfl ?_
  refine g_lload_n C dJ13_bitCount_95d88_55 rfl 0 rfl ?_
  refine a_l2i C dJ13_bitCount_95d88_56 (fun z25551 => ?_)
  refine g_bipush (v := 127) C dJ13_bitCount_95d88_57 (by decide) ?_
  refine s_iand C dJ13_bitCount_95d88_59 (by show 0 ≤ 127; omega) (fun z25552 h25553 => ?_)
  have h25553 : 0 ≤ z25552.toInt ∧ z25552.toInt ≤ 127 := h25553
  exact ret _ _ _ _ _ _ dJ13_bitCount_95d88_60 rfl (by decide) (by decide) ⟨rfl, (by omega)⟩
theorem dX5_fewestTouched_8 : decode cX5_fewestTouched 8 = .ok (.istore 6, 2) := by decide +kernel
theorem dX5_fewestTouched_10 : decode cX5_fewestTouched 10 = .ok (.iconst 1, 1) := by decide +kernel
theorem dX5_fewestTouched_11 : decode cX5_fewestTouched 11 = .ok (.istore 7, 2) := by decide +kernel
theorem dX5_fewestTouched_13 : decode cX5_fewestTouched 13 = .ok (.iload 7, 2) := by decide +kernel
theorem dX5_fewestTouched_15 : decode cX5_fewestTouched 15 = .ok (.iconst 1, 1) := by decide +kernel
theorem dX5_fewestTouched_16 : decode cX5_fewestTouched 16 = .ok (.iload_n 3, 1) := by decide +kernel
theorem dX5_fewestTouched_17 : decode cX5_fewestTouched 17 = .ok (.ishl, 1) := by decide +kernel
theorem dX5_fewestTouched_18 : decode cX5_fewestTouched 18 = .ok (.if_icmp .ge 42, 3) := by decide +kernel
theorem dX5_fewestTouched_21 : decode cX5_fewestTouched 21 = .ok (.iload 6, 2) := by decide +kernel
theorem dX5_fewestTouched_23 : decode cX5_fewestTouched 23 = .ok (.iconst 1, 1) := by decide +kernel
theorem dX5_fewestTouched_24 : decode cX5_fewestTouched 24 = .ok (.if_icmp .le 36, 3) := by decide +kernel
theorem dX5_fewestTouched_27 : decode cX5_fewestTouched 27 = .ok (.lload 4, 2) := by decide +kernel
theorem dX5_fewestTouched_29 : decode cX5_fewestTouched 29 = .ok (.aload_n 0, 1) := by decide +kernel
theorem dX5_fewestTouched_30 : decode cX5_fewestTouched 30 = .ok (.getfield 21, 3) := by decide +kernel
theorem dX5_fewestTouched_33 : decode cX5_fewestTouched 33 = .ok (.iload 7, 2) := by decide +kernel
theorem dX5_fewestTouched_35 : decode cX5_fewestTouched 35 = .ok (.invokestatic 62, 3) := by decide +kernel
theorem dX5_fewestTouched_38 : decode cX5_fewestTouched 38 = .ok (.laload, 1) := by decide +kernel
theorem dX5_fewestTouched_39 : decode cX5_fewestTouched 39 = .ok (.lxor, 1) := by decide +kernel
theorem dX5_fewestTouched_40 : decode cX5_fewestTouched 40 = .ok (.lstore 4, 2) := by decide +kernel
theorem dX5_fewestTouched_42 : decode cX5_fewestTouched 42 = .ok (.iload 6, 2) := by decide +kernel
theorem dX5_fewestTouched_44 : decode cX5_fewestTouched 44 = .ok (.lload 4, 2) := by decide +kernel
theorem dX5_fewestTouched_46 : decode cX5_fewestTouched 46 = .ok (.invokestatic 84, 3) := by decide +kernel
theorem dX5_fewestTouched_49 : decode cX5_fewestTouched 49 = .ok (.invokestatic 89, 3) := by decide +kernel
theorem dX5_fewestTouched_52 : decode cX5_fewestTouched 52 = .ok (.istore 6, 2) := by decide +kernel
theorem dX5_fewestTouched_54 : decode cX5_fewestTouched 54 = .ok (.iinc 7 1, 3) := by decide +kernel
theorem dX5_fewestTouched_57 : decode cX5_fewestTouched 57 = .ok (.goto (-44), 3) := by decide +kernel
theorem dX5_fewestTouched_60 : decode cX5_fewestTouched 60 = .ok (.iload 6, 2) := by decide +kernel
theorem dX5_fewestTouched_62 : decode cX5_fewestTouched 62 = .ok (.ireturn, 1) := by decide +kernel
set_option maxHeartbeats 4000000 in
set_option maxRecDepth 100000 in
theorem s_X5_fewestTouched {P : PP} {a0 : Nat} {a1 : Int64} {a2 : Int32} (I : IV P) (ha0 : At P a0 5) (ha2 : 0 ≤ a2.toInt ∧ a2.toInt ≤ 15) : CtrI yX5_fewestTouched cX5_fewestTouched 8 (some Jvm.ClassFile.FieldType.int) ({ frames := 3, cells := 0, slots := 0, locals := 192 } : Room) 0 0 P [.ref a0, .long a1, .int a2] (fun r P2 => P = P2 ∧ (0 ≤ r.toInt ∧ r.toInt ≤ 127)) := by
  refine enI (lv := [(0, .ref a0), (1, .long a1), (3, .int a2)]) (by decide) (Nat.le_of_ble_eq_true rfl) rfl (fun E D cy C Ci0 ret => ?_)
  have J60 : ∀ (v60_6 : Int32), (0 ≤ v60_6.toInt ∧ v60_6.toInt ≤ 127) → G E ({ frames := 3, cells := 0, slots := 0, locals := 192 } : Room) D cy 8 P 0 0 60 [(6, .int v60_6)] [] := by
    intro v60_6 hv60_6
    refine g_iload C dX5_fewestTouched_60 0 rfl ?_
    exact ret _ _ _ _ _ _ dX5_fewestTouched_62 rfl (by decide) (by decide) ⟨rfl, (by omega)⟩
  have J13 : ∀ (n13 : Nat) (l13_4 : Int64) (v13_6 : Int32) (v13_7 : Int32), (32768 - v13_7.toInt).toNat < n13 → (0 ≤ v13_6.toInt ∧ v13_6.toInt ≤ 127) → (1 ≤ v13_7.toInt ∧ v13_7.toInt ≤ 32768) → G E ({ frames := 3, cells := 0, slots := 0, locals := 192 } : Room) D cy 8 P 0 0 13 [(0, .ref a0), (3, .int a2), (4, .long l13_4), (6, .int v13_6), (7, .int v13_7)] [] := by
    intro n13
    induction n13 with
    | zero => intro l13_4 v13_6 v13_7 hm13 hv13_6 hv13_7; omega
    | succ n13 ih13 =>
      intro l13_4 v13_6 v13_7 hm13 hv13_6 hv13_7
      refine g_iload C dX5_fewestTouched_13 4 rfl ?_
      refine g_iconst (v := 1) C dX5_fewestTouched_15 (by decide) ?_
      refine g_iload_n C dX5_fewestTouched_16 rfl 1 rfl ?_
      refine g_ishl C dX5_fewestTouched_17 ?_
      refine g_topi (fun z26239 h26240 => ?_)
      have hs26241 := sh_le (by omega) h26240
      refine b_icmp_ge C 60 dX5_fewestTouched_18 (by decide) (fun h26242 => ?_) (fun h26242 => ?_)
      · have h26242 : z26239.toInt ≤ v13_7.toInt := h26242
        refine g_lv (lv' := [(6, .int v13_6)]) [3] rfl ?_
        exact J60 v13_6 (by omega)
      · have h26242 : v13_7.toInt < z26239.toInt := h26242
        refine g_iload C dX5_fewestTouched_21 3 rfl ?_
        refine g_iconst (v := 1) C dX5_fewestTouched_23 (by decide) ?_
        refine b_icmp_le C 60 dX5_fewestTouched_24 (by decide) (fun h26243 => ?_) (fun h26243 => ?_)
        · have h26243 : v13_6.toInt ≤ 1 := h26243
          refine g_lv (lv' := [(6, .int v13_6)]) [3] rfl ?_
          exact J60 v13_6 (by omega)
        · have h26243 : 1 < v13_6.toInt := h26243
          refine g_lload C dX5_fewestTouched_27 2 rfl ?_
          refine g_aload_n C dX5_fewestTouched_29 rfl 0 rfl ?_
          obtain ⟨b26244, e26245, h26246⟩ := I.fld (ha0) 3 14 16 rfl
          refine g_getR C fi_X5_21 rfl e26245 (ha0).1 (ha0).2 dX5_fewestTouched_30 ?_
          refine g_iload C dX5_fewestTouched_33 4 rfl ?_
          refine g_callSNI (b := 0) (ci := 0) (rest := [.ref b26244, .long l13_4]) C mz_X5_62 [.int v13_7] (s_X11_lowestPlace I) rfl rfl (by decide) (Nat.le_of_ble_eq_true rfl) (by decide) dX5_fewestTouched_35 (fun r26247 Y26248 h26249 => ?_)
          obtain ⟨rfl, h26249⟩ := h26249
          obtain ⟨h26249, hi26250⟩ := h26249
          have hi26250 : r26247 = lpF v13_7 := hi26250
          have hp26251 := lp_le (by omega) hi26250
          have h26249 : 0 ≤ r26247.toInt ∧ r26247.toInt ≤ 63 := h26249
          refine g_lald (j := (r26247.toInt.toNat)) C h26246.1 h26246.2.1 (ix_in h26246.2.2 (by omega)) dX5_fewestTouched_38 ?_
          refine g_topl (fun l26252 _ => ?_)
          refine a_lxor C dX5_fewestTouched_39 (fun l26253 => ?_)
          refine g_lstore (lv' := [(4, .long l26253), (0, .ref a0), (3, .int a2), (6, .int v13_6), (7, .int v13_7)]) C dX5_fewestTouched_40 (by decide) rfl ?_
          refine g_iload C dX5_fewestTouched_42 3 rfl ?_
          refine g_lload C dX5_fewestTouched_44 0 rfl ?_
          refine g_callSI (b := 0) (ci := 0) (rest := [.int v13_6]) C ms_X5_84 [.long l26253] (s_J13_bitCount_95d88 I) rfl rfl (by decide) (Nat.le_of_ble_eq_true rfl) (by decide) dX5_fewestTouched_46 (fun r26254 Y26255 h26256 => ?_)
          obtain ⟨rfl, h26256⟩ := h26256
          have h26256 : 0 ≤ r26254.toInt ∧ r26254.toInt ≤ 127 := h26256
          refine g_mmin C ms_X5_89 (by decide) (by decide) (Nat.le_of_ble_eq_true rfl) (by decide) dX5_fewestTouched_49 (fun z26257 h26258 => ?_)
          have h26258 : z26257.toInt ≤ v13_6.toInt ∧ z26257.toInt ≤ r26254.toInt ∧ (z26257.toInt = v13_6.toInt ∨ z26257.toInt = r26254.toInt) := h26258
          refine g_istore (lv' := [(6, .int z26257), (4, .long l26253), (0, .ref a0), (3, .int a2), (7, .int v13_7)]) C dX5_fewestTouched_52 (by decide) rfl ?_
          refine s_iinc (lv0 := [(6, .int z26257), (4, .long l26253), (0, .ref a0), (3, .int a2)]) (m := 1) C dX5_fewestTouched_54 4 rfl (by decide) rfl (by decide) (by omega) (fun z26259 h26260 => ?_)
          have h26260 : z26259.toInt = v13_7.toInt + 1 := h26260
          refine g_goto C 13 dX5_fewestTouched_57 (by decide) ?_
          refine g_lv (lv' := [(0, .ref a0), (3, .int a2), (4, .long l26253), (6, .int z26257), (7, .int z26259)]) [3, 4, 2, 1, 0] rfl ?_
          exact ih13 l26253 z26257 z26259 (by omega) (by omega) (by omega)
  refine g_lload_n C dX5_fewestTouched_0 rfl 1 rfl ?_
  refine g_lstore (lv' := [(4, .long a1), (0, .ref a0), (1, .long a1), (3, .int a2)]) C dX5_fewestTouched_1 (by decide) rfl ?_
  refine g_lload C dX5_fewestTouched_3 0 rfl ?_
  refine g_callSI (b := 0) (ci := 0) (rest := []) C ms_X5_84 [.long a1] (s_J13_bitCount_95d88 I) rfl rfl (by decide) (Nat.le_of_ble_eq_true rfl) (by decide) dX5_fewestTouched_5 (fun r26261 Y26262 h26263 => ?_)
  obtain ⟨rfl, h26263⟩ := h26263
  have h26263 : 0 ≤ r26261.toInt ∧ r26261.toInt ≤ 127 := h26263
  refine g_istore (lv' := [(6, .int r26261), (4, .long a1), (0, .ref a0), (1, .long a1), (3, .int a2)]) C dX5_fewestTouched_8 (by decide) rfl ?_
  refine g_iconst (v := 1) C dX5_fewestTouched_10 (by decide) ?_
  refine g_istore (lv' := [(7, .int 1), (6, .int r26261), (4, .long a1), (0, .ref a0), (1, .long a1), (3, .int a2)]) C dX5_fewestTouched_11 (by decide) rfl ?_
  refine g_lv (lv' := [(0, .ref a0), (3, .int a2), (4, .long a1), (6, .int r26261), (7, .int 1)]) [3, 5, 2, 1, 0] rfl ?_
  exact J13 _ a1 r26261 1 (Nat.lt_succ_self _) (by omega) (by decide)
theorem dX5_fewestGuarding_118 : decode cX5_fewestGuarding 118 = .ok (.ireturn, 1) := by decide +kernel
set_option maxHeartbeats 4000000 in
set_option maxRecDepth 100000 in
theorem s_X5_fewestGuarding {P : PP} {a0 : Nat} {a1 : Nat} {a2 : Int32} (I : IV P) (ha0 : At P a0 5) (ha1 : At P a1 1) : CtrI yX5_fewestGuarding cX5_fewestGuarding 9 (some Jvm.ClassFile.FieldType.int) ({ frames := 4, cells := 0, slots := 0, locals := 256 } : Room) 0 0 P [.ref a0, .ref a1, .int a2] (fun r P2 => IV P2 ∧ EK [] P P2 ∧ (-1 ≤ r.toInt ∧ r.toInt ≤ 127)) := by
  refine enI (lv := [(0, .ref a0), (1, .ref a1), (2, .int a2)]) (by decide) (Nat.le_of_ble_eq_true rfl) rfl (fun E D cy C Ci0 ret => ?_)
  have J55 : ∀ (n55 : Nat) (P55 : PP) (v55_3 : Int32) (v55_4 : Int32) (v55_5 : Int32) (l55_6 : Int64) (v55_8 : Int32), (16 - v55_8.toInt).toNat < n55 → (IV P55) → (EK [] P P55) → (0 ≤ v55_4.toInt ∧ v55_4.toInt ≤ 15) → (0 ≤ v55_5.toInt ∧ v55_5.toInt ≤ 15) → (0 ≤ v55_8.toInt ∧ v55_8.toInt ≤ 16) → G E ({ frames := 4, cells := 0, slots := 0, locals := 256 } : Room) D cy 9 P55 0 0 55 [(0, .ref a0), (3, .int v55_3), (4, .int v55_4), (5, .int v55_5), (6, .long l55_6), (8, .int v55_8)] [] := by
    intro n55
    induction n55 with
    | zero => intro P55 v55_3 v55_4 v55_5 l55_6 v55_8 hm55 I55 X55 hv55_4 hv55_5 hv55_8; omega
    | succ n55 ih55 =>
      intro P55 v55_3 v55_4 v55_5 l55_6 v55_8 hm55 I55 X55 hv55_4 hv55_5 hv55_8
      have h26686 := X55.at ha0
      have h26687 := X55.at ha1
      have J90 : ∀ (P90 : PP) (l90_6 : Int64), (IV P90) → (EK [] P P90) → (0 ≤ v55_8.toInt ∧ v55_8.toInt ≤ 15) → G E ({ frames := 4, cells := 0, slots := 0, locals := 256 } : Room) D cy 9 P90 0 0 90 [(0, .ref a0), (3, .int v55_3), (4, .int v55_4), (5, .int v55_5), (6, .long l90_6), (8, .int v55_8)] [] := by
        intro P90 l90_6 I90 X90 hv90_8
        have h26688 := X90.at ha0
        have h26689 := X90.at ha1
        refine s_iinc (lv0 := [(0, .ref a0), (3, .int v55_3), (4, .int v55_4), (5, .int v55_5), (6, .long l90_6)]) (m := 1) C dX5_fewestGuarding_90 5 rfl (by decide) rfl (by decide) (by omega) (fun z26690 h26691 => ?_)
        have h26691 : z26690.toInt = v55_8.toInt + 1 := h26691
        refine g_goto C 55 dX5_fewestGuarding_93 (by decide) ?_
        refine g_lv (lv' := [(0, .ref a0), (3, .int v55_3), (4, .int v55_4), (5, .int v55_5), (6, .long l90_6), (8, .int z26690)]) [1, 2, 3, 4, 5, 0] rfl ?_
        exact ih55 P90 v55_3 v55_4 v55_5 l90_6 z26690 (by omega) I90 X90 (by omega) (by omega) (by omega)
      refine g_iload C dX5_fewestGuarding_55 5 rfl ?_
      refine g_iload C dX5_fewestGuarding_57 3 rfl ?_
      refine b_icmp_gt C 96 dX5_fewestGuarding_59 (by decide) (fun h26692 => ?_) (fun h26692 => ?_)
      · have h26692 : v55_5.toInt < v55_8.toInt := h26692
        refine g_aload_n C dX5_fewestGuarding_96 rfl 0 rfl ?_
        obtain ⟨b26693, e26694, h26695⟩ := I55.fld (h26686) 3 14 16 rfl
        refine g_getR C fi_X5_21 rfl e26694 (h26686).1 (h26686).2 dX5_fewestGuarding_97 ?_
        refine g_iload C dX5_fewestGuarding_100 2 rfl ?_
        refine g_aload_n C dX5_fewestGuarding_102 rfl 0 rfl ?_
        refine g_getR C fi_X5_21 rfl e26694 (h26686).1 (h26686).2 dX5_fewestGuarding_103 ?_
        refine g_iload C dX5_fewestGuarding_106 3 rfl ?_
        refine g_lald (j := (v55_5.toInt.toNat)) C h26695.1 h26695.2.1 (ix_in h26695.2.2 (by omega)) dX5_fewestGuarding_108 ?_
        refine g_topl (fun l26696 _ => ?_)
        refine g_last (j := (v55_4.toInt.toNat)) C h26695.1 h26695.2.1 (ix_in h26695.2.2 (by omega)) dX5_fewestGuarding_109 ?_
        refine gp (ks := []) (I55.setJ) (EK.setJ) (fun Y26697 Iy26698 Xy26699 => ?_)
        have Xz26700 : EK [] P Y26697 := X55.tr (Xy26699.mono (by decide))
        have h26701 := Xy26699.at h26686
        have h26702 := Xy26699.at h26687
        refine g_aload_n C dX5_fewestGuarding_110 rfl 0 rfl ?_
        refine g_lload C dX5_fewestGuarding_111 4 rfl ?_
        refine g_iload C dX5_fewestGuarding_113 3 rfl ?_
        refine g_callVI (rest := []) C mv_X5_80 [.long l55_6, .int v55_5] (s_X5_fewestTouched Iy26698 h26701 (by omega)) (h26701).1 (h26701).2 rfl rfl (by decide) (Nat.le_of_ble_eq_true rfl) (by decide) dX5_fewestGuarding_115 (fun r26703 Y26704 h26705 => ?_)
        obtain ⟨rfl, h26705⟩ := h26705
        have h26705 : 0 ≤ r26703.toInt ∧ r26703.toInt ≤ 127 := h26705
        exact ret _ _ _ _ _ _ dX5_fewestGuarding_118 rfl (by decide) (by decide) ⟨Iy26698, Xz26700, (by omega)⟩
      · have h26692 : v55_8.toInt ≤ v55_5.toInt := h26692
        refine g_iload C dX5_fewestGuarding_62 5 rfl ?_
        refine g_iload C dX5_fewestGuarding_64 2 rfl ?_
        refine b_icmp_eq C 90 dX5_fewestGuarding_66 (by decide) (fun h26706 => ?_) (fun h26706 => ?_)
        · have h26706 : v55_8.toInt = v55_4.toInt := congrArg Int32.toInt h26706
          exact J90 P55 l55_6 I55 X55 (by omega)
        · have h26706 : v55_8.toInt ≠ v55_4.toInt := ti_ne h26706
          refine g_iload_n C dX5_fewestGuarding_69 rfl 1 rfl ?_
          refine g_iload C dX5_fewestGuarding_70 5 rfl ?_
          refine a_ishr C dX5_fewestGuarding_72 (fun z26707 => ?_)
          refine g_iconst (v := 1) C dX5_fewestGuarding_73 (by decide) ?_
          refine s_iand C dX5_fewestGuarding_74 (by show 0 ≤ 1; omega) (fun z26709 h26710 => ?_)
          have h26710 : 0 ≤ z26709.toInt ∧ z26709.toInt ≤ 1 := h26710
          refine b_if_eq C 90 dX5_fewestGuarding_75 (by decide) (fun h26711 => ?_) (fun h26711 => ?_)
          · have h26711 : z26709.toInt = 0 := congrArg Int32.toInt h26711
            exact J90 P55 l55_6 I55 X55 (by omega)
          · have h26711 : z26709.toInt ≠ 0 := ti_ne h26711
            refine g_aload_n C dX5_fewestGuarding_78 rfl 0 rfl ?_
            obtain ⟨b26712, e26713, h26714⟩ := I55.fld (h26686) 3 14 16 rfl
            refine g_getR C fi_X5_21 rfl e26713 (h26686).1 (h26686).2 dX5_fewestGuarding_79 ?_
            refine g_iload C dX5_fewestGuarding_82 5 rfl ?_
            refine g_dup2_11 C dX5_fewestGuarding_84 rfl rfl ?_
            refine g_lald (j := (v55_8.toInt.toNat)) C h26714.1 h26714.2.1 (ix_in h26714.2.2 (by omega)) dX5_fewestGuarding_85 ?_
            refine g_topl (fun l26715 _ => ?_)
            refine g_lload C dX5_fewestGuarding_86 4 rfl ?_
            refine a_lxor C dX5_fewestGuarding_88 (fun l26716 => ?_)
            refine g_last (j := (v55_8.toInt.toNat)) C h26714.1 h26714.2.1 (ix_in h26714.2.2 (by omega)) dX5_fewestGuarding_89 ?_
            refine gp (ks := []) (I55.setJ) (EK.setJ) (fun Y26717 Iy26718 Xy26719 => ?_)
            have Xz26720 : EK [] P Y26717 := X55.tr (Xy26719.mono (by decide))
            have h26721 := Xy26719.at h26686
            have h26722 := Xy26719.at h26687
            exact J90 Y26717 l55_6 Iy26718 Xz26720 (by omega)
  have J41 : ∀ (P41 : PP), (IV P41) → (EK [] P P41) → G E ({ frames := 4, cells := 0, slots := 0, locals := 256 } : Room) D cy 9 P41 0 0 41 [] [] := by
    intro P41 I41 X41
    have h26723 := X41.at ha0
    have h26724 := X41.at ha1
    refine g_iconst (v := (-1)) C dX5_fewestGuarding_41 (by decide) ?_
    exact ret _ _ _ _ _ _ dX5_fewestGuarding_42 rfl (by decide) (by decide) ⟨I41, X41, (by decide)⟩
  refine g_aload_n C dX5_fewestGuarding_0 rfl 0 rfl ?_
  refine g_aload_n C dX5_fewestGuarding_1 rfl 1 rfl ?_
  refine g_callVV (rest := []) C mv_X5_73 [.ref a1] (s_X5_touchPapers I ha0 ha1) (ha0).1 (ha0).2 rfl rfl (by decide) (Nat.le_of_ble_eq_true rfl) (by decide) dX5_fewestGuarding_2 (fun Y26726 h26727 => ?_)
  obtain ⟨Iy26728, Xy26729⟩ := h26727
  have Xz26730 : EK [] P Y26726 := Xy26729.mono (by decide)
  have h26731 := Xy26729.at ha0
  have h26732 := Xy26729.at ha1
  refine g_aload_n C dX5_fewestGuarding_5 rfl 1 rfl ?_
  refine g_iconst (v := 1) C dX5_fewestGuarding_6 (by decide) ?_
  refine g_iload_n C dX5_fewestGuarding_7 rfl 2 rfl ?_
  refine a_ishl C dX5_fewestGuarding_8 (fun z26733 => ?_)
  refine g_callVI (rest := []) C mv_X5_77 [.int z26733] (s_X1_withoutHidden Iy26728 h26732) (h26732).1 (h26732).2 rfl rfl (by decide) (Nat.le_of_ble_eq_true rfl) (by decide) dX5_fewestGuarding_9 (fun r26735 Y26736 h26737 => ?_)
  obtain ⟨rfl, h26737⟩ := h26737
  have h26737 : True := h26737
  refine g_istore_n (lv' := [(3, .int r26735), (0, .ref a0), (1, .ref a1), (2, .int a2)]) C dX5_fewestGuarding_12 rfl (by decide) rfl ?_
  refine g_iload_n C dX5_fewestGuarding_13 rfl 0 rfl ?_
  refine g_callSNI (b := 0) (ci := 0) (rest := []) C mz_X5_62 [.int r26735] (s_X11_lowestPlace Iy26728) rfl rfl (by decide) (Nat.le_of_ble_eq_true rfl) (by decide) dX5_fewestGuarding_14 (fun r26738 Y26739 h26740 => ?_)
  obtain ⟨rfl, h26740⟩ := h26740
  obtain ⟨h26740, hi26741⟩ := h26740
  have hi26741 : r26738 = lpF r26735 := hi26741
  have h26740 : 0 ≤ r26738.toInt ∧ r26738.toInt ≤ 63 := h26740
  refine g_istore (lv' := [(4, .int r26738), (3, .int r26735), (0, .ref a0), (1, .ref a1), (2, .int a2)]) C dX5_fewestGuarding_17 (by decide) rfl ?_
  refine g_aload_n C dX5_fewestGuarding_19 rfl 3 rfl ?_
  refine g_getI C fi_X5_43 (by decide) (h26732).1 (h26732).2 dX5_fewestGuarding_20 ?_
  have h26742 := Iy26728.rg (h26732) 5 rfl
  refine g_iconst (v := 1) C dX5_fewestGuarding_23 (by decide) ?_
  refine s_isub C dX5_fewestGuarding_24 (by show -2147483648 ≤ (pI Y26726 a1 5).toInt - 1 ∧ (pI Y26726 a1 5).toInt - 1 ≤ 2147483647; omega) (fun z26743 h26744 => ?_)
  have h26744 : z26743.toInt = (pI Y26726 a1 5).toInt - 1 := h26744
  refine g_istore (lv' := [(5, .int z26743), (4, .int r26738), (3, .int r26735), (0, .ref a0), (1, .ref a1), (2, .int a2)]) C dX5_fewestGuarding_25 (by decide) rfl ?_
  refine g_iload C dX5_fewestGuarding_27 1 rfl ?_
  refine g_iload C dX5_fewestGuarding_29 0 rfl ?_
  refine b_icmp_gt C 41 dX5_fewestGuarding_31 (by decide) (fun h26745 => ?_) (fun h26745 => ?_)
  · have h26745 : z26743.toInt < r26738.toInt := h26745
    refine g_lv (lv' := []) [] rfl ?_
    exact J41 Y26726 Iy26728 Xz26730
  · have h26745 : r26738.toInt ≤ z26743.toInt := h26745
    refine g_iload C dX5_fewestGuarding_34 0 rfl ?_
    refine g_bipush (v := 16) C dX5_fewestGuarding_36 (by decide) ?_
    refine b_icmp_lt C 43 dX5_fewestGuarding_38 (by decide) (fun h26746 => ?_) (fun h26746 => ?_)
    · have h26746 : z26743.toInt < 16 := h26746
      refine g_aload_n C dX5_fewestGuarding_43 rfl 3 rfl ?_
      obtain ⟨b26747, e26748, h26749⟩ := Iy26728.fld (h26731) 3 14 16 rfl
      refine g_getR C fi_X5_21 rfl e26748 (h26731).1 (h26731).2 dX5_fewestGuarding_44 ?_
      refine g_iload C dX5_fewestGuarding_47 1 rfl ?_
      refine g_lald (j := (r26738.toInt.toNat)) C h26749.1 h26749.2.1 (ix_in h26749.2.2 (by omega)) dX5_fewestGuarding_49 ?_
      refine g_topl (fun l26750 _ => ?_)
      refine g_lstore (lv' := [(6, .long l26750), (5, .int z26743), (4, .int r26738), (3, .int r26735), (0, .ref a0), (1, .ref a1), (2, .int a2)]) C dX5_fewestGuarding_50 (by decide) rfl ?_
      refine g_iconst (v := 0) C dX5_fewestGuarding_52 (by decide) ?_
      refine g_istore (lv' := [(8, .int 0), (6, .long l26750), (5, .int z26743), (4, .int r26738), (3, .int r26735), (0, .ref a0), (1, .ref a1), (2, .int a2)]) C dX5_fewestGuarding_53 (by decide) rfl ?_
      refine g_lv (lv' := [(0, .ref a0), (3, .int r26735), (4, .int r26738), (5, .int z26743), (6, .long l26750), (8, .int 0)]) [5, 4, 3, 2, 1, 0] rfl ?_
      exact J55 _ Y26726 r26735 r26738 z26743 l26750 0 (Nat.lt_succ_self _) Iy26728 Xz26730 (by omega) (by omega) (by decide)
    · have h26746 : 16 ≤ z26743.toInt := h26746
      omega
theorem dX11_guard_24 : decode cX11_guard 24 = .ok (.iconst (-1), 1) := by decide +kernel
theorem dX11_guard_25 : decode cX11_guard 25 = .ok (.ireturn, 1) := by decide +kernel
theorem dX11_guard_62 : decode cX11_guard 62 = .ok (.iconst (-1), 1) := by decide +kernel
theorem dX11_guard_63 : decode cX11_guard 63 = .ok (.ireturn, 1) := by decide +kernel
theorem dX11_guard_77 : decode cX11_guard 77 = .ok (.istore 7, 2) := by decide +kernel
theorem dX11_guard_79 : decode cX11_guard 79 = .ok (.iload 7, 2) := by decide +kernel
theorem dX11_guard_81 : decode cX11_guard 81 = .ok (.iconst 1, 1) := by decide +kernel
theorem dX11_guard_82 : decode cX11_guard 82 = .ok (.if_icmp .lt 14, 3) := by decide +kernel
theorem dX11_guard_85 : decode cX11_guard 85 = .ok (.iload 7, 2) := by decide +kernel
theorem dX11_guard_87 : decode cX11_guard 87 = .ok (.iconst 3, 1) := by decide +kernel
theorem dX11_guard_88 : decode cX11_guard 88 = .ok (.if_icmp .gt 8, 3) := by decide +kernel
theorem dX11_guard_91 : decode cX11_guard 91 = .ok (.iload 7, 2) := by decide +kernel
theorem dX11_guard_93 : decode cX11_guard 93 = .ok (.goto 4, 3) := by decide +kernel
theorem dX11_guard_96 : decode cX11_guard 96 = .ok (.iconst (-1), 1) := by decide +kernel
theorem dX11_guard_97 : decode cX11_guard 97 = .ok (.ireturn, 1) := by decide +kernel
set_option maxHeartbeats 4000000 in
set_option maxRecDepth 100000 in
theorem s_X11_guard {P : PP} {a0 : Nat} {a1 : Int32} {a2 : Int32} {a3 : Int32} {a4 : Int32} (I : IV P) (ha0 : At P a0 11) : CtrI yX11_guard cX11_guard 8 (some Jvm.ClassFile.FieldType.int) ({ frames := 5, cells := 0, slots := 0, locals := 320 } : Room) 0 0 P [.ref a0, .int a1, .int a2, .int a3, .int a4] (fun r P2 => IV P2 ∧ EK [0, 5, 13] P P2 ∧ (-1 ≤ r.toInt ∧ r.toInt ≤ 3)) := by
  refine enI (lv := [(0, .ref a0), (1, .int a1), (2, .int a2), (3, .int a3), (4, .int a4)]) (by decide) (Nat.le_of_ble_eq_true rfl) rfl (fun E D cy C Ci0 ret => ?_)
  have J96 : ∀ (P96 : PP), (IV P96) → (EK [0, 5, 13] P P96) → G E ({ frames := 5, cells := 0, slots := 0, locals := 320 } : Room) D cy 8 P96 0 0 96 [] [] := by
    intro P96 I96 X96
    have h26813 := X96.at ha0
    refine g_iconst (v := (-1)) C dX11_guard_96 (by decide) ?_
    exact ret _ _ _ _ _ _ dX11_guard_97 rfl (by decide) (by decide) ⟨I96, X96, (by decide)⟩
  have J24 : G E ({ frames := 5, cells := 0, slots := 0, locals := 320 } : Room) D cy 8 P 0 0 24 [] [] := by
    refine g_iconst (v := (-1)) C dX11_guard_24 (by decide) ?_
    exact ret _ _ _ _ _ _ dX11_guard_25 rfl (by decide) (by decide) ⟨I, EK.rf, (by decide)⟩
  refine g_iload_n C dX11_guard_0 rfl 1 rfl ?_
  refine g_callSI (b := 0) (ci := 0) (rest := []) C ms_X11_158 [.int a1] (s_X11_isQuarter I) rfl rfl (by decide) (Nat.le_of_ble_eq_true rfl) (by decide) dX11_guard_1 (fun r26814 Y26815 h26816 => ?_)
  obtain ⟨rfl, h26816⟩ := h26816
  obtain ⟨h26816, hi26817⟩ := h26816
  have hi26817 : r26814.toInt = 0 ∨ (((0 : Int) ≤ a1.toInt ∧ a1.toInt ≤ (3 : Int))) := hi26817
  have h26816 : 0 ≤ r26814.toInt ∧ r26814.toInt ≤ 1 := h26816
  refine b_if_eq C 24 dX11_guard_4 (by decide) (fun h26818 => ?_) (fun h26818 => ?_)
  · have h26818 : r26814.toInt = 0 := congrArg Int32.toInt h26818
    clear hi26817
    refine g_lv (lv' := []) [] rfl ?_
    exact J24 
  · have h26818 : r26814.toInt ≠ 0 := ti_ne h26818
    replace hi26817 := hi26817.resolve_left (by omega)
    refine g_aload_n C dX11_guard_7 rfl 0 rfl ?_
    refine g_iload_n C dX11_guard_8 rfl 2 rfl ?_
    refine g_iload C dX11_guard_9 4 rfl ?_
    refine g_callVI (rest := []) C mv_X11_155 [.int a2, .int a4] (s_X11_isPageOf I ha0) (ha0).1 (ha0).2 rfl rfl (by decide) (Nat.le_of_ble_eq_true rfl) (by decide) dX11_guard_11 (fun r26819 Y26820 h26821 => ?_)
    obtain ⟨rfl, h26821⟩ := h26821
    obtain ⟨h26821, hi26822⟩ := h26821
    have hi26822 : r26819.toInt = 0 ∨ (((0 : Int) ≤ a2.toInt ∧ a2.toInt ≤ (1 : Int)) ∧ ((0 : Int) ≤ a4.toInt ∧ a4.toInt ≤ (19 : Int))) := hi26822
    have h26821 : 0 ≤ r26819.toInt ∧ r26819.toInt ≤ 1 := h26821
    refine b_if_eq C 24 dX11_guard_14 (by decide) (fun h26823 => ?_) (fun h26823 => ?_)
    · have h26823 : r26819.toInt = 0 := congrArg Int32.toInt h26823
      clear hi26822
      refine g_lv (lv' := []) [] rfl ?_
      exact J24 
    · have h26823 : r26819.toInt ≠ 0 := ti_ne h26823
      replace hi26822 := hi26822.resolve_left (by omega)
      refine g_iload_n C dX11_guard_17 rfl 3 rfl ?_
      refine g_callSI (b := 0) (ci := 0) (rest := []) C ms_X11_213 [.int a3] (s_X11_isOctet I) rfl rfl (by decide) (Nat.le_of_ble_eq_true rfl) (by decide) dX11_guard_18 (fun r26824 Y26825 h26826 => ?_)
      obtain ⟨rfl, h26826⟩ := h26826
      obtain ⟨h26826, hi26827⟩ := h26826
      have hi26827 : r26824.toInt = 0 ∨ (((0 : Int) ≤ a3.toInt ∧ a3.toInt ≤ (1 : Int))) := hi26827
      have h26826 : 0 ≤ r26824.toInt ∧ r26824.toInt ≤ 1 := h26826
      refine b_if_ne C 26 dX11_guard_21 (by decide) (fun h26828 => ?_) (fun h26828 => ?_)
      · have h26828 : r26824.toInt ≠ 0 := ti_ne h26828
        replace hi26827 := hi26827.resolve_left (by omega)
        refine g_aload_n C dX11_guard_26 rfl 0 rfl ?_
        refine g_iload_n C dX11_guard_27 rfl 1 rfl ?_
        refine g_iload_n C dX11_guard_28 rfl 2 rfl ?_
        refine g_iload_n C dX11_guard_29 rfl 3 rfl ?_
        refine g_callVQ (rest := []) C mv_X11_216 [.int a1, .int a2, .int a3] (s_X11_gather I ha0 (by omega) (by omega) (by omega)) (ha0).1 (ha0).2 rfl rfl (by decide) (Nat.le_of_ble_eq_true rfl) (by decide) dX11_guard_30 (fun r26829 Y26830 h26831 => ?_)
        obtain ⟨Iy26832, Xy26833, h26831⟩ := h26831
        have Xz26834 : EK [0, 5, 13] P Y26830 := Xy26833.mono (by decide)
        have h26835 := Xy26833.at ha0
        obtain ⟨b26837, rfl, h26831⟩ := h26831
        show G _ _ _ _ _ _ _ _ _ _ (.ref b26837 :: _)
        refine g_astore (lv' := [(5, .ref b26837), (0, .ref a0), (1, .int a1), (2, .int a2), (3, .int a3), (4, .int a4)]) C dX11_guard_33 (by decide) rfl ?_
        refine g_aload_n C dX11_guard_35 rfl 1 rfl ?_
        obtain ⟨b26838, e26839, h26840⟩ := Iy26832.fld (h26835) 9 16 2 rfl
        refine g_getR C fi_X11_53 rfl e26839 (h26835).1 (h26835).2 dX11_guard_36 ?_
        refine g_iconst (v := 0) C dX11_guard_39 (by decide) ?_
        obtain ⟨b26841, e26842, h26843⟩ := Iy26832.elm h26840 (by decide) 0 (by decide)
        refine g_aldR C h26840.1 h26840.2.1 (by decide) (IX.litn (j := 0) h26840.2.2 rfl (by decide) (by decide)) e26842 dX11_guard_40 ?_
        refine g_astore (lv' := [(6, .ref b26841), (5, .ref b26837), (0, .ref a0), (1, .int a1), (2, .int a2), (3, .int a3), (4, .int a4)]) C dX11_guard_41 (by decide) rfl ?_
        refine g_aload C dX11_guard_43 0 rfl ?_
        refine g_aload C dX11_guard_45 1 rfl ?_
        refine g_iconst (v := (-1)) C dX11_guard_47 (by decide) ?_
        refine g_callVV (rest := []) C mv_X11_236 [.ref b26837, .int (-1)] (s_X0_take Iy26832 h26843 h26831) (h26843).1 (h26843).2 rfl rfl (by decide) (Nat.le_of_ble_eq_true rfl) (by decide) dX11_guard_48 (fun Y26845 h26846 => ?_)
        obtain ⟨Iy26847, Xy26848⟩ := h26846
        have Xz26849 : EK [0, 5, 13] P Y26845 := Xz26834.tr (Xy26848.mono (by decide))
        have h26850 := Xy26848.at h26835
        have h26851 := Xy26848.at h26831
        have h26852 := Xy26848.at h26843
        refine g_aload C dX11_guard_51 0 rfl ?_
        refine g_iload C dX11_guard_53 6 rfl ?_
        refine g_callVI (rest := []) C mv_X11_272 [.int a4] (s_X0_octetOf Iy26847 h26852) (h26852).1 (h26852).2 rfl rfl (by decide) (Nat.le_of_ble_eq_true rfl) (by decide) dX11_guard_55 (fun r26853 Y26854 h26855 => ?_)
        obtain ⟨rfl, h26855⟩ := h26855
        have h26855 : True := h26855
        refine g_iconst (v := (-1)) C dX11_guard_58 (by decide) ?_
        have u26857 := ti_rng r26853
        refine b_icmp_ne C 64 dX11_guard_59 (by decide) (fun h26856 => ?_) (fun h26856 => ?_)
        · have h26856 : r26853.toInt ≠ (-1) := ti_ne h26856
          refine g_aload C dX11_guard_64 1 rfl ?_
          refine g_aload_n C dX11_guard_66 rfl 2 rfl ?_
          obtain ⟨b26858, e26859, h26860⟩ := Iy26847.fld (h26850) 0 17 2 rfl
          refine g_getR C fi_X11_11 rfl e26859 (h26850).1 (h26850).2 dX11_guard_67 ?_
          refine g_iload_n C dX11_guard_70 rfl 4 rfl ?_
          obtain ⟨b26861, e26862, h26863⟩ := Iy26847.elm h26860 (by decide) (a2.toInt.toNat) (by omega)
          refine g_aldR C h26860.1 h26860.2.1 (by decide) (ix_in h26860.2.2 (by omega)) e26862 dX11_guard_71 ?_
          refine g_iload C dX11_guard_72 6 rfl ?_
          refine g_callVI (rest := []) C mv_X11_275 [.ref b26861, .int a4] (s_X5_fewestGuarding Iy26847 h26851 h26863) (h26851).1 (h26851).2 rfl rfl (by decide) (Nat.le_of_ble_eq_true rfl) (by decide) dX11_guard_74 (fun r26864 Y26865 h26866 => ?_)
          obtain ⟨Iy26867, Xy26868, h26866⟩ := h26866
          have Xz26869 : EK [0, 5, 13] P Y26865 := Xz26849.tr (Xy26868.mono (by decide))
          have h26870 := Xy26868.at h26850
          have h26871 := Xy26868.at h26851
          have h26872 := Xy26868.at h26852
          have h26866 : -1 ≤ r26864.toInt ∧ r26864.toInt ≤ 127 := h26866
          refine g_istore (lv' := [(7, .int r26864), (6, .ref b26841), (5, .ref b26837), (0, .ref a0), (1, .int a1), (2, .int a2), (3, .int a3), (4, .int a4)]) C dX11_guard_77 (by decide) rfl ?_
          refine g_iload C dX11_guard_79 0 rfl ?_
          refine g_iconst (v := 1) C dX11_guard_81 (by decide) ?_
          refine b_icmp_lt C 96 dX11_guard_82 (by decide) (fun h26873 => ?_) (fun h26873 => ?_)
          · have h26873 : r26864.toInt < 1 := h26873
            refine g_lv (lv' := []) [] rfl ?_
            exact J96 Y26865 Iy26867 Xz26869
          · have h26873 : 1 ≤ r26864.toInt := h26873
            refine g_iload C dX11_guard_85 0 rfl ?_
            refine g_iconst (v := 3) C dX11_guard_87 (by decide) ?_
            refine b_icmp_gt C 96 dX11_guard_88 (by decide) (fun h26874 => ?_) (fun h26874 => ?_)
            · have h26874 : 3 < r26864.toInt := h26874
              refine g_lv (lv' := []) [] rfl ?_
              exact J96 Y26865 Iy26867 Xz26869
            · have h26874 : r26864.toInt ≤ 3 := h26874
              refine g_iload C dX11_guard_91 0 rfl ?_
              refine g_goto C 97 dX11_guard_93 (by decide) ?_
              exact ret _ _ _ _ _ _ dX11_guard_97 rfl (by decide) (by decide) ⟨Iy26867, Xz26869, (by omega)⟩
        · have h26856 : r26853.toInt = (-1) := congrArg Int32.toInt h26856
          refine g_iconst (v := (-1)) C dX11_guard_62 (by decide) ?_
          exact ret _ _ _ _ _ _ dX11_guard_63 rfl (by decide) (by decide) ⟨Iy26847, Xz26849, (by decide)⟩
      · have h26828 : r26824.toInt = 0 := congrArg Int32.toInt h26828
        clear hi26827
        refine g_lv (lv' := []) [] rfl ?_
        exact J24 
theorem dX11_housesServed_0 : decode cX11_housesServed 0 = .ok (.iconst 0, 1) := by decide +kernel
theorem dX11_housesServed_1 : decode cX11_housesServed 1 = .ok (.istore_n 2, 1) := by decide +kernel
theorem dX11_housesServed_2 : decode cX11_housesServed 2 = .ok (.iconst 0, 1) := by decide +kernel
theorem dX11_housesServed_3 : decode cX11_housesServed 3 = .ok (.istore_n 3, 1) := by decide +kernel
theorem dX11_housesServed_4 : decode cX11_housesServed 4 = .ok (.iload_n 3, 1) := by decide +kernel
theorem dX11_housesServed_5 : decode cX11_housesServed 5 = .ok (.iconst 4, 1) := by decide +kernel
theorem dX11_housesServed_6 : decode cX11_housesServed 6 = .ok (.if_icmp .ge 38, 3) := by decide +kernel
theorem dX11_housesServed_9 : decode cX11_housesServed 9 = .ok (.aload_n 0, 1) := by decide +kernel
theorem dX11_housesServed_10 : decode cX11_housesServed 10 = .ok (.getfield 35, 3) := by decide +kernel
theorem dX11_housesServed_13 : decode cX11_housesServed 13 = .ok (.iload_n 3, 1) := by decide +kernel
theorem dX11_housesServed_14 : decode cX11_housesServed 14 = .ok (.iaload, 1) := by decide +kernel
theorem dX11_housesServed_15 : decode cX11_housesServed 15 = .ok (.iconst (-1), 1) := by decide +kernel
theorem dX11_housesServed_16 : decode cX11_housesServed 16 = .ok (.if_icmp .eq 22, 3) := by decide +kernel
theorem dX11_housesServed_19 : decode cX11_housesServed 19 = .ok (.aload_n 0, 1) := by decide +kernel
theorem dX11_housesServed_20 : decode cX11_housesServed 20 = .ok (.getfield 35, 3) := by decide +kernel
theorem dX11_housesServed_23 : decode cX11_housesServed 23 = .ok (.iload_n 3, 1) := by decide +kernel
theorem dX11_housesServed_24 : decode cX11_housesServed 24 = .ok (.iaload, 1) := by decide +kernel
theorem dX11_housesServed_25 : decode cX11_housesServed 25 = .ok (.iload_n 1, 1) := by decide +kernel
theorem dX11_housesServed_26 : decode cX11_housesServed 26 = .ok (.if_icmp .gt 12, 3) := by decide +kernel
theorem dX11_housesServed_29 : decode cX11_housesServed 29 = .ok (.iload_n 2, 1) := by decide +kernel
theorem dX11_housesServed_30 : decode cX11_housesServed 30 = .ok (.aload_n 0, 1) := by decide +kernel
theorem dX11_housesServed_31 : decode cX11_housesServed 31 = .ok (.getfield 32, 3) := by decide +kernel
theorem dX11_housesServed_34 : decode cX11_housesServed 34 = .ok (.iload_n 3, 1) := by decide +kernel
theorem dX11_housesServed_35 : decode cX11_housesServed 35 = .ok (.iaload, 1) := by decide +kernel
theorem dX11_housesServed_36 : decode cX11_housesServed 36 = .ok (.iadd, 1) := by decide +kernel
theorem dX11_housesServed_37 : decode cX11_housesServed 37 = .ok (.istore_n 2, 1) := by decide +kernel
theorem dX11_housesServed_38 : decode cX11_housesServed 38 = .ok (.iinc 3 1, 3) := by decide +kernel
theorem dX11_housesServed_41 : decode cX11_housesServed 41 = .ok (.goto (-37), 3) := by decide +kernel
theorem dX11_housesServed_44 : decode cX11_housesServed 44 = .ok (.iload_n 2, 1) := by decide +kernel
theorem dX11_housesServed_45 : decode cX11_housesServed 45 = .ok (.ireturn, 1) := by decide +kernel
set_option maxHeartbeats 4000000 in
set_option maxRecDepth 100000 in
theorem s_X11_housesServed {P : PP} {a0 : Nat} {a1 : Int32} (I : IV P) (ha0 : At P a0 11) : CtrI yX11_housesServed cX11_housesServed 4 (some Jvm.ClassFile.FieldType.int) ({ frames := 1, cells := 0, slots := 0, locals := 64 } : Room) 0 0 P [.ref a0, .int a1] (fun r P2 => P = P2 ∧ (True)) := by
  refine enI (lv := [(0, .ref a0), (1, .int a1)]) (by decide) (Nat.le_of_ble_eq_true rfl) rfl (fun E D cy C Ci0 ret => ?_)
  have J4 : ∀ (n4 : Nat) (v4_2 : Int32) (v4_3 : Int32), (4 - v4_3.toInt).toNat < n4 → (0 ≤ v4_3.toInt ∧ v4_3.toInt ≤ 4) → G E ({ frames := 1, cells := 0, slots := 0, locals := 64 } : Room) D cy 4 P 0 0 4 [(0, .ref a0), (1, .int a1), (2, .int v4_2), (3, .int v4_3)] [] := by
    intro n4
    induction n4 with
    | zero => intro v4_2 v4_3 hm4 hv4_3; omega
    | succ n4 ih4 =>
      intro v4_2 v4_3 hm4 hv4_3
      have J38 : ∀ (v38_2 : Int32), (0 ≤ v4_3.toInt ∧ v4_3.toInt ≤ 3) → G E ({ frames := 1, cells := 0, slots := 0, locals := 64 } : Room) D cy 4 P 0 0 38 [(0, .ref a0), (1, .int a1), (2, .int v38_2), (3, .int v4_3)] [] := by
        intro v38_2 hv38_3
        refine s_iinc (lv0 := [(0, .ref a0), (1, .int a1), (2, .int v38_2)]) (m := 1) C dX11_housesServed_38 3 rfl (by decide) rfl (by decide) (by omega) (fun z26968 h26969 => ?_)
        have h26969 : z26968.toInt = v4_3.toInt + 1 := h26969
        refine g_goto C 4 dX11_housesServed_41 (by decide) ?_
        refine g_lv (lv' := [(0, .ref a0), (1, .int a1), (2, .int v38_2), (3, .int z26968)]) [1, 2, 3, 0] rfl ?_
        exact ih4 v38_2 z26968 (by omega) (by omega)
      refine g_iload_n C dX11_housesServed_4 rfl 3 rfl ?_
      refine g_iconst (v := 4) C dX11_housesServed_5 (by decide) ?_
      refine b_icmp_ge C 44 dX11_housesServed_6 (by decide) (fun h26970 => ?_) (fun h26970 => ?_)
      · have h26970 : 4 ≤ v4_3.toInt := h26970
        refine g_iload_n C dX11_housesServed_44 rfl 2 rfl ?_
        exact ret _ _ _ _ _ _ dX11_housesServed_45 rfl (by decide) (by decide) ⟨rfl, trivial⟩
      · have h26970 : v4_3.toInt < 4 := h26970
        refine g_aload_n C dX11_housesServed_9 rfl 0 rfl ?_
        obtain ⟨b26971, e26972, h26973⟩ := I.fld (ha0) 6 13 4 rfl
        refine g_getR C fi_X11_35 rfl e26972 (ha0).1 (ha0).2 dX11_housesServed_10 ?_
        refine g_iload_n C dX11_housesServed_13 rfl 3 rfl ?_
        refine g_iald (j := (v4_3.toInt.toNat)) C h26973.1 h26973.2.1 (ix_in h26973.2.2 (by omega)) dX11_housesServed_14 ?_
        refine g_topi (fun z26974 _ => ?_)
        refine g_iconst (v := (-1)) C dX11_housesServed_15 (by decide) ?_
        have u26976 := ti_rng z26974
        refine b_icmp_eq C 38 dX11_housesServed_16 (by decide) (fun h26975 => ?_) (fun h26975 => ?_)
        · have h26975 : z26974.toInt = (-1) := congrArg Int32.toInt h26975
          exact J38 v4_2 (by omega)
        · have h26975 : z26974.toInt ≠ (-1) := ti_ne h26975
          refine g_aload_n C dX11_housesServed_19 rfl 0 rfl ?_
          refine g_getR C fi_X11_35 rfl e26972 (ha0).1 (ha0).2 dX11_housesServed_20 ?_
          refine g_iload_n C dX11_housesServed_23 rfl 3 rfl ?_
          refine g_iald (j := (v4_3.toInt.toNat)) C h26973.1 h26973.2.1 (ix_in h26973.2.2 (by omega)) dX11_housesServed_24 ?_
          refine g_topi (fun z26977 _ => ?_)
          refine g_iload_n C dX11_housesServed_25 rfl 1 rfl ?_
          have u26979 := ti_rng z26977
          have u26980 := ti_rng a1
          refine b_icmp_gt C 38 dX11_housesServed_26 (by decide) (fun h26978 => ?_) (fun h26978 => ?_)
          · have h26978 : a1.toInt < z26977.toInt := h26978
            exact J38 v4_2 (by omega)
          · have h26978 : z26977.toInt ≤ a1.toInt := h26978
            refine g_iload_n C dX11_housesServed_29 rfl 2 rfl ?_
            refine g_aload_n C dX11_housesServed_30 rfl 0 rfl ?_
            obtain ⟨b26981, e26982, h26983⟩ := I.fld (ha0) 5 13 4 rfl
            refine g_getR C fi_X11_32 rfl e26982 (ha0).1 (ha0).2 dX11_housesServed_31 ?_
            refine g_iload_n C dX11_housesServed_34 rfl 3 rfl ?_
            refine g_iald (j := (v4_3.toInt.toNat)) C h26983.1 h26983.2.1 (ix_in h26983.2.2 (by omega)) dX11_housesServed_35 ?_
            refine g_topi (fun z26984 _ => ?_)
            refine a_iadd C dX11_housesServed_36 (fun z26985 => ?_)
            refine g_istore_n (lv' := [(2, .int z26985), (0, .ref a0), (1, .int a1), (3, .int v4_3)]) C dX11_housesServed_37 rfl (by decide) rfl ?_
            refine g_lv (lv' := [(0, .ref a0), (1, .int a1), (2, .int z26985), (3, .int v4_3)]) [1, 2, 0, 3] rfl ?_
            exact J38 z26985 (by omega)
  refine g_iconst (v := 0) C dX11_housesServed_0 (by decide) ?_
  refine g_istore_n (lv' := [(2, .int 0), (0, .ref a0), (1, .int a1)]) C dX11_housesServed_1 rfl (by decide) rfl ?_
  refine g_iconst (v := 0) C dX11_housesServed_2 (by decide) ?_
  refine g_istore_n (lv' := [(3, .int 0), (2, .int 0), (0, .ref a0), (1, .int a1)]) C dX11_housesServed_3 rfl (by decide) rfl ?_
  refine g_lv (lv' := [(0, .ref a0), (1, .int a1), (2, .int 0), (3, .int 0)]) [2, 3, 1, 0] rfl ?_
  exact J4 _ 0 0 (Nat.lt_succ_self _) (by decide)
theorem dX11_init_0 : decode cX11_init 0 = .ok (.aload_n 0, 1) := by decide +kernel
theorem dX11_init_1 : decode cX11_init 1 = .ok (.invokespecial 3, 3) := by decide +kernel
theorem dX11_init_4 : decode cX11_init 4 = .ok (.aload_n 0, 1) := by decide +kernel
theorem dX11_init_5 : decode cX11_init 5 = .ok (.iconst 2, 1) := by decide +kernel
theorem dX11_init_6 : decode cX11_init 6 = .ok (.anewarray 9, 3) := by decide +kernel
theorem dX11_isRoomAnywhere_0 : decode cX11_isRoomAnywhere 0 = .ok (.iconst 0, 1) := by decide +kernel
theorem dX11_isRoomAnywhere_1 : decode cX11_isRoomAnywhere 1 = .ok (.istore_n 1, 1) := by decide +kernel
theorem dX11_isRoomAnywhere_2 : decode cX11_isRoomAnywhere 2 = .ok (.iload_n 1, 1) := by decide +kernel
theorem dX11_isRoomAnywhere_3 : decode cX11_isRoomAnywhere 3 = .ok (.iconst 4, 1) := by decide +kernel
theorem dX11_isRoomAnywhere_4 : decode cX11_isRoomAnywhere 4 = .ok (.if_icmp .ge 25, 3) := by decide +kernel
theorem dX11_isRoomAnywhere_7 : decode cX11_isRoomAnywhere 7 = .ok (.aload_n 0, 1) := by decide +kernel
theorem dX11_isRoomAnywhere_8 : decode cX11_isRoomAnywhere 8 = .ok (.getfield 17, 3) := by decide +kernel
theorem dX11_isRoomAnywhere_11 : decode cX11_isRoomAnywhere 11 = .ok (.iload_n 1, 1) := by decide +kernel
theorem dX11_isRoomAnywhere_12 : decode cX11_isRoomAnywhere 12 = .ok (.aaload, 1) := by decide +kernel
theorem dX11_isRoomAnywhere_13 : decode cX11_isRoomAnywhere 13 = .ok (.getfield 336, 3) := by decide +kernel
theorem dX11_isRoomAnywhere_16 : decode cX11_isRoomAnywhere 16 = .ok (.bipush 40, 2) := by decide +kernel
theorem dX11_isRoomAnywhere_18 : decode cX11_isRoomAnywhere 18 = .ok (.if_icmp .ge 5, 3) := by decide +kernel
theorem dX11_isRoomAnywhere_21 : decode cX11_isRoomAnywhere 21 = .ok (.iconst 1, 1) := by decide +kernel
theorem dX11_isRoomAnywhere_22 : decode cX11_isRoomAnywhere 22 = .ok (.ireturn, 1) := by decide +kernel
theorem dX11_isRoomAnywhere_23 : decode cX11_isRoomAnywhere 23 = .ok (.iinc 1 1, 3) := by decide +kernel
theorem dX11_isRoomAnywhere_26 : decode cX11_isRoomAnywhere 26 = .ok (.goto (-24), 3) := by decide +kernel
theorem dX11_isRoomAnywhere_29 : decode cX11_isRoomAnywhere 29 = .ok (.iconst 0, 1) := by decide +kernel
theorem dX11_isRoomAnywhere_30 : decode cX11_isRoomAnywhere 30 = .ok (.ireturn, 1) := by decide +kernel
set_option maxHeartbeats 4000000 in
set_option maxRecDepth 100000 in
theorem s_X11_isRoomAnywhere {P : PP} {a0 : Nat} (I : IV P) (ha0 : At P a0 11) : CtrI yX11_isRoomAnywhere cX11_isRoomAnywhere 2 (some Jvm.ClassFile.FieldType.boolean) ({ frames := 1, cells := 0, slots := 0, locals := 64 } : Room) 0 0 P [.ref a0] (fun r P2 => P = P2 ∧ (0 ≤ r.toInt ∧ r.toInt ≤ 1)) := by
  refine enI (lv := [(0, .ref a0)]) (by decide) (Nat.le_of_ble_eq_true rfl) rfl (fun E D cy C Ci0 ret => ?_)
  have J2 : ∀ (n2 : Nat) (v2_1 : Int32), (4 - v2_1.toInt).toNat < n2 → (0 ≤ v2_1.toInt ∧ v2_1.toInt ≤ 4) → G E ({ frames := 1, cells := 0, slots := 0, locals := 64 } : Room) D cy 2 P 0 0 2 [(0, .ref a0), (1, .int v2_1)] [] := by
    intro n2
    induction n2 with
    | zero => intro v2_1 hm2 hv2_1; omega
    | succ n2 ih2 =>
      intro v2_1 hm2 hv2_1
      refine g_iload_n C dX11_isRoomAnywhere_2 rfl 1 rfl ?_
      refine g_iconst (v := 4) C dX11_isRoomAnywhere_3 (by decide) ?_
      refine b_icmp_ge C 29 dX11_isRoomAnywhere_4 (by decide) (fun h27042 => ?_) (fun h27042 => ?_)
      · have h27042 : 4 ≤ v2_1.toInt := h27042
        refine g_iconst (v := 0) C dX11_isRoomAnywhere_29 (by decide) ?_
        exact ret _ _ _ _ _ _ dX11_isRoomAnywhere_30 rfl (by decide) (by decide) ⟨rfl, (by decide)⟩
      · have h27042 : v2_1.toInt < 4 := h27042
        refine g_aload_n C dX11_isRoomAnywhere_7 rfl 0 rfl ?_
        obtain ⟨b27043, e27044, h27045⟩ := I.fld (ha0) 1 19 4 rfl
        refine g_getR C fi_X11_17 rfl e27044 (ha0).1 (ha0).2 dX11_isRoomAnywhere_8 ?_
        refine g_iload_n C dX11_isRoomAnywhere_11 rfl 1 rfl ?_
        obtain ⟨b27046, e27047, h27048⟩ := I.elm h27045 (by decide) (v2_1.toInt.toNat) (by omega)
        refine g_aldR C h27045.1 h27045.2.1 (by decide) (ix_in h27045.2.2 (by omega)) e27047 dX11_isRoomAnywhere_12 ?_
        refine g_getI C fi_X11_336 (by decide) (h27048).1 (h27048).2 dX11_isRoomAnywhere_13 ?_
        have h27049 := I.rg (h27048) 1 rfl
        refine g_bipush (v := 40) C dX11_isRoomAnywhere_16 (by decide) ?_
        refine b_icmp_ge C 23 dX11_isRoomAnywhere_18 (by decide) (fun h27050 => ?_) (fun h27050 => ?_)
        · have h27050 : 40 ≤ (pI P b27046 1).toInt := h27050
          refine s_iinc (lv0 := [(0, .ref a0)]) (m := 1) C dX11_isRoomAnywhere_23 1 rfl (by decide) rfl (by decide) (by omega) (fun z27051 h27052 => ?_)
          have h27052 : z27051.toInt = v2_1.toInt + 1 := h27052
          refine g_goto C 2 dX11_isRoomAnywhere_26 (by decide) ?_
          refine g_lv (lv' := [(0, .ref a0), (1, .int z27051)]) [1, 0] rfl ?_
          exact ih2 z27051 (by omega) (by omega)
        · have h27050 : (pI P b27046 1).toInt < 40 := h27050
          refine g_iconst (v := 1) C dX11_isRoomAnywhere_21 (by decide) ?_
          exact ret _ _ _ _ _ _ dX11_isRoomAnywhere_22 rfl (by decide) (by decide) ⟨rfl, (by decide)⟩
  refine g_iconst (v := 0) C dX11_isRoomAnywhere_0 (by decide) ?_
  refine g_istore_n (lv' := [(1, .int 0), (0, .ref a0)]) C dX11_isRoomAnywhere_1 rfl (by decide) rfl ?_
  refine g_lv (lv' := [(0, .ref a0), (1, .int 0)]) [1, 0] rfl ?_
  exact J2 _ 0 (Nat.lt_succ_self _) (by decide)
theorem dX11_leaflet_0 : decode cX11_leaflet 0 = .ok (.aload_n 0, 1) := by decide +kernel
theorem dX11_leaflet_1 : decode cX11_leaflet 1 = .ok (.iload_n 1, 1) := by decide +kernel
theorem dX11_leaflet_2 : decode cX11_leaflet 2 = .ok (.iload_n 2, 1) := by decide +kernel
theorem dX11_leaflet_3 : decode cX11_leaflet 3 = .ok (.invokevirtual 136, 3) := by decide +kernel
theorem dX11_leaflet_6 : decode cX11_leaflet 6 = .ok (.ifCond .ne 5, 3) := by decide +kernel
theorem dX11_leaflet_9 : decode cX11_leaflet 9 = .ok (.iconst (-1), 1) := by decide +kernel
theorem dX11_leaflet_10 : decode cX11_leaflet 10 = .ok (.ireturn, 1) := by decide +kernel
theorem dX11_leaflet_11 : decode cX11_leaflet 11 = .ok (.aload_n 0, 1) := by decide +kernel
theorem dX11_leaflet_12 : decode cX11_leaflet 12 = .ok (.getfield 11, 3) := by decide +kernel
theorem dX11_leaflet_15 : decode cX11_leaflet 15 = .ok (.iload_n 1, 1) := by decide +kernel
theorem dX11_leaflet_16 : decode cX11_leaflet 16 = .ok (.aaload, 1) := by decide +kernel
theorem dX11_leaflet_17 : decode cX11_leaflet 17 = .ok (.astore 4, 2) := by decide +kernel
theorem dX11_leaflet_19 : decode cX11_leaflet 19 = .ok (.aload 4, 2) := by decide +kernel
theorem dX11_leaflet_21 : decode cX11_leaflet 21 = .ok (.iload_n 2, 1) := by decide +kernel
theorem dX11_leaflet_22 : decode cX11_leaflet 22 = .ok (.invokevirtual 140, 3) := by decide +kernel
theorem dX11_leaflet_25 : decode cX11_leaflet 25 = .ok (.istore 5, 2) := by decide +kernel
theorem dX11_leaflet_27 : decode cX11_leaflet 27 = .ok (.iload_n 3, 1) := by decide +kernel
theorem dX11_leaflet_28 : decode cX11_leaflet 28 = .ok (.tableswitch 63 0 3 #[32, 35, 43, 57], 32) := by decide +kernel
theorem dX11_leaflet_60 : decode cX11_leaflet 60 = .ok (.iload 5, 2) := by decide +kernel
theorem dX11_leaflet_62 : decode cX11_leaflet 62 = .ok (.ireturn, 1) := by decide +kernel
theorem dX11_leaflet_63 : decode cX11_leaflet 63 = .ok (.aload 4, 2) := by decide +kernel
theorem dX11_leaflet_65 : decode cX11_leaflet 65 = .ok (.iload 5, 2) := by decide +kernel
theorem dX11_leaflet_67 : decode cX11_leaflet 67 = .ok (.invokevirtual 143, 3) := by decide +kernel
theorem dX11_leaflet_70 : decode cX11_leaflet 70 = .ok (.ireturn, 1) := by decide +kernel
theorem dX11_leaflet_71 : decode cX11_leaflet 71 = .ok (.aload 4, 2) := by decide +kernel
theorem dX11_leaflet_73 : decode cX11_leaflet 73 = .ok (.iload_n 2, 1) := by decide +kernel
theorem dX11_leaflet_74 : decode cX11_leaflet 74 = .ok (.aload 4, 2) := by decide +kernel
theorem dX11_leaflet_76 : decode cX11_leaflet 76 = .ok (.iload 5, 2) := by decide +kernel
theorem dX11_leaflet_78 : decode cX11_leaflet 78 = .ok (.invokevirtual 143, 3) := by decide +kernel
theorem dX11_leaflet_81 : decode cX11_leaflet 81 = .ok (.invokevirtual 146, 3) := by decide +kernel
theorem dX11_leaflet_84 : decode cX11_leaflet 84 = .ok (.ireturn, 1) := by decide +kernel
theorem dX11_leaflet_85 : decode cX11_leaflet 85 = .ok (.iload 5, 2) := by decide +kernel
theorem dX11_leaflet_87 : decode cX11_leaflet 87 = .ok (.invokestatic 150, 3) := by decide +kernel
theorem dX11_leaflet_90 : decode cX11_leaflet 90 = .ok (.ireturn, 1) := by decide +kernel
theorem dX11_leaflet_91 : decode cX11_leaflet 91 = .ok (.iconst (-1), 1) := by decide +kernel
theorem dX11_leaflet_92 : decode cX11_leaflet 92 = .ok (.ireturn, 1) := by decide +kernel
set_option maxHeartbeats 4000000 in
set_option maxRecDepth 100000 in
theorem s_X11_leaflet {P : PP} {a0 : Nat} {a1 : Int32} {a2 : Int32} {a3 : Int32} (I : IV P) (ha0 : At P a0 11) : CtrI yX11_leaflet cX11_leaflet 6 (some Jvm.ClassFile.FieldType.int) ({ frames := 5, cells := 0, slots := 0, locals := 320 } : Room) 0 0 P [.ref a0, .int a1, .int a2, .int a3] (fun r P2 => IV P2 ∧ EK [1, 13] P P2 ∧ (True)) := by
  refine enI (lv := [(0, .ref a0), (1, .int a1), (2, .int a2), (3, .int a3)]) (by decide) (Nat.le_of_ble_eq_true rfl) rfl (fun E D cy C Ci0 ret => ?_)
  refine g_aload_n C dX11_leaflet_0 rfl 0 rfl ?_
  refine g_iload_n C dX11_leaflet_1 rfl 1 rfl ?_
  refine g_iload_n C dX11_leaflet_2 rfl 2 rfl ?_
  refine g_callVI (rest := []) C mv_X11_136 [.int a1, .int a2] (s_X11_isLeaflet I ha0) (ha0).1 (ha0).2 rfl rfl (by decide) (Nat.le_of_ble_eq_true rfl) (by decide) dX11_leaflet_3 (fun r27087 Y27088 h27089 => ?_)
  obtain ⟨rfl, h27089⟩ := h27089
  obtain ⟨h27089, hi27090⟩ := h27089
  have hi27090 : r27087.toInt = 0 ∨ (((0 : Int) ≤ a1.toInt ∧ a1.toInt ≤ (1 : Int)) ∧ ((0 : Int) ≤ a2.toInt ∧ a2.toInt ≤ (9999 : Int))) := hi27090
  have h27089 : 0 ≤ r27087.toInt ∧ r27087.toInt ≤ 1 := h27089
  refine b_if_ne C 11 dX11_leaflet_6 (by decide) (fun h27091 => ?_) (fun h27091 => ?_)
  · have h27091 : r27087.toInt ≠ 0 := ti_ne h27091
    replace hi27090 := hi27090.resolve_left (by omega)
    refine g_aload_n C dX11_leaflet_11 rfl 0 rfl ?_
    obtain ⟨b27092, e27093, h27094⟩ := I.fld (ha0) 0 17 2 rfl
    refine g_getR C fi_X11_11 rfl e27093 (ha0).1 (ha0).2 dX11_leaflet_12 ?_
    refine g_iload_n C dX11_leaflet_15 rfl 1 rfl ?_
    obtain ⟨b27095, e27096, h27097⟩ := I.elm h27094 (by decide) (a1.toInt.toNat) (by omega)
    refine g_aldR C h27094.1 h27094.2.1 (by decide) (ix_in h27094.2.2 (by omega)) e27096 dX11_leaflet_16 ?_
    refine g_astore (lv' := [(4, .ref b27095), (0, .ref a0), (1, .int a1), (2, .int a2), (3, .int a3)]) C dX11_leaflet_17 (by decide) rfl ?_
    refine g_aload C dX11_leaflet_19 0 rfl ?_
    refine g_iload_n C dX11_leaflet_21 rfl 3 rfl ?_
    refine g_callVI (rest := []) C mv_X11_140 [.int a2] (s_X1_pagesOf I h27097) (h27097).1 (h27097).2 rfl rfl (by decide) (Nat.le_of_ble_eq_true rfl) (by decide) dX11_leaflet_22 (fun r27098 Y27099 h27100 => ?_)
    obtain ⟨Iy27101, Xy27102, h27100⟩ := h27100
    have Xz27103 : EK [1, 13] P Y27099 := Xy27102.mono (by decide)
    have h27104 := Xy27102.at ha0
    have h27105 := Xy27102.at h27097
    have h27100 : True := h27100
    refine g_istore (lv' := [(5, .int r27098), (4, .ref b27095), (0, .ref a0), (1, .int a1), (2, .int a2), (3, .int a3)]) C dX11_leaflet_25 (by decide) rfl ?_
    refine g_iload_n C dX11_leaflet_27 rfl 5 rfl ?_
    by_cases h27106 : a3.toInt < 0 ∨ 3 < a3.toInt
    · refine g_tableOut C 91 dX11_leaflet_28 h27106 (by decide) ?_
      refine g_iconst (v := (-1)) C dX11_leaflet_91 (by decide) ?_
      exact ret _ _ _ _ _ _ dX11_leaflet_92 rfl (by decide) (by decide) ⟨Iy27101, Xz27103, trivial⟩
    · rcases (show a3.toInt = 0 ∨ a3.toInt = 1 ∨ a3.toInt = 2 ∨ a3.toInt = 3 by omega) with h27107 | h27107 | h27107 | h27107
      · refine g_tableIn C 60 dX11_leaflet_28 (by omega) (by omega) (by rw [h27107]; rfl) (by decide) ?_
        refine g_iload C dX11_leaflet_60 0 rfl ?_
        exact ret _ _ _ _ _ _ dX11_leaflet_62 rfl (by decide) (by decide) ⟨Iy27101, Xz27103, trivial⟩
      · refine g_tableIn C 63 dX11_leaflet_28 (by omega) (by omega) (by rw [h27107]; rfl) (by decide) ?_
        refine g_aload C dX11_leaflet_63 1 rfl ?_
        refine g_iload C dX11_leaflet_65 0 rfl ?_
        refine g_callVI (rest := []) C mv_X11_143 [.int r27098] (s_X1_sumOf Iy27101 h27105) (h27105).1 (h27105).2 rfl rfl (by decide) (Nat.le_of_ble_eq_true rfl) (by decide) dX11_leaflet_67 (fun r27108 Y27109 h27110 => ?_)
        obtain ⟨rfl, h27110⟩ := h27110
        have h27110 : True := h27110
        exact ret _ _ _ _ _ _ dX11_leaflet_70 rfl (by decide) (by decide) ⟨Iy27101, Xz27103, trivial⟩
      · refine g_tableIn C 71 dX11_leaflet_28 (by omega) (by omega) (by rw [h27107]; rfl) (by decide) ?_
        refine g_aload C dX11_leaflet_71 1 rfl ?_
        refine g_iload_n C dX11_leaflet_73 rfl 4 rfl ?_
        refine g_aload C dX11_leaflet_74 1 rfl ?_
        refine g_iload C dX11_leaflet_76 0 rfl ?_
        refine g_callVI (rest := [.int a2, .ref b27095]) C mv_X11_143 [.int r27098] (s_X1_sumOf Iy27101 h27105) (h27105).1 (h27105).2 rfl rfl (by decide) (Nat.le_of_ble_eq_true rfl) (by decide) dX11_leaflet_78 (fun r27111 Y27112 h27113 => ?_)
        obtain ⟨rfl, h27113⟩ := h27113
        have h27113 : True := h27113
        refine g_callVI (rest := []) C mv_X11_146 [.int a2, .int r27111] (s_X1_sealOf Iy27101 h27105) (h27105).1 (h27105).2 rfl rfl (by decide) (Nat.le_of_ble_eq_true rfl) (by decide) dX11_leaflet_81 (fun r27114 Y27115 h27116 => ?_)
        obtain ⟨rfl, h27116⟩ := h27116
        have h27116 : True := h27116
        exact ret _ _ _ _ _ _ dX11_leaflet_84 rfl (by decide) (by decide) ⟨Iy27101, Xz27103, trivial⟩
      · refine g_tableIn C 85 dX11_leaflet_28 (by omega) (by omega) (by rw [h27107]; rfl) (by decide) ?_
        refine g_iload C dX11_leaflet_85 0 rfl ?_
        refine g_callSI (b := 0) (ci := 0) (rest := []) C ms_X11_150 [.int r27098] (s_J6_bitCount_0f7a4 Iy27101) rfl rfl (by decide) (Nat.le_of_ble_eq_true rfl) (by decide) dX11_leaflet_87 (fun r27117 Y27118 h27119 => ?_)
        obtain ⟨rfl, h27119⟩ := h27119
        obtain ⟨h27119, hi27120⟩ := h27119
        have hi27120 : r27117 = bcF r27098 := hi27120
        have h27119 : 0 ≤ r27117.toInt ∧ r27117.toInt ≤ 63 := h27119
        exact ret _ _ _ _ _ _ dX11_leaflet_90 rfl (by decide) (by decide) ⟨Iy27101, Xz27103, trivial⟩
  · have h27091 : r27087.toInt = 0 := congrArg Int32.toInt h27091
    clear hi27090
    refine g_iconst (v := (-1)) C dX11_leaflet_9 (by decide) ?_
    exact ret _ _ _ _ _ _ dX11_leaflet_10 rfl (by decide) (by decide) ⟨I, EK.rf, trivial⟩
theorem dX11_mark_0 : decode cX11_mark 0 = .ok (.iload_n 1, 1) := by decide +kernel
theorem dX11_mark_1 : decode cX11_mark 1 = .ok (.ifCond .lt 21, 3) := by decide +kernel
theorem dX11_mark_4 : decode cX11_mark 4 = .ok (.iload_n 1, 1) := by decide +kernel
theorem dX11_mark_5 : decode cX11_mark 5 = .ok (.iconst 4, 1) := by decide +kernel
theorem dX11_mark_6 : decode cX11_mark 6 = .ok (.if_icmp .ge 16, 3) := by decide +kernel
theorem dX11_mark_9 : decode cX11_mark 9 = .ok (.iload_n 2, 1) := by decide +kernel
theorem dX11_mark_10 : decode cX11_mark 10 = .ok (.ifCond .eq 14, 3) := by decide +kernel
theorem dX11_mark_13 : decode cX11_mark 13 = .ok (.aload_n 0, 1) := by decide +kernel
theorem dX11_mark_14 : decode cX11_mark 14 = .ok (.getfield 24, 3) := by decide +kernel
theorem dX11_mark_17 : decode cX11_mark 17 = .ok (.iload_n 1, 1) := by decide +kernel
theorem dX11_mark_18 : decode cX11_mark 18 = .ok (.baload, 1) := by decide +kernel
theorem dX11_mark_19 : decode cX11_mark 19 = .ok (.ifCond .ne 5, 3) := by decide +kernel
theorem dX11_mark_22 : decode cX11_mark 22 = .ok (.iconst 0, 1) := by decide +kernel
theorem dX11_mark_23 : decode cX11_mark 23 = .ok (.ireturn, 1) := by decide +kernel
theorem dX11_mark_24 : decode cX11_mark 24 = .ok (.iconst 0, 1) := by decide +kernel
theorem dX11_mark_25 : decode cX11_mark 25 = .ok (.istore_n 3, 1) := by decide +kernel
theorem dX11_mark_26 : decode cX11_mark 26 = .ok (.iload_n 3, 1) := by decide +kernel
theorem dX11_mark_27 : decode cX11_mark 27 = .ok (.iconst 4, 1) := by decide +kernel
theorem dX11_mark_28 : decode cX11_mark 28 = .ok (.if_icmp .ge 50, 3) := by decide +kernel
theorem dX11_mark_31 : decode cX11_mark 31 = .ok (.aload_n 0, 1) := by decide +kernel
theorem dX11_mark_32 : decode cX11_mark 32 = .ok (.getfield 21, 3) := by decide +kernel
theorem dX11_mark_35 : decode cX11_mark 35 = .ok (.iload_n 1, 1) := by decide +kernel
theorem dX11_mark_36 : decode cX11_mark 36 = .ok (.iconst 4, 1) := by decide +kernel
theorem dX11_mark_37 : decode cX11_mark 37 = .ok (.imul, 1) := by decide +kernel
theorem dX11_mark_38 : decode cX11_mark 38 = .ok (.iload_n 3, 1) := by decide +kernel
theorem dX11_mark_39 : decode cX11_mark 39 = .ok (.iadd, 1) := by decide +kernel
theorem dX11_mark_40 : decode cX11_mark 40 = .ok (.aaload, 1) := by decide +kernel
theorem dX11_mark_41 : decode cX11_mark 41 = .ok (.astore 4, 2) := by decide +kernel
theorem dX11_mark_43 : decode cX11_mark 43 = .ok (.iload_n 2, 1) := by decide +kernel
theorem dX11_mark_44 : decode cX11_mark 44 = .ok (.ifCond .eq 17, 3) := by decide +kernel
theorem dX11_mark_61 : decode cX11_mark 61 = .ok (.aload 4, 2) := by decide +kernel
theorem dX11_mark_63 : decode cX11_mark 63 = .ok (.aload_n 0, 1) := by decide +kernel
theorem dX11_mark_64 : decode cX11_mark 64 = .ok (.getfield 17, 3) := by decide +kernel
theorem dX11_mark_67 : decode cX11_mark 67 = .ok (.iload_n 3, 1) := by decide +kernel
theorem dX11_mark_68 : decode cX11_mark 68 = .ok (.aaload, 1) := by decide +kernel
theorem dX11_mark_69 : decode cX11_mark 69 = .ok (.invokevirtual 345, 3) := by decide +kernel
theorem dX6_copy_0 : decode cX6_copy 0 = .ok (.iconst 0, 1) := by decide +kernel
theorem dX6_copy_1 : decode cX6_copy 1 = .ok (.istore_n 2, 1) := by decide +kernel
theorem dX6_copy_2 : decode cX6_copy 2 = .ok (.iload_n 2, 1) := by decide +kernel
theorem dX6_copy_3 : decode cX6_copy 3 = .ok (.aload_n 1, 1) := by decide +kernel
theorem dX6_copy_4 : decode cX6_copy 4 = .ok (.getfield 17, 3) := by decide +kernel
theorem dX6_copy_7 : decode cX6_copy 7 = .ok (.if_icmp .ge 21, 3) := by decide +kernel
theorem dX6_copy_10 : decode cX6_copy 10 = .ok (.aload_n 0, 1) := by decide +kernel
theorem dX6_copy_11 : decode cX6_copy 11 = .ok (.getfield 11, 3) := by decide +kernel
theorem dX6_copy_14 : decode cX6_copy 14 = .ok (.iload_n 2, 1) := by decide +kernel
theorem dX6_copy_15 : decode cX6_copy 15 = .ok (.aload_n 1, 1) := by decide +kernel
theorem dX6_copy_16 : decode cX6_copy 16 = .ok (.getfield 11, 3) := by decide +kernel
theorem dX6_copy_19 : decode cX6_copy 19 = .ok (.iload_n 2, 1) := by decide +kernel
theorem dX6_copy_20 : decode cX6_copy 20 = .ok (.aaload, 1) := by decide +kernel
theorem dX6_copy_21 : decode cX6_copy 21 = .ok (.aastore, 1) := by decide +kernel
theorem dX6_copy_22 : decode cX6_copy 22 = .ok (.iinc 2 1, 3) := by decide +kernel
theorem dX6_copy_25 : decode cX6_copy 25 = .ok (.goto (-23), 3) := by decide +kernel
theorem dX6_copy_28 : decode cX6_copy 28 = .ok (.aload_n 0, 1) := by decide +kernel
theorem dX6_copy_29 : decode cX6_copy 29 = .ok (.aload_n 1, 1) := by decide +kernel
theorem dX6_copy_30 : decode cX6_copy 30 = .ok (.getfield 17, 3) := by decide +kernel
theorem dX6_copy_33 : decode cX6_copy 33 = .ok (.putfield 17, 3) := by decide +kernel
theorem dX6_copy_36 : decode cX6_copy 36 = .ok (.return_, 1) := by decide +kernel
set_option maxHeartbeats 4000000 in
set_option maxRecDepth 100000 in
theorem s_X6_copy {P : PP} {a0 : Nat} {a1 : Nat} (I : IV P) (ha0 : At P a0 6) (ha1 : At P a1 6) : CtrV yX6_copy cX6_copy 3 none ({ frames := 1, cells := 0, slots := 0, locals := 64 } : Room) 0 0 P [.ref a0, .ref a1] (fun P2 => IV P2 ∧ EK [6] P P2) := by
  refine enV (lv := [(0, .ref a0), (1, .ref a1)]) (by decide) (Nat.le_of_ble_eq_true rfl) rfl (fun E D cy C Ci0 ret => ?_)
  have J2 : ∀ (n2 : Nat) (P2 : PP) (v2_2 : Int32), (40 - v2_2.toInt).toNat < n2 → (IV P2) → (EK [6] P P2) → (0 ≤ v2_2.toInt ∧ v2_2.toInt ≤ 40) → G E ({ frames := 1, cells := 0, slots := 0, locals := 64 } : Room) D cy 3 P2 0 0 2 [(0, .ref a0), (1, .ref a1), (2, .int v2_2)] [] := by
    intro n2
    induction n2 with
    | zero => intro P2 v2_2 hm2 I2 X2 hv2_2; omega
    | succ n2 ih2 =>
      intro P2 v2_2 hm2 I2 X2 hv2_2
      have h27733 := X2.at ha0
      have h27734 := X2.at ha1
      refine g_iload_n C dX6_copy_2 rfl 2 rfl ?_
      refine g_aload_n C dX6_copy_3 rfl 1 rfl ?_
      refine g_getI C fi_X6_17 (by decide) (h27734).1 (h27734).2 dX6_copy_4 ?_
      have h27735 := I2.rg (h27734) 1 rfl
      refine b_icmp_ge C 28 dX6_copy_7 (by decide) (fun h27736 => ?_) (fun h27736 => ?_)
      · have h27736 : (pI P2 a1 1).toInt ≤ v2_2.toInt := h27736
        refine g_aload_n C dX6_copy_28 rfl 0 rfl ?_
        refine g_aload_n C dX6_copy_29 rfl 1 rfl ?_
        refine g_getI C fi_X6_17 (by decide) (h27734).1 (h27734).2 dX6_copy_30 ?_
        refine g_putI C fi_X6_17 rfl (h27733).1 (h27733).2 dX6_copy_33 ?_
        refine gpW (ks := [6]) (I2.setI (h27733) (rgOk.of rfl (by omega))) (EK.setI (h27733).2 (by decide)) (fun Y27737 Iy27738 Xy27739 w27740 w27741 => ?_)
        have Xz27742 : EK [6] P Y27737 := X2.tr (Xy27739.mono (by decide))
        have h27743 := Xy27739.at h27733
        have h27744 := Xy27739.at h27734
        exact ret _ _ _ _ _ dX6_copy_36 (by decide) (by decide) ⟨Iy27738, Xz27742⟩
      · have h27736 : v2_2.toInt < (pI P2 a1 1).toInt := h27736
        refine g_aload_n C dX6_copy_10 rfl 0 rfl ?_
        obtain ⟨b27745, e27746, h27747⟩ := I2.fld (h27733) 0 20 40 rfl
        refine g_getR C fi_X6_11 rfl e27746 (h27733).1 (h27733).2 dX6_copy_11 ?_
        refine g_iload_n C dX6_copy_14 rfl 2 rfl ?_
        refine g_aload_n C dX6_copy_15 rfl 1 rfl ?_
        obtain ⟨b27748, e27749, h27750⟩ := I2.fld (h27734) 0 20 40 rfl
        refine g_getR C fi_X6_11 rfl e27749 (h27734).1 (h27734).2 dX6_copy_16 ?_
        refine g_iload_n C dX6_copy_19 rfl 2 rfl ?_
        refine g_aldQ (j := (v2_2.toInt.toNat)) C h27750.1 h27750.2.1 (by decide) (ix_in h27750.2.2 (by omega)) dX6_copy_20 ?_
        rcases I2.pap h27750 (v2_2.toInt.toNat) with e27752 | ⟨b27751, e27752, h27753⟩
        · rw [e27752]
          show G _ _ _ _ _ _ _ _ _ _ (.null :: _)
          refine g_astN (j := (v2_2.toInt.toNat)) C h27747.1 h27747.2.1 (by decide) (ix_in h27747.2.2 (by omega)) dX6_copy_21 ?_
          refine gp (ks := []) (I2.setP h27747 (fun _ z => by cases z)) (EK.setR h27747.2.1 (by decide)) (fun Y27754 Iy27755 Xy27756 => ?_)
          have q27757 := Xy27756.keep h27734 (by decide) 1
          have Xz27758 : EK [6] P Y27754 := X2.tr (Xy27756.mono (by decide))
          have h27759 := Xy27756.at h27733
          have h27760 := Xy27756.at h27734
          refine s_iinc (lv0 := [(0, .ref a0), (1, .ref a1)]) (m := 1) C dX6_copy_22 2 rfl (by decide) rfl (by decide) (by omega) (fun z27761 h27762 => ?_)
          have h27762 : z27761.toInt = v2_2.toInt + 1 := h27762
          refine g_goto C 2 dX6_copy_25 (by decide) ?_
          refine g_lv (lv' := [(0, .ref a0), (1, .ref a1), (2, .int z27761)]) [1, 2, 0] rfl ?_
          exact ih2 Y27754 z27761 (by omega) Iy27755 Xz27758 (by omega)
        · rw [e27752]
          show G _ _ _ _ _ _ _ _ _ _ (.ref b27751 :: _)
          refine g_astR (j := (v2_2.toInt.toNat)) C h27747.1 h27747.2.1 (by decide) (ix_in h27747.2.2 (by omega)) (h27753).1 (h27753).2 (by decide) rfl rfl dX6_copy_21 ?_
          refine gp (ks := []) (I2.setP h27747 (fun _ z => by cases z; exact h27753)) (EK.setR h27747.2.1 (by decide)) (fun Y27763 Iy27764 Xy27765 => ?_)
          have q27766 := Xy27765.keep h27734 (by decide) 1
          have Xz27767 : EK [6] P Y27763 := X2.tr (Xy27765.mono (by decide))
          have h27768 := Xy27765.at h27733
          have h27769 := Xy27765.at h27734
          refine s_iinc (lv0 := [(0, .ref a0), (1, .ref a1)]) (m := 1) C dX6_copy_22 2 rfl (by decide) rfl (by decide) (by omega) (fun z27770 h27771 => ?_)
          have h27771 : z27770.toInt = v2_2.toInt + 1 := h27771
          refine g_goto C 2 dX6_copy_25 (by decide) ?_
          refine g_lv (lv' := [(0, .ref a0), (1, .ref a1), (2, .int z27770)]) [1, 2, 0] rfl ?_
          exact ih2 Y27763 z27770 (by omega) Iy27764 Xz27767 (by omega)
  refine g_iconst (v := 0) C dX6_copy_0 (by decide) ?_
  refine g_istore_n (lv' := [(2, .int 0), (0, .ref a0), (1, .ref a1)]) C dX6_copy_1 rfl (by decide) rfl ?_
  refine g_lv (lv' := [(0, .ref a0), (1, .ref a1), (2, .int 0)]) [1, 2, 0] rfl ?_
  exact J2 _ P 0 (Nat.lt_succ_self _) I EK.rf (by decide)
theorem dX11_mark_47 : decode cX11_mark 47 = .ok (.aload_n 0, 1) := by decide +kernel
theorem dX11_mark_48 : decode cX11_mark 48 = .ok (.getfield 17, 3) := by decide +kernel
theorem dX11_mark_51 : decode cX11_mark 51 = .ok (.iload_n 3, 1) := by decide +kernel
theorem dX11_mark_52 : decode cX11_mark 52 = .ok (.aaload, 1) := by decide +kernel
theorem dX11_mark_53 : decode cX11_mark 53 = .ok (.aload 4, 2) := by decide +kernel
theorem dX11_mark_55 : decode cX11_mark 55 = .ok (.invokevirtual 345, 3) := by decide +kernel
theorem dX11_mark_58 : decode cX11_mark 58 = .ok (.goto 14, 3) := by decide +kernel
theorem dX11_mark_72 : decode cX11_mark 72 = .ok (.iinc 3 1, 3) := by decide +kernel
theorem dX11_mark_75 : decode cX11_mark 75 = .ok (.goto (-49), 3) := by decide +kernel
theorem dX11_mark_78 : decode cX11_mark 78 = .ok (.aload_n 0, 1) := by decide +kernel
theorem dX11_mark_79 : decode cX11_mark 79 = .ok (.getfield 24, 3) := by decide +kernel
theorem dX11_mark_82 : decode cX11_mark 82 = .ok (.iload_n 1, 1) := by decide +kernel
theorem dX11_mark_83 : decode cX11_mark 83 = .ok (.iconst 1, 1) := by decide +kernel
theorem dX11_mark_84 : decode cX11_mark 84 = .ok (.bastore, 1) := by decide +kernel
theorem dX11_mark_85 : decode cX11_mark 85 = .ok (.iconst 1, 1) := by decide +kernel
theorem dX11_mark_86 : decode cX11_mark 86 = .ok (.ireturn, 1) := by decide +kernel
set_option maxHeartbeats 4000000 in
set_option maxRecDepth 100000 in
theorem s_X11_mark {P : PP} {a0 : Nat} {a1 : Int32} {a2 : Int32} (I : IV P) (ha0 : At P a0 11) (ha2 : 0 ≤ a2.toInt ∧ a2.toInt ≤ 1) : CtrI yX11_mark cX11_mark 5 (some Jvm.ClassFile.FieldType.boolean) ({ frames := 2, cells := 0, slots := 0, locals := 128 } : Room) 0 0 P [.ref a0, .int a1, .int a2] (fun r P2 => IV P2 ∧ EK [6, 15] P P2 ∧ (0 ≤ r.toInt ∧ r.toInt ≤ 1) ∧ (r.toInt = 0 ∨ (((0 : Int) ≤ a1.toInt ∧ a1.toInt ≤ (3 : Int))))) := by
  refine enI (lv := [(0, .ref a0), (1, .int a1), (2, .int a2)]) (by decide) (Nat.le_of_ble_eq_true rfl) rfl (fun E D cy C Ci0 ret => ?_)
  have J26 : ∀ (n26 : Nat) (P26 : PP) (v26_3 : Int32), (4 - v26_3.toInt).toNat < n26 → (IV P26) → (EK [6, 15] P P26) → (0 ≤ a1.toInt ∧ a1.toInt ≤ 3) → (0 ≤ v26_3.toInt ∧ v26_3.toInt ≤ 4) → G E ({ frames := 2, cells := 0, slots := 0, locals := 128 } : Room) D cy 5 P26 0 0 26 [(0, .ref a0), (1, .int a1), (2, .int a2), (3, .int v26_3)] [] := by
    intro n26
    induction n26 with
    | zero => intro P26 v26_3 hm26 I26 X26 hv26_1 hv26_3; omega
    | succ n26 ih26 =>
      intro P26 v26_3 hm26 I26 X26 hv26_1 hv26_3
      have h28007 := X26.at ha0
      have J72 : ∀ (P72 : PP), (IV P72) → (EK [6, 15] P P72) → (0 ≤ a1.toInt ∧ a1.toInt ≤ 3) → (0 ≤ v26_3.toInt ∧ v26_3.toInt ≤ 3) → G E ({ frames := 2, cells := 0, slots := 0, locals := 128 } : Room) D cy 5 P72 0 0 72 [(0, .ref a0), (1, .int a1), (2, .int a2), (3, .int v26_3)] [] := by
        intro P72 I72 X72 hv72_1 hv72_3
        have h28008 := X72.at ha0
        refine s_iinc (lv0 := [(0, .ref a0), (1, .int a1), (2, .int a2)]) (m := 1) C dX11_mark_72 3 rfl (by decide) rfl (by decide) (by omega) (fun z28009 h28010 => ?_)
        have h28010 : z28009.toInt = v26_3.toInt + 1 := h28010
        refine g_goto C 26 dX11_mark_75 (by decide) ?_
        refine g_lv (lv' := [(0, .ref a0), (1, .int a1), (2, .int a2), (3, .int z28009)]) [1, 2, 3, 0] rfl ?_
        exact ih26 P72 z28009 (by omega) I72 X72 (by omega) (by omega)
      refine g_iload_n C dX11_mark_26 rfl 3 rfl ?_
      refine g_iconst (v := 4) C dX11_mark_27 (by decide) ?_
      refine b_icmp_ge C 78 dX11_mark_28 (by decide) (fun h28011 => ?_) (fun h28011 => ?_)
      · have h28011 : 4 ≤ v26_3.toInt := h28011
        refine g_aload_n C dX11_mark_78 rfl 0 rfl ?_
        obtain ⟨b28012, e28013, h28014⟩ := I26.fld (h28007) 3 15 4 rfl
        refine g_getR C fi_X11_24 rfl e28013 (h28007).1 (h28007).2 dX11_mark_79 ?_
        refine g_iload_n C dX11_mark_82 rfl 1 rfl ?_
        refine g_iconst (v := 1) C dX11_mark_83 (by decide) ?_
        refine g_zast (j := (a1.toInt.toNat)) C h28014.1 h28014.2.1 (ix_in h28014.2.2 (by omega)) (Or.inr rfl) dX11_mark_84 ?_
        refine gp (ks := [15]) (I26.setA h28014 (by decide)) (EK.setI h28014.2.1 (by decide)) (fun Y28015 Iy28016 Xy28017 => ?_)
        have Xz28018 : EK [6, 15] P Y28015 := X26.tr (Xy28017.mono (by decide))
        have h28019 := Xy28017.at h28007
        refine g_iconst (v := 1) C dX11_mark_85 (by decide) ?_
        exact ret _ _ _ _ _ _ dX11_mark_86 rfl (by decide) (by decide) ⟨Iy28016, Xz28018, (by decide), Or.inr (by omega)⟩
      · have h28011 : v26_3.toInt < 4 := h28011
        refine g_aload_n C dX11_mark_31 rfl 0 rfl ?_
        obtain ⟨b28020, e28021, h28022⟩ := I26.fld (h28007) 2 19 16 rfl
        refine g_getR C fi_X11_21 rfl e28021 (h28007).1 (h28007).2 dX11_mark_32 ?_
        refine g_iload_n C dX11_mark_35 rfl 1 rfl ?_
        refine g_iconst (v := 4) C dX11_mark_36 (by decide) ?_
        refine s_imul C dX11_mark_37 (by show -2147483648 ≤ a1.toInt * 4 ∧ a1.toInt * 4 ≤ 2147483647; omega) (fun z28023 h28024 => ?_)
        have h28024 : z28023.toInt = a1.toInt * 4 := h28024
        refine g_iload_n C dX11_mark_38 rfl 3 rfl ?_
        refine s_iadd C dX11_mark_39 (by show -2147483648 ≤ z28023.toInt + v26_3.toInt ∧ z28023.toInt + v26_3.toInt ≤ 2147483647; omega) (fun z28025 h28026 => ?_)
        have h28026 : z28025.toInt = z28023.toInt + v26_3.toInt := h28026
        obtain ⟨b28027, e28028, h28029⟩ := I26.elm h28022 (by decide) (z28025.toInt.toNat) (by omega)
        refine g_aldR C h28022.1 h28022.2.1 (by decide) (ix_in h28022.2.2 (by omega)) e28028 dX11_mark_40 ?_
        refine g_astore (lv' := [(4, .ref b28027), (0, .ref a0), (1, .int a1), (2, .int a2), (3, .int v26_3)]) C dX11_mark_41 (by decide) rfl ?_
        refine g_iload_n C dX11_mark_43 rfl 3 rfl ?_
        refine b_if_eq C 61 dX11_mark_44 (by decide) (fun h28030 => ?_) (fun h28030 => ?_)
        · have h28030 : a2.toInt = 0 := congrArg Int32.toInt h28030
          refine g_aload C dX11_mark_61 0 rfl ?_
          refine g_aload_n C dX11_mark_63 rfl 1 rfl ?_
          obtain ⟨b28031, e28032, h28033⟩ := I26.fld (h28007) 1 19 4 rfl
          refine g_getR C fi_X11_17 rfl e28032 (h28007).1 (h28007).2 dX11_mark_64 ?_
          refine g_iload_n C dX11_mark_67 rfl 4 rfl ?_
          obtain ⟨b28034, e28035, h28036⟩ := I26.elm h28033 (by decide) (v26_3.toInt.toNat) (by omega)
          refine g_aldR C h28033.1 h28033.2.1 (by decide) (ix_in h28033.2.2 (by omega)) e28035 dX11_mark_68 ?_
          refine g_callVV (rest := []) C mv_X11_345 [.ref b28034] (s_X6_copy I26 h28029 h28036) (h28029).1 (h28029).2 rfl rfl (by decide) (Nat.le_of_ble_eq_true rfl) (by decide) dX11_mark_69 (fun Y28038 h28039 => ?_)
          obtain ⟨Iy28040, Xy28041⟩ := h28039
          have Xz28042 : EK [6, 15] P Y28038 := X26.tr (Xy28041.mono (by decide))
          have h28043 := Xy28041.at h28007
          have h28044 := Xy28041.at h28029
          refine g_lv (lv' := [(0, .ref a0), (1, .int a1), (2, .int a2), (3, .int v26_3)]) [1, 2, 3, 4] rfl ?_
          exact J72 Y28038 Iy28040 Xz28042 (by omega) (by omega)
        · have h28030 : a2.toInt ≠ 0 := ti_ne h28030
          refine g_aload_n C dX11_mark_47 rfl 1 rfl ?_
          obtain ⟨b28045, e28046, h28047⟩ := I26.fld (h28007) 1 19 4 rfl
          refine g_getR C fi_X11_17 rfl e28046 (h28007).1 (h28007).2 dX11_mark_48 ?_
          refine g_iload_n C dX11_mark_51 rfl 4 rfl ?_
          obtain ⟨b28048, e28049, h28050⟩ := I26.elm h28047 (by decide) (v26_3.toInt.toNat) (by omega)
          refine g_aldR C h28047.1 h28047.2.1 (by decide) (ix_in h28047.2.2 (by omega)) e28049 dX11_mark_52 ?_
          refine g_aload C dX11_mark_53 0 rfl ?_
          refine g_callVV (rest := []) C mv_X11_345 [.ref b28027] (s_X6_copy I26 h28050 h28029) (h28050).1 (h28050).2 rfl rfl (by decide) (Nat.le_of_ble_eq_true rfl) (by decide) dX11_mark_55 (fun Y28052 h28053 => ?_)
          obtain ⟨Iy28054, Xy28055⟩ := h28053
          have Xz28056 : EK [6, 15] P Y28052 := X26.tr (Xy28055.mono (by decide))
          have h28057 := Xy28055.at h28007
          have h28058 := Xy28055.at h28029
          refine g_goto C 72 dX11_mark_58 (by decide) ?_
          refine g_lv (lv' := [(0, .ref a0), (1, .int a1), (2, .int a2), (3, .int v26_3)]) [1, 2, 3, 4] rfl ?_
          exact J72 Y28052 Iy28054 Xz28056 (by omega) (by omega)
  have J24 : (0 ≤ a1.toInt ∧ a1.toInt ≤ 3) → G E ({ frames := 2, cells := 0, slots := 0, locals := 128 } : Room) D cy 5 P 0 0 24 [(0, .ref a0), (1, .int a1), (2, .int a2)] [] := by
    intro hv24_1
    refine g_iconst (v := 0) C dX11_mark_24 (by decide) ?_
    refine g_istore_n (lv' := [(3, .int 0), (0, .ref a0), (1, .int a1), (2, .int a2)]) C dX11_mark_25 rfl (by decide) rfl ?_
    refine g_lv (lv' := [(0, .ref a0), (1, .int a1), (2, .int a2), (3, .int 0)]) [1, 2, 3, 0] rfl ?_
    exact J26 _ P 0 (Nat.lt_succ_self _) I EK.rf (by omega) (by decide)
  have J22 : G E ({ frames := 2, cells := 0, slots := 0, locals := 128 } : Room) D cy 5 P 0 0 22 [] [] := by
    refine g_iconst (v := 0) C dX11_mark_22 (by decide) ?_
    exact ret _ _ _ _ _ _ dX11_mark_23 rfl (by decide) (by decide) ⟨I, EK.rf, (by decide), Or.inl rfl⟩
  refine g_iload_n C dX11_mark_0 rfl 1 rfl ?_
  have u28060 := ti_rng a1
  refine b_if_lt C 22 dX11_mark_1 (by decide) (fun h28059 => ?_) (fun h28059 => ?_)
  · have h28059 : a1.toInt < 0 := h28059
    refine g_lv (lv' := []) [] rfl ?_
    exact J22 
  · have h28059 : 0 ≤ a1.toInt := h28059
    refine g_iload_n C dX11_mark_4 rfl 1 rfl ?_
    refine g_iconst (v := 4) C dX11_mark_5 (by decide) ?_
    have u28062 := ti_rng a1
    refine b_icmp_ge C 22 dX11_mark_6 (by decide) (fun h28061 => ?_) (fun h28061 => ?_)
    · have h28061 : 4 ≤ a1.toInt := h28061
      refine g_lv (lv' := []) [] rfl ?_
      exact J22 
    · have h28061 : a1.toInt < 4 := h28061
      refine g_iload_n C dX11_mark_9 rfl 2 rfl ?_
      refine b_if_eq C 24 dX11_mark_10 (by decide) (fun h28063 => ?_) (fun h28063 => ?_)
      · have h28063 : a2.toInt = 0 := congrArg Int32.toInt h28063
        exact J24 (by omega)
      · have h28063 : a2.toInt ≠ 0 := ti_ne h28063
        refine g_aload_n C dX11_mark_13 rfl 0 rfl ?_
        obtain ⟨b28064, e28065, h28066⟩ := I.fld (ha0) 3 15 4 rfl
        refine g_getR C fi_X11_24 rfl e28065 (ha0).1 (ha0).2 dX11_mark_14 ?_
        refine g_iload_n C dX11_mark_17 rfl 1 rfl ?_
        refine g_zald (j := (a1.toInt.toNat)) C h28066.1 h28066.2.1 (ix_in h28066.2.2 (by omega)) dX11_mark_18 ?_
        refine g_topi (fun z28067 _ => ?_)
        have u28069 := ti_rng z28067
        refine b_if_ne C 24 dX11_mark_19 (by decide) (fun h28068 => ?_) (fun h28068 => ?_)
        · have h28068 : z28067.toInt ≠ 0 := ti_ne h28068
          exact J24 (by omega)
        · have h28068 : z28067.toInt = 0 := congrArg Int32.toInt h28068
          refine g_lv (lv' := []) [] rfl ?_
          exact J22 
theorem dX11_nameless_0 : decode cX11_nameless 0 = .ok (.iload_n 1, 1) := by decide +kernel
theorem dX11_nameless_1 : decode cX11_nameless 1 = .ok (.invokestatic 158, 3) := by decide +kernel
theorem dX11_nameless_4 : decode cX11_nameless 4 = .ok (.ifCond .eq 20, 3) := by decide +kernel
theorem dX11_nameless_7 : decode cX11_nameless 7 = .ok (.iload_n 2, 1) := by decide +kernel
theorem dX11_nameless_8 : decode cX11_nameless 8 = .ok (.invokestatic 173, 3) := by decide +kernel
theorem dX11_nameless_11 : decode cX11_nameless 11 = .ok (.ifCond .eq 13, 3) := by decide +kernel
theorem dX11_nameless_14 : decode cX11_nameless 14 = .ok (.iload_n 3, 1) := by decide +kernel
theorem dX11_nameless_15 : decode cX11_nameless 15 = .ok (.ifCond .lt 9, 3) := by decide +kernel
theorem dX11_nameless_18 : decode cX11_nameless 18 = .ok (.iload_n 3, 1) := by decide +kernel
theorem dX11_nameless_19 : decode cX11_nameless 19 = .ok (.ldc 104, 2) := by decide +kernel
theorem dX11_nameless_21 : decode cX11_nameless 21 = .ok (.if_icmp .le 5, 3) := by decide +kernel
theorem dX11_nameless_24 : decode cX11_nameless 24 = .ok (.iconst (-1), 1) := by decide +kernel
theorem dX11_nameless_25 : decode cX11_nameless 25 = .ok (.ireturn, 1) := by decide +kernel
theorem dX11_nameless_26 : decode cX11_nameless 26 = .ok (.aload_n 0, 1) := by decide +kernel
theorem dX11_nameless_27 : decode cX11_nameless 27 = .ok (.getfield 11, 3) := by decide +kernel
theorem dX11_nameless_30 : decode cX11_nameless 30 = .ok (.iconst 0, 1) := by decide +kernel
theorem dX11_nameless_31 : decode cX11_nameless 31 = .ok (.aaload, 1) := by decide +kernel
theorem dX11_nameless_32 : decode cX11_nameless 32 = .ok (.getfield 176, 3) := by decide +kernel
theorem dX11_nameless_35 : decode cX11_nameless 35 = .ok (.ifCond .eq 16, 3) := by decide +kernel
theorem dX11_nameless_38 : decode cX11_nameless 38 = .ok (.aload_n 0, 1) := by decide +kernel
theorem dX11_nameless_39 : decode cX11_nameless 39 = .ok (.getfield 11, 3) := by decide +kernel
theorem dX11_nameless_42 : decode cX11_nameless 42 = .ok (.iconst 0, 1) := by decide +kernel
theorem dX11_nameless_43 : decode cX11_nameless 43 = .ok (.aaload, 1) := by decide +kernel
theorem dX11_nameless_44 : decode cX11_nameless 44 = .ok (.iload_n 2, 1) := by decide +kernel
theorem dX11_nameless_45 : decode cX11_nameless 45 = .ok (.invokevirtual 140, 3) := by decide +kernel
theorem dX11_nameless_48 : decode cX11_nameless 48 = .ok (.goto 4, 3) := by decide +kernel
theorem dX11_nameless_51 : decode cX11_nameless 51 = .ok (.iconst 0, 1) := by decide +kernel
theorem dX11_nameless_52 : decode cX11_nameless 52 = .ok (.istore 4, 2) := by decide +kernel
theorem dX11_nameless_54 : decode cX11_nameless 54 = .ok (.aload_n 0, 1) := by decide +kernel
theorem dX11_nameless_55 : decode cX11_nameless 55 = .ok (.getfield 11, 3) := by decide +kernel
theorem dX11_nameless_58 : decode cX11_nameless 58 = .ok (.iconst 1, 1) := by decide +kernel
theorem dX11_nameless_59 : decode cX11_nameless 59 = .ok (.aaload, 1) := by decide +kernel
theorem dX11_nameless_60 : decode cX11_nameless 60 = .ok (.getfield 176, 3) := by decide +kernel
theorem dX11_nameless_63 : decode cX11_nameless 63 = .ok (.ifCond .eq 16, 3) := by decide +kernel
theorem dX11_nameless_66 : decode cX11_nameless 66 = .ok (.aload_n 0, 1) := by decide +kernel
theorem dX11_nameless_67 : decode cX11_nameless 67 = .ok (.getfield 11, 3) := by decide +kernel
theorem dX11_nameless_70 : decode cX11_nameless 70 = .ok (.iconst 1, 1) := by decide +kernel
theorem dX11_nameless_71 : decode cX11_nameless 71 = .ok (.aaload, 1) := by decide +kernel
theorem dX11_nameless_72 : decode cX11_nameless 72 = .ok (.iload_n 2, 1) := by decide +kernel
theorem dX11_nameless_73 : decode cX11_nameless 73 = .ok (.invokevirtual 140, 3) := by decide +kernel
theorem dX11_nameless_76 : decode cX11_nameless 76 = .ok (.goto 4, 3) := by decide +kernel
theorem dX11_nameless_79 : decode cX11_nameless 79 = .ok (.iconst 0, 1) := by decide +kernel
theorem dX11_nameless_80 : decode cX11_nameless 80 = .ok (.istore 5, 2) := by decide +kernel
theorem dX11_nameless_82 : decode cX11_nameless 82 = .ok (.aload_n 0, 1) := by decide +kernel
theorem dX11_nameless_83 : decode cX11_nameless 83 = .ok (.getfield 17, 3) := by decide +kernel
theorem dX11_nameless_86 : decode cX11_nameless 86 = .ok (.iload_n 1, 1) := by decide +kernel
theorem dX11_nameless_87 : decode cX11_nameless 87 = .ok (.aaload, 1) := by decide +kernel
theorem dX11_nameless_88 : decode cX11_nameless 88 = .ok (.new 180, 3) := by decide +kernel
theorem dX11_nameless_91 : decode cX11_nameless 91 = .ok (.dup, 1) := by decide +kernel
theorem dX11_nameless_92 : decode cX11_nameless 92 = .ok (.iconst (-1), 1) := by decide +kernel
theorem dX11_nameless_93 : decode cX11_nameless 93 = .ok (.iload_n 2, 1) := by decide +kernel
theorem dX11_nameless_94 : decode cX11_nameless 94 = .ok (.iload_n 3, 1) := by decide +kernel
theorem dX11_nameless_95 : decode cX11_nameless 95 = .ok (.iconst 3, 1) := by decide +kernel
theorem dX11_nameless_96 : decode cX11_nameless 96 = .ok (.iconst 0, 1) := by decide +kernel
theorem dX11_nameless_97 : decode cX11_nameless 97 = .ok (.iload 4, 2) := by decide +kernel
theorem dX11_nameless_99 : decode cX11_nameless 99 = .ok (.iload 5, 2) := by decide +kernel
theorem dX11_nameless_101 : decode cX11_nameless 101 = .ok (.invokespecial 182, 3) := by decide +kernel
theorem dX11_nameless_104 : decode cX11_nameless 104 = .ok (.invokevirtual 165, 3) := by decide +kernel
theorem dX11_nameless_107 : decode cX11_nameless 107 = .ok (.ireturn, 1) := by decide +kernel
set_option maxHeartbeats 4000000 in
set_option maxRecDepth 100000 in
theorem s_X11_nameless {P : PP} {a0 : Nat} {a1 : Int32} {a2 : Int32} {a3 : Int32} (I : IV P) (ha0 : At P a0 11) : CtrI yX11_nameless cX11_nameless 6 (some Jvm.ClassFile.FieldType.int) ({ frames := 5, cells := 1, slots := 7, locals := 320 } : Room) 1 7 P [.ref a0, .int a1, .int a2, .int a3] (fun r P2 => IV P2 ∧ EK [1, 6, 7, 13] P P2 ∧ (-1 ≤ r.toInt ∧ r.toInt ≤ 39)) := by
  refine enI (lv := [(0, .ref a0), (1, .int a1), (2, .int a2), (3, .int a3)]) (by decide) (Nat.le_of_ble_eq_true rfl) rfl (fun E D cy C Ci0 ret => ?_)
  have J80 : ∀ (P80 : PP) (v80_4 : Int32) (v80_s0 : Int32), (IV P80) → (EK [1, 6, 7, 13] P P80) → (0 ≤ a1.toInt ∧ a1.toInt ≤ 3) → (0 ≤ a2.toInt ∧ a2.toInt ≤ 9999) → (0 ≤ a3.toInt ∧ a3.toInt ≤ 65535) → G E ({ frames := 5, cells := 1, slots := 7, locals := 320 } : Room) D cy 6 P80 0 0 80 [(0, .ref a0), (1, .int a1), (2, .int a2), (3, .int a3), (4, .int v80_4)] [.int v80_s0] := by
    intro P80 v80_4 v80_s0 I80 X80 hv80_1 hv80_2 hv80_3
    have h28153 := X80.at ha0
    refine g_istore (lv' := [(5, .int v80_s0), (0, .ref a0), (1, .int a1), (2, .int a2), (3, .int a3), (4, .int v80_4)]) C dX11_nameless_80 (by decide) rfl ?_
    refine g_aload_n C dX11_nameless_82 rfl 1 rfl ?_
    obtain ⟨b28154, e28155, h28156⟩ := I80.fld (h28153) 1 19 4 rfl
    refine g_getR C fi_X11_17 rfl e28155 (h28153).1 (h28153).2 dX11_nameless_83 ?_
    refine g_iload_n C dX11_nameless_86 rfl 2 rfl ?_
    obtain ⟨b28157, e28158, h28159⟩ := I80.elm h28156 (by decide) (a1.toInt.toNat) (by omega)
    refine g_aldR C h28156.1 h28156.2.1 (by decide) (ix_in h28156.2.2 (by omega)) e28158 dX11_nameless_87 ?_
    refine g_new C ni_X11_180 (by decide) (by decide) dX11_nameless_88 (fun q28160 h28161 => ?_)
    have h28162 := At.new (P := P80) (q := q28160) (kd := 7) (n := 0)
    obtain ⟨Y28163, eY28163⟩ : ∃ Z : PP, Z = pNw P80 q28160 7 0 := ⟨_, rfl⟩
    rw [← eY28163] at h28162 ⊢
    have Iy28164 : IV Y28163 := by rw [eY28163]; exact I80.newP h28161
    have Xy28165 : EK [] P80 Y28163 := by rw [eY28163]; exact EK.new h28161
    clear eY28163
    have Xz28166 : EK [1, 6, 7, 13] P Y28163 := X80.tr (Xy28165.mono (by decide))
    have h28167 := Xy28165.at h28153
    have h28168 := Xy28165.at h28159
    refine g_dup C dX11_nameless_91 rfl ?_
    refine g_iconst (v := (-1)) C dX11_nameless_92 (by decide) ?_
    refine g_iload_n C dX11_nameless_93 rfl 3 rfl ?_
    refine g_iload_n C dX11_nameless_94 rfl 4 rfl ?_
    refine g_iconst (v := 3) C dX11_nameless_95 (by decide) ?_
    refine g_iconst (v := 0) C dX11_nameless_96 (by decide) ?_
    refine g_iload C dX11_nameless_97 5 rfl ?_
    refine g_iload C dX11_nameless_99 0 rfl ?_
    refine g_callCV (ci := 0) (ret := none) (rest := [.ref q28160, .ref b28157]) C mi_X11_182 [.int (-1), .int a2, .int a3, .int 3, .int 0, .int v80_4, .int v80_s0] (s_X7_init Iy28164 h28162 (by decide)) rfl rfl (by decide) (Nat.le_of_ble_eq_true rfl) (by decide) dX11_nameless_101 (fun Y28170 h28171 => ?_)
    obtain ⟨Iy28172, Xy28173⟩ := h28171
    have Xz28174 : EK [1, 6, 7, 13] P Y28170 := Xz28166.tr (Xy28173.mono (by decide))
    have h28175 := Xy28173.at h28167
    have h28176 := Xy28173.at h28168
    have h28177 := Xy28173.at h28162
    refine g_callVI (rest := []) C mv_X11_165 [.ref q28160] (s_X6_put Iy28172 h28176 h28177) (h28176).1 (h28176).2 rfl rfl (by decide) (Nat.le_of_ble_eq_true rfl) (by decide) dX11_nameless_104 (fun r28178 Y28179 h28180 => ?_)
    obtain ⟨Iy28181, Xy28182, h28180⟩ := h28180
    have Xz28183 : EK [1, 6, 7, 13] P Y28179 := Xz28174.tr (Xy28182.mono (by decide))
    have h28184 := Xy28182.at h28175
    have h28180 : -1 ≤ r28178.toInt ∧ r28178.toInt ≤ 39 := h28180
    exact ret _ _ _ _ _ _ dX11_nameless_107 rfl (by decide) (by decide) ⟨Iy28181, Xz28183, (by omega)⟩
  have J52 : ∀ (P52 : PP) (v52_s0 : Int32), (IV P52) → (EK [1, 6, 7, 13] P P52) → (0 ≤ a1.toInt ∧ a1.toInt ≤ 3) → (0 ≤ a2.toInt ∧ a2.toInt ≤ 9999) → (0 ≤ a3.toInt ∧ a3.toInt ≤ 65535) → G E ({ frames := 5, cells := 1, slots := 7, locals := 320 } : Room) D cy 6 P52 0 0 52 [(0, .ref a0), (1, .int a1), (2, .int a2), (3, .int a3)] [.int v52_s0] := by
    intro P52 v52_s0 I52 X52 hv52_1 hv52_2 hv52_3
    have h28185 := X52.at ha0
    refine g_istore (lv' := [(4, .int v52_s0), (0, .ref a0), (1, .int a1), (2, .int a2), (3, .int a3)]) C dX11_nameless_52 (by decide) rfl ?_
    refine g_aload_n C dX11_nameless_54 rfl 1 rfl ?_
    obtain ⟨b28186, e28187, h28188⟩ := I52.fld (h28185) 0 17 2 rfl
    refine g_getR C fi_X11_11 rfl e28187 (h28185).1 (h28185).2 dX11_nameless_55 ?_
    refine g_iconst (v := 1) C dX11_nameless_58 (by decide) ?_
    obtain ⟨b28189, e28190, h28191⟩ := I52.elm h28188 (by decide) 1 (by decide)
    refine g_aldR C h28188.1 h28188.2.1 (by decide) (IX.litn (j := 1) h28188.2.2 rfl (by decide) (by decide)) e28190 dX11_nameless_59 ?_
    refine g_getI C fi_X11_176 (by decide) (h28191).1 (h28191).2 dX11_nameless_60 ?_
    have h28192 := I52.rg (h28191) 4 rfl
    refine b_if_eq C 79 dX11_nameless_63 (by decide) (fun h28193 => ?_) (fun h28193 => ?_)
    · have h28193 : (pI P52 b28189 4).toInt = 0 := congrArg Int32.toInt h28193
      refine g_iconst (v := 0) C dX11_nameless_79 (by decide) ?_
      refine g_lv (lv' := [(0, .ref a0), (1, .int a1), (2, .int a2), (3, .int a3), (4, .int v52_s0)]) [1, 2, 3, 4, 0] rfl ?_
      exact J80 P52 v52_s0 0 I52 X52 (by omega) (by omega) (by omega)
    · have h28193 : (pI P52 b28189 4).toInt ≠ 0 := ti_ne h28193
      refine g_aload_n C dX11_nameless_66 rfl 1 rfl ?_
      refine g_getR C fi_X11_11 rfl e28187 (h28185).1 (h28185).2 dX11_nameless_67 ?_
      refine g_iconst (v := 1) C dX11_nameless_70 (by decide) ?_
      obtain ⟨b28194, e28195, h28196⟩ := I52.elm h28188 (by decide) 1 (by decide)
      refine g_aldR C h28188.1 h28188.2.1 (by decide) (IX.litn (j := 1) h28188.2.2 rfl (by decide) (by decide)) e28195 dX11_nameless_71 ?_
      refine g_iload_n C dX11_nameless_72 rfl 3 rfl ?_
      refine g_callVI (rest := []) C mv_X11_140 [.int a2] (s_X1_pagesOf I52 h28196) (h28196).1 (h28196).2 rfl rfl (by decide) (Nat.le_of_ble_eq_true rfl) (by decide) dX11_nameless_73 (fun r28197 Y28198 h28199 => ?_)
      obtain ⟨Iy28200, Xy28201, h28199⟩ := h28199
      have Xz28202 : EK [1, 6, 7, 13] P Y28198 := X52.tr (Xy28201.mono (by decide))
      have h28203 := Xy28201.at h28185
      have h28199 : True := h28199
      refine g_goto C 80 dX11_nameless_76 (by decide) ?_
      refine g_lv (lv' := [(0, .ref a0), (1, .int a1), (2, .int a2), (3, .int a3), (4, .int v52_s0)]) [1, 2, 3, 4, 0] rfl ?_
      exact J80 Y28198 v52_s0 r28197 Iy28200 Xz28202 (by omega) (by omega) (by omega)
  have J24 : G E ({ frames := 5, cells := 1, slots := 7, locals := 320 } : Room) D cy 6 P 0 0 24 [] [] := by
    refine g_iconst (v := (-1)) C dX11_nameless_24 (by decide) ?_
    exact ret _ _ _ _ _ _ dX11_nameless_25 rfl (by decide) (by decide) ⟨I, EK.rf, (by decide)⟩
  refine g_iload_n C dX11_nameless_0 rfl 1 rfl ?_
  refine g_callSI (b := 0) (ci := 0) (rest := []) C ms_X11_158 [.int a1] (s_X11_isQuarter I) rfl rfl (by decide) (Nat.le_of_ble_eq_true rfl) (by decide) dX11_nameless_1 (fun r28204 Y28205 h28206 => ?_)
  obtain ⟨rfl, h28206⟩ := h28206
  obtain ⟨h28206, hi28207⟩ := h28206
  have hi28207 : r28204.toInt = 0 ∨ (((0 : Int) ≤ a1.toInt ∧ a1.toInt ≤ (3 : Int))) := hi28207
  have h28206 : 0 ≤ r28204.toInt ∧ r28204.toInt ≤ 1 := h28206
  refine b_if_eq C 24 dX11_nameless_4 (by decide) (fun h28208 => ?_) (fun h28208 => ?_)
  · have h28208 : r28204.toInt = 0 := congrArg Int32.toInt h28208
    clear hi28207
    refine g_lv (lv' := []) [] rfl ?_
    exact J24 
  · have h28208 : r28204.toInt ≠ 0 := ti_ne h28208
    replace hi28207 := hi28207.resolve_left (by omega)
    refine g_iload_n C dX11_nameless_7 rfl 2 rfl ?_
    refine g_callSI (b := 0) (ci := 0) (rest := []) C ms_X11_173 [.int a2] (s_X11_isNumber I) rfl rfl (by decide) (Nat.le_of_ble_eq_true rfl) (by decide) dX11_nameless_8 (fun r28209 Y28210 h28211 => ?_)
    obtain ⟨rfl, h28211⟩ := h28211
    obtain ⟨h28211, hi28212⟩ := h28211
    have hi28212 : r28209.toInt = 0 ∨ (((0 : Int) ≤ a2.toInt ∧ a2.toInt ≤ (9999 : Int))) := hi28212
    have h28211 : 0 ≤ r28209.toInt ∧ r28209.toInt ≤ 1 := h28211
    refine b_if_eq C 24 dX11_nameless_11 (by decide) (fun h28213 => ?_) (fun h28213 => ?_)
    · have h28213 : r28209.toInt = 0 := congrArg Int32.toInt h28213
      clear hi28212
      refine g_lv (lv' := []) [] rfl ?_
      exact J24 
    · have h28213 : r28209.toInt ≠ 0 := ti_ne h28213
      replace hi28212 := hi28212.resolve_left (by omega)
      refine g_iload_n C dX11_nameless_14 rfl 3 rfl ?_
      have u28215 := ti_rng a3
      refine b_if_lt C 24 dX11_nameless_15 (by decide) (fun h28214 => ?_) (fun h28214 => ?_)
      · have h28214 : a3.toInt < 0 := h28214
        refine g_lv (lv' := []) [] rfl ?_
        exact J24 
      · have h28214 : 0 ≤ a3.toInt := h28214
        refine g_iload_n C dX11_nameless_18 rfl 3 rfl ?_
        refine g_ldc (v := 65535) C kc_X11_104 dX11_nameless_19 ?_
        have u28217 := ti_rng a3
        refine b_icmp_le C 26 dX11_nameless_21 (by decide) (fun h28216 => ?_) (fun h28216 => ?_)
        · have h28216 : a3.toInt ≤ 65535 := h28216
          refine g_aload_n C dX11_nameless_26 rfl 0 rfl ?_
          obtain ⟨b28218, e28219, h28220⟩ := I.fld (ha0) 0 17 2 rfl
          refine g_getR C fi_X11_11 rfl e28219 (ha0).1 (ha0).2 dX11_nameless_27 ?_
          refine g_iconst (v := 0) C dX11_nameless_30 (by decide) ?_
          obtain ⟨b28221, e28222, h28223⟩ := I.elm h28220 (by decide) 0 (by decide)
          refine g_aldR C h28220.1 h28220.2.1 (by decide) (IX.litn (j := 0) h28220.2.2 rfl (by decide) (by decide)) e28222 dX11_nameless_31 ?_
          refine g_getI C fi_X11_176 (by decide) (h28223).1 (h28223).2 dX11_nameless_32 ?_
          have h28224 := I.rg (h28223) 4 rfl
          refine b_if_eq C 51 dX11_nameless_35 (by decide) (fun h28225 => ?_) (fun h28225 => ?_)
          · have h28225 : (pI P b28221 4).toInt = 0 := congrArg Int32.toInt h28225
            refine g_iconst (v := 0) C dX11_nameless_51 (by decide) ?_
            exact J52 P 0 I EK.rf (by omega) (by omega) (by omega)
          · have h28225 : (pI P b28221 4).toInt ≠ 0 := ti_ne h28225
            refine g_aload_n C dX11_nameless_38 rfl 0 rfl ?_
            refine g_getR C fi_X11_11 rfl e28219 (ha0).1 (ha0).2 dX11_nameless_39 ?_
            refine g_iconst (v := 0) C dX11_nameless_42 (by decide) ?_
            obtain ⟨b28226, e28227, h28228⟩ := I.elm h28220 (by decide) 0 (by decide)
            refine g_aldR C h28220.1 h28220.2.1 (by decide) (IX.litn (j := 0) h28220.2.2 rfl (by decide) (by decide)) e28227 dX11_nameless_43 ?_
            refine g_iload_n C dX11_nameless_44 rfl 2 rfl ?_
            refine g_callVI (rest := []) C mv_X11_140 [.int a2] (s_X1_pagesOf I h28228) (h28228).1 (h28228).2 rfl rfl (by decide) (Nat.le_of_ble_eq_true rfl) (by decide) dX11_nameless_45 (fun r28229 Y28230 h28231 => ?_)
            obtain ⟨Iy28232, Xy28233, h28231⟩ := h28231
            have Xz28234 : EK [1, 6, 7, 13] P Y28230 := Xy28233.mono (by decide)
            have h28235 := Xy28233.at ha0
            have h28231 : True := h28231
            refine g_goto C 52 dX11_nameless_48 (by decide) ?_
            exact J52 Y28230 r28229 Iy28232 Xz28234 (by omega) (by omega) (by omega)
        · have h28216 : 65535 < a3.toInt := h28216
          refine g_lv (lv' := []) [] rfl ?_
          exact J24 
theorem dX11_neededIn_0 : decode cX11_neededIn 0 = .ok (.aload_n 0, 1) := by decide +kernel
theorem dX11_neededIn_1 : decode cX11_neededIn 1 = .ok (.getfield 53, 3) := by decide +kernel
theorem dX11_neededIn_4 : decode cX11_neededIn 4 = .ok (.iconst 0, 1) := by decide +kernel
theorem dX11_neededIn_5 : decode cX11_neededIn 5 = .ok (.aaload, 1) := by decide +kernel
theorem dX11_neededIn_6 : decode cX11_neededIn 6 = .ok (.astore_n 3, 1) := by decide +kernel
theorem dX11_neededIn_7 : decode cX11_neededIn 7 = .ok (.aload_n 0, 1) := by decide +kernel
theorem dX11_neededIn_8 : decode cX11_neededIn 8 = .ok (.getfield 47, 3) := by decide +kernel
theorem dX11_neededIn_11 : decode cX11_neededIn 11 = .ok (.iconst 0, 1) := by decide +kernel
theorem dX11_neededIn_12 : decode cX11_neededIn 12 = .ok (.aaload, 1) := by decide +kernel
theorem dX11_neededIn_13 : decode cX11_neededIn 13 = .ok (.aload_n 2, 1) := by decide +kernel
theorem dX11_neededIn_14 : decode cX11_neededIn 14 = .ok (.invokevirtual 371, 3) := by decide +kernel
theorem dX11_neededIn_17 : decode cX11_neededIn 17 = .ok (.aload_n 3, 1) := by decide +kernel
theorem dX11_neededIn_18 : decode cX11_neededIn 18 = .ok (.aload_n 0, 1) := by decide +kernel
theorem dX11_neededIn_19 : decode cX11_neededIn 19 = .ok (.getfield 47, 3) := by decide +kernel
theorem dX11_neededIn_22 : decode cX11_neededIn 22 = .ok (.iconst 0, 1) := by decide +kernel
theorem dX11_neededIn_23 : decode cX11_neededIn 23 = .ok (.aaload, 1) := by decide +kernel
theorem dX11_neededIn_24 : decode cX11_neededIn 24 = .ok (.iconst (-1), 1) := by decide +kernel
theorem dX11_neededIn_25 : decode cX11_neededIn 25 = .ok (.invokevirtual 236, 3) := by decide +kernel
theorem dX11_neededIn_28 : decode cX11_neededIn 28 = .ok (.aload_n 2, 1) := by decide +kernel
theorem dX11_neededIn_29 : decode cX11_neededIn 29 = .ok (.invokevirtual 233, 3) := by decide +kernel
theorem dX11_neededIn_32 : decode cX11_neededIn 32 = .ok (.istore 4, 2) := by decide +kernel
theorem dX11_neededIn_34 : decode cX11_neededIn 34 = .ok (.iconst 0, 1) := by decide +kernel
theorem dX11_neededIn_35 : decode cX11_neededIn 35 = .ok (.istore 5, 2) := by decide +kernel
theorem dX11_neededIn_37 : decode cX11_neededIn 37 = .ok (.iload 5, 2) := by decide +kernel
theorem dX11_neededIn_39 : decode cX11_neededIn 39 = .ok (.bipush 60, 2) := by decide +kernel
theorem dX11_neededIn_41 : decode cX11_neededIn 41 = .ok (.if_icmp .ge 42, 3) := by decide +kernel
theorem dX11_neededIn_44 : decode cX11_neededIn 44 = .ok (.aload_n 3, 1) := by decide +kernel
theorem dX11_neededIn_45 : decode cX11_neededIn 45 = .ok (.getfield 246, 3) := by decide +kernel
theorem dX11_neededIn_48 : decode cX11_neededIn 48 = .ok (.iload 4, 2) := by decide +kernel
theorem dX11_neededIn_50 : decode cX11_neededIn 50 = .ok (.if_icmp .lt 6, 3) := by decide +kernel
theorem dX11_neededIn_53 : decode cX11_neededIn 53 = .ok (.iload 5, 2) := by decide +kernel
theorem dX11_neededIn_55 : decode cX11_neededIn 55 = .ok (.ireturn, 1) := by decide +kernel
theorem dX11_neededIn_56 : decode cX11_neededIn 56 = .ok (.aload_n 0, 1) := by decide +kernel
theorem dX11_neededIn_57 : decode cX11_neededIn 57 = .ok (.aload_n 2, 1) := by decide +kernel
theorem dX11_neededIn_58 : decode cX11_neededIn 58 = .ok (.iload 5, 2) := by decide +kernel
theorem dX11_neededIn_60 : decode cX11_neededIn 60 = .ok (.iload_n 1, 1) := by decide +kernel
theorem dX11_neededIn_61 : decode cX11_neededIn 61 = .ok (.invokevirtual 397, 3) := by decide +kernel
theorem dX11_neededIn_64 : decode cX11_neededIn 64 = .ok (.ifCond .eq 13, 3) := by decide +kernel
theorem dX11_neededIn_67 : decode cX11_neededIn 67 = .ok (.aload_n 3, 1) := by decide +kernel
theorem dX11_neededIn_68 : decode cX11_neededIn 68 = .ok (.aload_n 2, 1) := by decide +kernel
theorem dX11_neededIn_69 : decode cX11_neededIn 69 = .ok (.iload 5, 2) := by decide +kernel
theorem dX11_neededIn_71 : decode cX11_neededIn 71 = .ok (.invokevirtual 140, 3) := by decide +kernel
theorem dX11_neededIn_74 : decode cX11_neededIn 74 = .ok (.invokevirtual 392, 3) := by decide +kernel
theorem dX11_neededIn_77 : decode cX11_neededIn 77 = .ok (.iinc 5 1, 3) := by decide +kernel
theorem dX11_neededIn_80 : decode cX11_neededIn 80 = .ok (.goto (-43), 3) := by decide +kernel
theorem dX11_neededIn_83 : decode cX11_neededIn 83 = .ok (.aload_n 3, 1) := by decide +kernel
theorem dX11_neededIn_84 : decode cX11_neededIn 84 = .ok (.getfield 246, 3) := by decide +kernel
theorem dX11_neededIn_87 : decode cX11_neededIn 87 = .ok (.iload 4, 2) := by decide +kernel
theorem dX11_neededIn_89 : decode cX11_neededIn 89 = .ok (.if_icmp .lt 8, 3) := by decide +kernel
theorem dX11_neededIn_92 : decode cX11_neededIn 92 = .ok (.bipush 60, 2) := by decide +kernel
theorem dX11_neededIn_94 : decode cX11_neededIn 94 = .ok (.goto 4, 3) := by decide +kernel
theorem dX11_neededIn_97 : decode cX11_neededIn 97 = .ok (.iconst (-1), 1) := by decide +kernel
theorem dX11_neededIn_98 : decode cX11_neededIn 98 = .ok (.ireturn, 1) := by decide +kernel
set_option maxHeartbeats 4000000 in
set_option maxRecDepth 100000 in
theorem s_X11_neededIn {P : PP} {a0 : Nat} {a1 : Int32} {a2 : Nat} (I : IV P) (ha0 : At P a0 11) (ha1 : 0 ≤ a1.toInt ∧ a1.toInt ≤ 3) (ha2 : At P a2 1) : CtrI yX11_neededIn cX11_neededIn 6 (some Jvm.ClassFile.FieldType.int) ({ frames := 5, cells := 0, slots := 0, locals := 320 } : Room) 0 0 P [.ref a0, .int a1, .ref a2] (fun r P2 => IV P2 ∧ EK [0, 1, 5, 13] P P2 ∧ (-1 ≤ r.toInt ∧ r.toInt ≤ 60)) := by
  refine enI (lv := [(0, .ref a0), (1, .int a1), (2, .ref a2)]) (by decide) (Nat.le_of_ble_eq_true rfl) rfl (fun E D cy C Ci0 ret => ?_)
  have J37 : ∀ (n37 : Nat) (P37 : PP) (b37_3 : Nat) (v37_4 : Int32) (v37_5 : Int32), (60 - v37_5.toInt).toNat < n37 → (IV P37) → (EK [0, 1, 5, 13] P P37) → (At P37 b37_3 0) → (0 ≤ v37_4.toInt ∧ v37_4.toInt ≤ 20) → (0 ≤ v37_5.toInt ∧ v37_5.toInt ≤ 60) → G E ({ frames := 5, cells := 0, slots := 0, locals := 320 } : Room) D cy 6 P37 0 0 37 [(0, .ref a0), (1, .int a1), (2, .ref a2), (3, .ref b37_3), (4, .int v37_4), (5, .int v37_5)] [] := by
    intro n37
    induction n37 with
    | zero => intro P37 b37_3 v37_4 v37_5 hm37 I37 X37 hb37_3 hv37_4 hv37_5; omega
    | succ n37 ih37 =>
      intro P37 b37_3 v37_4 v37_5 hm37 I37 X37 hb37_3 hv37_4 hv37_5
      have h28917 := X37.at ha0
      have h28918 := X37.at ha2
      have J77 : ∀ (P77 : PP) (b77_3 : Nat), (IV P77) → (EK [0, 1, 5, 13] P P77) → (At P77 b77_3 0) → (1 ≤ v37_4.toInt ∧ v37_4.toInt ≤ 20) → (0 ≤ v37_5.toInt ∧ v37_5.toInt ≤ 59) → G E ({ frames := 5, cells := 0, slots := 0, locals := 320 } : Room) D cy 6 P77 0 0 77 [(0, .ref a0), (1, .int a1), (2, .ref a2), (3, .ref b77_3), (4, .int v37_4), (5, .int v37_5)] [] := by
        intro P77 b77_3 I77 X77 hb77_3 hv77_4 hv77_5
        have h28919 := X77.at ha0
        have h28920 := X77.at ha2
        refine s_iinc (lv0 := [(0, .ref a0), (1, .int a1), (2, .ref a2), (3, .ref b77_3), (4, .int v37_4)]) (m := 1) C dX11_neededIn_77 5 rfl (by decide) rfl (by decide) (by omega) (fun z28921 h28922 => ?_)
        have h28922 : z28921.toInt = v37_5.toInt + 1 := h28922
        refine g_goto C 37 dX11_neededIn_80 (by decide) ?_
        refine g_lv (lv' := [(0, .ref a0), (1, .int a1), (2, .ref a2), (3, .ref b77_3), (4, .int v37_4), (5, .int z28921)]) [1, 2, 3, 4, 5, 0] rfl ?_
        exact ih37 P77 b77_3 v37_4 z28921 (by omega) I77 X77 hb77_3 (by omega) (by omega)
      refine g_iload C dX11_neededIn_37 5 rfl ?_
      refine g_bipush (v := 60) C dX11_neededIn_39 (by decide) ?_
      refine b_icmp_ge C 83 dX11_neededIn_41 (by decide) (fun h28923 => ?_) (fun h28923 => ?_)
      · have h28923 : 60 ≤ v37_5.toInt := h28923
        refine g_aload_n C dX11_neededIn_83 rfl 3 rfl ?_
        refine g_getI C fi_X11_246 (by decide) (hb37_3).1 (hb37_3).2 dX11_neededIn_84 ?_
        have h28924 := I37.rg (hb37_3) 2 rfl
        refine g_iload C dX11_neededIn_87 4 rfl ?_
        refine b_icmp_lt C 97 dX11_neededIn_89 (by decide) (fun h28925 => ?_) (fun h28925 => ?_)
        · have h28925 : (pI P37 b37_3 2).toInt < v37_4.toInt := h28925
          refine g_iconst (v := (-1)) C dX11_neededIn_97 (by decide) ?_
          exact ret _ _ _ _ _ _ dX11_neededIn_98 rfl (by decide) (by decide) ⟨I37, X37, (by decide)⟩
        · have h28925 : v37_4.toInt ≤ (pI P37 b37_3 2).toInt := h28925
          refine g_bipush (v := 60) C dX11_neededIn_92 (by decide) ?_
          refine g_goto C 98 dX11_neededIn_94 (by decide) ?_
          exact ret _ _ _ _ _ _ dX11_neededIn_98 rfl (by decide) (by decide) ⟨I37, X37, (by decide)⟩
      · have h28923 : v37_5.toInt < 60 := h28923
        refine g_aload_n C dX11_neededIn_44 rfl 3 rfl ?_
        refine g_getI C fi_X11_246 (by decide) (hb37_3).1 (hb37_3).2 dX11_neededIn_45 ?_
        have h28926 := I37.rg (hb37_3) 2 rfl
        refine g_iload C dX11_neededIn_48 4 rfl ?_
        refine b_icmp_lt C 56 dX11_neededIn_50 (by decide) (fun h28927 => ?_) (fun h28927 => ?_)
        · have h28927 : (pI P37 b37_3 2).toInt < v37_4.toInt := h28927
          refine g_aload_n C dX11_neededIn_56 rfl 0 rfl ?_
          refine g_aload_n C dX11_neededIn_57 rfl 2 rfl ?_
          refine g_iload C dX11_neededIn_58 5 rfl ?_
          refine g_iload_n C dX11_neededIn_60 rfl 1 rfl ?_
          refine g_callVI (rest := []) C mv_X11_397 [.ref a2, .int v37_5, .int a1] (s_X11_falls I37 h28917 h28918 (by omega)) (h28917).1 (h28917).2 rfl rfl (by decide) (Nat.le_of_ble_eq_true rfl) (by decide) dX11_neededIn_61 (fun r28928 Y28929 h28930 => ?_)
          obtain ⟨rfl, h28930⟩ := h28930
          have h28930 : 0 ≤ r28928.toInt ∧ r28928.toInt ≤ 1 := h28930
          refine b_if_eq C 77 dX11_neededIn_64 (by decide) (fun h28931 => ?_) (fun h28931 => ?_)
          · have h28931 : r28928.toInt = 0 := congrArg Int32.toInt h28931
            exact J77 P37 b37_3 I37 X37 hb37_3 (by omega) (by omega)
          · have h28931 : r28928.toInt ≠ 0 := ti_ne h28931
            refine g_aload_n C dX11_neededIn_67 rfl 3 rfl ?_
            refine g_aload_n C dX11_neededIn_68 rfl 2 rfl ?_
            refine g_iload C dX11_neededIn_69 5 rfl ?_
            refine g_callVI (rest := [.ref b37_3]) C mv_X11_140 [.int v37_5] (s_X1_pagesOf I37 h28918) (h28918).1 (h28918).2 rfl rfl (by decide) (Nat.le_of_ble_eq_true rfl) (by decide) dX11_neededIn_71 (fun r28932 Y28933 h28934 => ?_)
            obtain ⟨Iy28935, Xy28936, h28934⟩ := h28934
            have q28937 := Xy28936.keep hb37_3 (by decide) 2
            have Xz28938 : EK [0, 1, 5, 13] P Y28933 := X37.tr (Xy28936.mono (by decide))
            have h28939 := Xy28936.at h28917
            have h28940 := Xy28936.at h28918
            have h28941 := Xy28936.at hb37_3
            have h28934 : True := h28934
            refine g_callVV (rest := []) C mv_X11_392 [.int r28932] (s_X0_add Iy28935 h28941) (h28941).1 (h28941).2 rfl rfl (by decide) (Nat.le_of_ble_eq_true rfl) (by decide) dX11_neededIn_74 (fun Y28943 h28944 => ?_)
            obtain ⟨Iy28945, Xy28946⟩ := h28944
            have Xz28947 : EK [0, 1, 5, 13] P Y28943 := Xz28938.tr (Xy28946.mono (by decide))
            have h28948 := Xy28946.at h28939
            have h28949 := Xy28946.at h28940
            have h28950 := Xy28946.at h28941
            exact J77 Y28943 b37_3 Iy28945 Xz28947 h28950 (by omega) (by omega)
        · have h28927 : v37_4.toInt ≤ (pI P37 b37_3 2).toInt := h28927
          refine g_iload C dX11_neededIn_53 5 rfl ?_
          exact ret _ _ _ _ _ _ dX11_neededIn_55 rfl (by decide) (by decide) ⟨I37, X37, (by omega)⟩
  refine g_aload_n C dX11_neededIn_0 rfl 0 rfl ?_
  obtain ⟨b28951, e28952, h28953⟩ := I.fld (ha0) 9 16 2 rfl
  refine g_getR C fi_X11_53 rfl e28952 (ha0).1 (ha0).2 dX11_neededIn_1 ?_
  refine g_iconst (v := 0) C dX11_neededIn_4 (by decide) ?_
  obtain ⟨b28954, e28955, h28956⟩ := I.elm h28953 (by decide) 0 (by decide)
  refine g_aldR C h28953.1 h28953.2.1 (by decide) (IX.litn (j := 0) h28953.2.2 rfl (by decide) (by decide)) e28955 dX11_neededIn_5 ?_
  refine g_astore_n (lv' := [(3, .ref b28954), (0, .ref a0), (1, .int a1), (2, .ref a2)]) C dX11_neededIn_6 rfl (by decide) rfl ?_
  refine g_aload_n C dX11_neededIn_7 rfl 1 rfl ?_
  obtain ⟨b28957, e28958, h28959⟩ := I.fld (ha0) 8 18 2 rfl
  refine g_getR C fi_X11_47 rfl e28958 (ha0).1 (ha0).2 dX11_neededIn_8 ?_
  refine g_iconst (v := 0) C dX11_neededIn_11 (by decide) ?_
  obtain ⟨b28960, e28961, h28962⟩ := I.elm h28959 (by decide) 0 (by decide)
  refine g_aldR C h28959.1 h28959.2.1 (by decide) (IX.litn (j := 0) h28959.2.2 rfl (by decide) (by decide)) e28961 dX11_neededIn_12 ?_
  refine g_aload_n C dX11_neededIn_13 rfl 3 rfl ?_
  refine g_callVV (rest := []) C mv_X11_371 [.ref a2] (s_X5_startWith I h28962 ha2) (h28962).1 (h28962).2 rfl rfl (by decide) (Nat.le_of_ble_eq_true rfl) (by decide) dX11_neededIn_14 (fun Y28964 h28965 => ?_)
  obtain ⟨Iy28966, Xy28967⟩ := h28965
  have Xz28968 : EK [0, 1, 5, 13] P Y28964 := Xy28967.mono (by decide)
  have h28969 := Xy28967.at ha0
  have h28970 := Xy28967.at ha2
  have h28971 := Xy28967.at h28956
  refine g_aload_n C dX11_neededIn_17 rfl 0 rfl ?_
  refine g_aload_n C dX11_neededIn_18 rfl 1 rfl ?_
  obtain ⟨b28972, e28973, h28974⟩ := Iy28966.fld (h28969) 8 18 2 rfl
  refine g_getR C fi_X11_47 rfl e28973 (h28969).1 (h28969).2 dX11_neededIn_19 ?_
  refine g_iconst (v := 0) C dX11_neededIn_22 (by decide) ?_
  obtain ⟨b28975, e28976, h28977⟩ := Iy28966.elm h28974 (by decide) 0 (by decide)
  refine g_aldR C h28974.1 h28974.2.1 (by decide) (IX.litn (j := 0) h28974.2.2 rfl (by decide) (by decide)) e28976 dX11_neededIn_23 ?_
  refine g_iconst (v := (-1)) C dX11_neededIn_24 (by decide) ?_
  refine g_callVV (rest := []) C mv_X11_236 [.ref b28975, .int (-1)] (s_X0_take Iy28966 h28971 h28977) (h28971).1 (h28971).2 rfl rfl (by decide) (Nat.le_of_ble_eq_true rfl) (by decide) dX11_neededIn_25 (fun Y28979 h28980 => ?_)
  obtain ⟨Iy28981, Xy28982⟩ := h28980
  have Xz28983 : EK [0, 1, 5, 13] P Y28979 := Xz28968.tr (Xy28982.mono (by decide))
  have h28984 := Xy28982.at h28969
  have h28985 := Xy28982.at h28970
  have h28986 := Xy28982.at h28971
  refine g_aload_n C dX11_neededIn_28 rfl 3 rfl ?_
  refine g_callVI (rest := []) C mv_X11_233 [] (s_X1_all Iy28981 h28985) (h28985).1 (h28985).2 rfl rfl (by decide) (Nat.le_of_ble_eq_true rfl) (by decide) dX11_neededIn_29 (fun r28987 Y28988 h28989 => ?_)
  obtain ⟨rfl, h28989⟩ := h28989
  have h28989 : 0 ≤ r28987.toInt ∧ r28987.toInt ≤ 20 := h28989
  refine g_istore (lv' := [(4, .int r28987), (3, .ref b28954), (0, .ref a0), (1, .int a1), (2, .ref a2)]) C dX11_neededIn_32 (by decide) rfl ?_
  refine g_iconst (v := 0) C dX11_neededIn_34 (by decide) ?_
  refine g_istore (lv' := [(5, .int 0), (4, .int r28987), (3, .ref b28954), (0, .ref a0), (1, .int a1), (2, .ref a2)]) C dX11_neededIn_35 (by decide) rfl ?_
  refine g_lv (lv' := [(0, .ref a0), (1, .int a1), (2, .ref a2), (3, .ref b28954), (4, .int r28987), (5, .int 0)]) [3, 4, 5, 2, 1, 0] rfl ?_
  exact J37 _ Y28979 b28954 r28987 0 (Nat.lt_succ_self _) Iy28981 Xz28983 h28986 (by omega) (by decide)
theorem dX11_needs_0 : decode cX11_needs 0 = .ok (.iload_n 1, 1) := by decide +kernel
theorem dX11_needs_1 : decode cX11_needs 1 = .ok (.invokestatic 158, 3) := by decide +kernel
theorem dX11_needs_4 : decode cX11_needs 4 = .ok (.ifCond .eq 11, 3) := by decide +kernel
theorem dX11_needs_7 : decode cX11_needs 7 = .ok (.aload_n 0, 1) := by decide +kernel
theorem dX11_needs_8 : decode cX11_needs 8 = .ok (.iload_n 2, 1) := by decide +kernel
theorem dX11_needs_9 : decode cX11_needs 9 = .ok (.invokevirtual 97, 3) := by decide +kernel
theorem dX11_needs_12 : decode cX11_needs 12 = .ok (.ifCond .ne 5, 3) := by decide +kernel
theorem dX11_needs_15 : decode cX11_needs 15 = .ok (.iconst (-1), 1) := by decide +kernel
theorem dX11_needs_16 : decode cX11_needs 16 = .ok (.ireturn, 1) := by decide +kernel
theorem dX11_needs_17 : decode cX11_needs 17 = .ok (.aload_n 0, 1) := by decide +kernel
theorem dX11_needs_18 : decode cX11_needs 18 = .ok (.iload_n 1, 1) := by decide +kernel
theorem dX11_needs_19 : decode cX11_needs 19 = .ok (.aload_n 0, 1) := by decide +kernel
theorem dX11_needs_20 : decode cX11_needs 20 = .ok (.getfield 11, 3) := by decide +kernel
theorem dX11_needs_23 : decode cX11_needs 23 = .ok (.iload_n 2, 1) := by decide +kernel
theorem dX11_needs_24 : decode cX11_needs 24 = .ok (.aaload, 1) := by decide +kernel
theorem dX11_needs_25 : decode cX11_needs 25 = .ok (.invokevirtual 326, 3) := by decide +kernel
theorem dX11_needs_28 : decode cX11_needs 28 = .ok (.ireturn, 1) := by decide +kernel
set_option maxHeartbeats 4000000 in
set_option maxRecDepth 100000 in
theorem s_X11_needs {P : PP} {a0 : Nat} {a1 : Int32} {a2 : Int32} (I : IV P) (ha0 : At P a0 11) : CtrI yX11_needs cX11_needs 3 (some Jvm.ClassFile.FieldType.int) ({ frames := 6, cells := 0, slots := 0, locals := 384 } : Room) 0 0 P [.ref a0, .int a1, .int a2] (fun r P2 => IV P2 ∧ EK [0, 1, 5, 13] P P2 ∧ (-1 ≤ r.toInt ∧ r.toInt ≤ 60)) := by
  refine enI (lv := [(0, .ref a0), (1, .int a1), (2, .int a2)]) (by decide) (Nat.le_of_ble_eq_true rfl) rfl (fun E D cy C Ci0 ret => ?_)
  have J15 : G E ({ frames := 6, cells := 0, slots := 0, locals := 384 } : Room) D cy 3 P 0 0 15 [] [] := by
    refine g_iconst (v := (-1)) C dX11_needs_15 (by decide) ?_
    exact ret _ _ _ _ _ _ dX11_needs_16 rfl (by decide) (by decide) ⟨I, EK.rf, (by decide)⟩
  refine g_iload_n C dX11_needs_0 rfl 1 rfl ?_
  refine g_callSI (b := 0) (ci := 0) (rest := []) C ms_X11_158 [.int a1] (s_X11_isQuarter I) rfl rfl (by decide) (Nat.le_of_ble_eq_true rfl) (by decide) dX11_needs_1 (fun r29013 Y29014 h29015 => ?_)
  obtain ⟨rfl, h29015⟩ := h29015
  obtain ⟨h29015, hi29016⟩ := h29015
  have hi29016 : r29013.toInt = 0 ∨ (((0 : Int) ≤ a1.toInt ∧ a1.toInt ≤ (3 : Int))) := hi29016
  have h29015 : 0 ≤ r29013.toInt ∧ r29013.toInt ≤ 1 := h29015
  refine b_if_eq C 15 dX11_needs_4 (by decide) (fun h29017 => ?_) (fun h29017 => ?_)
  · have h29017 : r29013.toInt = 0 := congrArg Int32.toInt h29017
    clear hi29016
    refine g_lv (lv' := []) [] rfl ?_
    exact J15 
  · have h29017 : r29013.toInt ≠ 0 := ti_ne h29017
    replace hi29016 := hi29016.resolve_left (by omega)
    refine g_aload_n C dX11_needs_7 rfl 0 rfl ?_
    refine g_iload_n C dX11_needs_8 rfl 2 rfl ?_
    refine g_callVI (rest := []) C mv_X11_97 [.int a2] (s_X11_isTold I ha0) (ha0).1 (ha0).2 rfl rfl (by decide) (Nat.le_of_ble_eq_true rfl) (by decide) dX11_needs_9 (fun r29018 Y29019 h29020 => ?_)
    obtain ⟨rfl, h29020⟩ := h29020
    obtain ⟨h29020, hi29021⟩ := h29020
    have hi29021 : r29018.toInt = 0 ∨ (((0 : Int) ≤ a2.toInt ∧ a2.toInt ≤ (1 : Int))) := hi29021
    have h29020 : 0 ≤ r29018.toInt ∧ r29018.toInt ≤ 1 := h29020
    refine b_if_ne C 17 dX11_needs_12 (by decide) (fun h29022 => ?_) (fun h29022 => ?_)
    · have h29022 : r29018.toInt ≠ 0 := ti_ne h29022
      replace hi29021 := hi29021.resolve_left (by omega)
      refine g_aload_n C dX11_needs_17 rfl 0 rfl ?_
      refine g_iload_n C dX11_needs_18 rfl 1 rfl ?_
      refine g_aload_n C dX11_needs_19 rfl 0 rfl ?_
      obtain ⟨b29023, e29024, h29025⟩ := I.fld (ha0) 0 17 2 rfl
      refine g_getR C fi_X11_11 rfl e29024 (ha0).1 (ha0).2 dX11_needs_20 ?_
      refine g_iload_n C dX11_needs_23 rfl 2 rfl ?_
      obtain ⟨b29026, e29027, h29028⟩ := I.elm h29025 (by decide) (a2.toInt.toNat) (by omega)
      refine g_aldR C h29025.1 h29025.2.1 (by decide) (ix_in h29025.2.2 (by omega)) e29027 dX11_needs_24 ?_
      refine g_callVI (rest := []) C mv_X11_326 [.int a1, .ref b29026] (s_X11_neededIn I ha0 (by omega) h29028) (ha0).1 (ha0).2 rfl rfl (by decide) (Nat.le_of_ble_eq_true rfl) (by decide) dX11_needs_25 (fun r29029 Y29030 h29031 => ?_)
      obtain ⟨Iy29032, Xy29033, h29031⟩ := h29031
      have Xz29034 : EK [0, 1, 5, 13] P Y29030 := Xy29033.mono (by decide)
      have h29035 := Xy29033.at ha0
      have h29031 : -1 ≤ r29029.toInt ∧ r29029.toInt ≤ 60 := h29031
      exact ret _ _ _ _ _ _ dX11_needs_28 rfl (by decide) (by decide) ⟨Iy29032, Xz29034, (by omega)⟩
    · have h29022 : r29018.toInt = 0 := congrArg Int32.toInt h29022
      clear hi29021
      refine g_lv (lv' := []) [] rfl ?_
      exact J15 
