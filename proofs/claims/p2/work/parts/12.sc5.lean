theorem dX11_doubles_19 : decode cX11_doubles 19 = .ok (.ifCond .ne 5, 3) := by decide +kernel
theorem dX11_doubles_22 : decode cX11_doubles 22 = .ok (.iconst (-1), 1) := by decide +kernel
theorem dX11_doubles_23 : decode cX11_doubles 23 = .ok (.ireturn, 1) := by decide +kernel
theorem dX11_doubles_24 : decode cX11_doubles 24 = .ok (.aload_n 0, 1) := by decide +kernel
theorem dX11_doubles_25 : decode cX11_doubles 25 = .ok (.iload_n 1, 1) := by decide +kernel
theorem dX11_doubles_26 : decode cX11_doubles 26 = .ok (.iload_n 2, 1) := by decide +kernel
theorem dX11_doubles_27 : decode cX11_doubles 27 = .ok (.iload_n 3, 1) := by decide +kernel
theorem dX11_doubles_28 : decode cX11_doubles 28 = .ok (.invokevirtual 216, 3) := by decide +kernel
theorem dX11_doubles_31 : decode cX11_doubles 31 = .ok (.astore 4, 2) := by decide +kernel
theorem dX11_doubles_33 : decode cX11_doubles 33 = .ok (.aload_n 0, 1) := by decide +kernel
theorem dX11_doubles_34 : decode cX11_doubles 34 = .ok (.getfield 53, 3) := by decide +kernel
theorem dX11_doubles_37 : decode cX11_doubles 37 = .ok (.iconst 0, 1) := by decide +kernel
theorem dX11_doubles_38 : decode cX11_doubles 38 = .ok (.aaload, 1) := by decide +kernel
theorem dX11_doubles_39 : decode cX11_doubles 39 = .ok (.astore 5, 2) := by decide +kernel
theorem dX11_doubles_41 : decode cX11_doubles 41 = .ok (.aload 5, 2) := by decide +kernel
theorem dX11_doubles_43 : decode cX11_doubles 43 = .ok (.aload 4, 2) := by decide +kernel
theorem dX11_doubles_45 : decode cX11_doubles 45 = .ok (.iconst (-1), 1) := by decide +kernel
theorem dX11_doubles_46 : decode cX11_doubles 46 = .ok (.invokevirtual 236, 3) := by decide +kernel
theorem dX11_doubles_49 : decode cX11_doubles 49 = .ok (.aload 5, 2) := by decide +kernel
theorem dX11_doubles_51 : decode cX11_doubles 51 = .ok (.getfield 246, 3) := by decide +kernel
theorem dX11_doubles_54 : decode cX11_doubles 54 = .ok (.istore 6, 2) := by decide +kernel
theorem dX11_doubles_56 : decode cX11_doubles 56 = .ok (.iconst 0, 1) := by decide +kernel
theorem dX11_doubles_57 : decode cX11_doubles 57 = .ok (.istore 7, 2) := by decide +kernel
theorem dX11_doubles_59 : decode cX11_doubles 59 = .ok (.aload 4, 2) := by decide +kernel
theorem dX11_doubles_61 : decode cX11_doubles 61 = .ok (.getfield 263, 3) := by decide +kernel
theorem dX11_doubles_64 : decode cX11_doubles 64 = .ok (.istore 8, 2) := by decide +kernel
theorem dX11_doubles_66 : decode cX11_doubles 66 = .ok (.iload 8, 2) := by decide +kernel
theorem dX11_doubles_68 : decode cX11_doubles 68 = .ok (.aload 4, 2) := by decide +kernel
theorem dX11_doubles_70 : decode cX11_doubles 70 = .ok (.getfield 266, 3) := by decide +kernel
theorem dX11_doubles_73 : decode cX11_doubles 73 = .ok (.if_icmp .ge 31, 3) := by decide +kernel
theorem dX11_doubles_76 : decode cX11_doubles 76 = .ok (.aload 5, 2) := by decide +kernel
theorem dX11_doubles_78 : decode cX11_doubles 78 = .ok (.aload 4, 2) := by decide +kernel
theorem dX11_doubles_80 : decode cX11_doubles 80 = .ok (.iload 8, 2) := by decide +kernel
theorem dX11_doubles_82 : decode cX11_doubles 82 = .ok (.invokevirtual 236, 3) := by decide +kernel
theorem dX11_doubles_85 : decode cX11_doubles 85 = .ok (.aload 5, 2) := by decide +kernel
theorem dX11_doubles_87 : decode cX11_doubles 87 = .ok (.getfield 246, 3) := by decide +kernel
theorem dX11_doubles_90 : decode cX11_doubles 90 = .ok (.iload 6, 2) := by decide +kernel
theorem dX11_doubles_92 : decode cX11_doubles 92 = .ok (.if_icmp .ne 6, 3) := by decide +kernel
theorem dX11_doubles_95 : decode cX11_doubles 95 = .ok (.iinc 7 1, 3) := by decide +kernel
theorem dX11_doubles_98 : decode cX11_doubles 98 = .ok (.iinc 8 1, 3) := by decide +kernel
theorem dX11_doubles_101 : decode cX11_doubles 101 = .ok (.goto (-35), 3) := by decide +kernel
theorem dX11_doubles_104 : decode cX11_doubles 104 = .ok (.iload 7, 2) := by decide +kernel
theorem dX11_doubles_106 : decode cX11_doubles 106 = .ok (.ireturn, 1) := by decide +kernel
set_option maxHeartbeats 4000000 in
set_option maxRecDepth 100000 in
theorem s_X11_doubles {P : PP} {a0 : Nat} {a1 : Int32} {a2 : Int32} {a3 : Int32} (I : IV P) (ha0 : At P a0 11) : CtrI yX11_doubles cX11_doubles 9 (some Jvm.ClassFile.FieldType.int) ({ frames := 4, cells := 0, slots := 0, locals := 256 } : Room) 0 0 P [.ref a0, .int a1, .int a2, .int a3] (fun r P2 => IV P2 ∧ EK [0, 5, 13] P P2 ∧ (True)) := by
  refine enI (lv := [(0, .ref a0), (1, .int a1), (2, .int a2), (3, .int a3)]) (by decide) (Nat.le_of_ble_eq_true rfl) rfl (fun E D cy C Ci0 ret => ?_)
  have J66 : ∀ (n66 : Nat) (P66 : PP) (b66_4 : Nat) (b66_5 : Nat) (v66_6 : Int32) (v66_7 : Int32) (v66_8 : Int32), (44 - v66_8.toInt).toNat < n66 → (IV P66) → (EK [0, 5, 13] P P66) → (At P66 b66_4 5) → (At P66 b66_5 0) → (0 ≤ v66_6.toInt ∧ v66_6.toInt ≤ 20) → (0 ≤ v66_8.toInt ∧ v66_8.toInt ≤ 44) → G E ({ frames := 4, cells := 0, slots := 0, locals := 256 } : Room) D cy 9 P66 0 0 66 [(4, .ref b66_4), (5, .ref b66_5), (6, .int v66_6), (7, .int v66_7), (8, .int v66_8)] [] := by
    intro n66
    induction n66 with
    | zero => intro P66 b66_4 b66_5 v66_6 v66_7 v66_8 hm66 I66 X66 hb66_4 hb66_5 hv66_6 hv66_8; omega
    | succ n66 ih66 =>
      intro P66 b66_4 b66_5 v66_6 v66_7 v66_8 hm66 I66 X66 hb66_4 hb66_5 hv66_6 hv66_8
      have h19324 := X66.at ha0
      have J98 : ∀ (P98 : PP) (b98_4 : Nat) (b98_5 : Nat) (v98_7 : Int32), (IV P98) → (EK [0, 5, 13] P P98) → (At P98 b98_4 5) → (At P98 b98_5 0) → (0 ≤ v66_8.toInt ∧ v66_8.toInt ≤ 43) → (1 ≤ (pI P98 b98_4 4).toInt ∧ (pI P98 b98_4 4).toInt ≤ 44) → G E ({ frames := 4, cells := 0, slots := 0, locals := 256 } : Room) D cy 9 P98 0 0 98 [(4, .ref b98_4), (5, .ref b98_5), (6, .int v66_6), (7, .int v98_7), (8, .int v66_8)] [] := by
        intro P98 b98_4 b98_5 v98_7 I98 X98 hb98_4 hb98_5 hv98_8 hq98_0
        have h19325 := X98.at ha0
        refine s_iinc (lv0 := [(4, .ref b98_4), (5, .ref b98_5), (6, .int v66_6), (7, .int v98_7)]) (m := 1) C dX11_doubles_98 4 rfl (by decide) rfl (by decide) (by omega) (fun z19326 h19327 => ?_)
        have h19327 : z19326.toInt = v66_8.toInt + 1 := h19327
        refine g_goto C 66 dX11_doubles_101 (by decide) ?_
        refine g_lv (lv' := [(4, .ref b98_4), (5, .ref b98_5), (6, .int v66_6), (7, .int v98_7), (8, .int z19326)]) [1, 2, 3, 4, 0] rfl ?_
        exact ih66 P98 b98_4 b98_5 v66_6 v98_7 z19326 (by omega) I98 X98 hb98_4 hb98_5 (by omega) (by omega)
      refine g_iload C dX11_doubles_66 4 rfl ?_
      refine g_aload C dX11_doubles_68 0 rfl ?_
      refine g_getI C fi_X11_266 (by decide) (hb66_4).1 (hb66_4).2 dX11_doubles_70 ?_
      have h19328 := I66.rg (hb66_4) 4 rfl
      refine b_icmp_ge C 104 dX11_doubles_73 (by decide) (fun h19329 => ?_) (fun h19329 => ?_)
      · have h19329 : (pI P66 b66_4 4).toInt ≤ v66_8.toInt := h19329
        refine g_iload C dX11_doubles_104 3 rfl ?_
        exact ret _ _ _ _ _ _ dX11_doubles_106 rfl (by decide) (by decide) ⟨I66, X66, trivial⟩
      · have h19329 : v66_8.toInt < (pI P66 b66_4 4).toInt := h19329
        refine g_aload C dX11_doubles_76 1 rfl ?_
        refine g_aload C dX11_doubles_78 0 rfl ?_
        refine g_iload C dX11_doubles_80 4 rfl ?_
        refine g_callVV (rest := []) C mv_X11_236 [.ref b66_4, .int v66_8] (s_X0_take I66 hb66_5 hb66_4) (hb66_5).1 (hb66_5).2 rfl rfl (by decide) (Nat.le_of_ble_eq_true rfl) (by decide) dX11_doubles_82 (fun Y19331 h19332 => ?_)
        obtain ⟨Iy19333, Xy19334⟩ := h19332
        have q19335 := Xy19334.keep hb66_4 (by decide) 4
        have Xz19336 : EK [0, 5, 13] P Y19331 := X66.tr (Xy19334.mono (by decide))
        have h19337 := Xy19334.at h19324
        have h19338 := Xy19334.at hb66_4
        have h19339 := Xy19334.at hb66_5
        refine g_aload C dX11_doubles_85 1 rfl ?_
        refine g_getI C fi_X11_246 (by decide) (h19339).1 (h19339).2 dX11_doubles_87 ?_
        have h19340 := Iy19333.rg (h19339) 2 rfl
        refine g_iload C dX11_doubles_90 2 rfl ?_
        refine b_icmp_ne C 98 dX11_doubles_92 (by decide) (fun h19341 => ?_) (fun h19341 => ?_)
        · have h19341 : (pI Y19331 b66_5 2).toInt ≠ v66_6.toInt := ti_ne h19341
          exact J98 Y19331 b66_4 b66_5 v66_7 Iy19333 Xz19336 h19338 h19339 (by omega) (by omega)
        · have h19341 : (pI Y19331 b66_5 2).toInt = v66_6.toInt := congrArg Int32.toInt h19341
          refine a_iinc (lv0 := [(4, .ref b66_4), (5, .ref b66_5), (6, .int v66_6), (8, .int v66_8)]) C dX11_doubles_95 3 rfl (by decide) rfl (fun z19342 => ?_)
          refine g_lv (lv' := [(4, .ref b66_4), (5, .ref b66_5), (6, .int v66_6), (7, .int z19342), (8, .int v66_8)]) [1, 2, 3, 0, 4] rfl ?_
          exact J98 Y19331 b66_4 b66_5 z19342 Iy19333 Xz19336 h19338 h19339 (by omega) (by omega)
  have J22 : G E ({ frames := 4, cells := 0, slots := 0, locals := 256 } : Room) D cy 9 P 0 0 22 [] [] := by
    refine g_iconst (v := (-1)) C dX11_doubles_22 (by decide) ?_
    exact ret _ _ _ _ _ _ dX11_doubles_23 rfl (by decide) (by decide) ⟨I, EK.rf, trivial⟩
  refine g_iload_n C dX11_doubles_0 rfl 1 rfl ?_
  refine g_callSI (b := 0) (ci := 0) (rest := []) C ms_X11_158 [.int a1] (s_X11_isQuarter I) rfl rfl (by decide) (Nat.le_of_ble_eq_true rfl) (by decide) dX11_doubles_1 (fun r19344 Y19345 h19346 => ?_)
  obtain ⟨rfl, h19346⟩ := h19346
  obtain ⟨h19346, hi19347⟩ := h19346
  have hi19347 : r19344.toInt = 0 ∨ (((0 : Int) ≤ a1.toInt ∧ a1.toInt ≤ (3 : Int))) := hi19347
  have h19346 : 0 ≤ r19344.toInt ∧ r19344.toInt ≤ 1 := h19346
  refine b_if_eq C 22 dX11_doubles_4 (by decide) (fun h19348 => ?_) (fun h19348 => ?_)
  · have h19348 : r19344.toInt = 0 := congrArg Int32.toInt h19348
    clear hi19347
    refine g_lv (lv' := []) [] rfl ?_
    exact J22 
  · have h19348 : r19344.toInt ≠ 0 := ti_ne h19348
    replace hi19347 := hi19347.resolve_left (by omega)
    refine g_aload_n C dX11_doubles_7 rfl 0 rfl ?_
    refine g_iload_n C dX11_doubles_8 rfl 2 rfl ?_
    refine g_callVI (rest := []) C mv_X11_97 [.int a2] (s_X11_isTold I ha0) (ha0).1 (ha0).2 rfl rfl (by decide) (Nat.le_of_ble_eq_true rfl) (by decide) dX11_doubles_9 (fun r19349 Y19350 h19351 => ?_)
    obtain ⟨rfl, h19351⟩ := h19351
    obtain ⟨h19351, hi19352⟩ := h19351
    have hi19352 : r19349.toInt = 0 ∨ (((0 : Int) ≤ a2.toInt ∧ a2.toInt ≤ (1 : Int))) := hi19352
    have h19351 : 0 ≤ r19349.toInt ∧ r19349.toInt ≤ 1 := h19351
    refine b_if_eq C 22 dX11_doubles_12 (by decide) (fun h19353 => ?_) (fun h19353 => ?_)
    · have h19353 : r19349.toInt = 0 := congrArg Int32.toInt h19353
      clear hi19352
      refine g_lv (lv' := []) [] rfl ?_
      exact J22 
    · have h19353 : r19349.toInt ≠ 0 := ti_ne h19353
      replace hi19352 := hi19352.resolve_left (by omega)
      refine g_iload_n C dX11_doubles_15 rfl 3 rfl ?_
      refine g_callSI (b := 0) (ci := 0) (rest := []) C ms_X11_213 [.int a3] (s_X11_isOctet I) rfl rfl (by decide) (Nat.le_of_ble_eq_true rfl) (by decide) dX11_doubles_16 (fun r19354 Y19355 h19356 => ?_)
      obtain ⟨rfl, h19356⟩ := h19356
      obtain ⟨h19356, hi19357⟩ := h19356
      have hi19357 : r19354.toInt = 0 ∨ (((0 : Int) ≤ a3.toInt ∧ a3.toInt ≤ (1 : Int))) := hi19357
      have h19356 : 0 ≤ r19354.toInt ∧ r19354.toInt ≤ 1 := h19356
      refine b_if_ne C 24 dX11_doubles_19 (by decide) (fun h19358 => ?_) (fun h19358 => ?_)
      · have h19358 : r19354.toInt ≠ 0 := ti_ne h19358
        replace hi19357 := hi19357.resolve_left (by omega)
        refine g_aload_n C dX11_doubles_24 rfl 0 rfl ?_
        refine g_iload_n C dX11_doubles_25 rfl 1 rfl ?_
        refine g_iload_n C dX11_doubles_26 rfl 2 rfl ?_
        refine g_iload_n C dX11_doubles_27 rfl 3 rfl ?_
        refine g_callVQ (rest := []) C mv_X11_216 [.int a1, .int a2, .int a3] (s_X11_gather I ha0 (by omega) (by omega) (by omega)) (ha0).1 (ha0).2 rfl rfl (by decide) (Nat.le_of_ble_eq_true rfl) (by decide) dX11_doubles_28 (fun r19359 Y19360 h19361 => ?_)
        obtain ⟨Iy19362, Xy19363, h19361⟩ := h19361
        have Xz19364 : EK [0, 5, 13] P Y19360 := Xy19363.mono (by decide)
        have h19365 := Xy19363.at ha0
        obtain ⟨b19367, rfl, h19361⟩ := h19361
        show G _ _ _ _ _ _ _ _ _ _ (.ref b19367 :: _)
        refine g_astore (lv' := [(4, .ref b19367), (0, .ref a0), (1, .int a1), (2, .int a2), (3, .int a3)]) C dX11_doubles_31 (by decide) rfl ?_
        refine g_aload_n C dX11_doubles_33 rfl 1 rfl ?_
        obtain ⟨b19368, e19369, h19370⟩ := Iy19362.fld (h19365) 9 16 2 rfl
        refine g_getR C fi_X11_53 rfl e19369 (h19365).1 (h19365).2 dX11_doubles_34 ?_
        refine g_iconst (v := 0) C dX11_doubles_37 (by decide) ?_
        obtain ⟨b19371, e19372, h19373⟩ := Iy19362.elm h19370 (by decide) 0 (by decide)
        refine g_aldR C h19370.1 h19370.2.1 (by decide) (IX.litn (j := 0) h19370.2.2 rfl (by decide) (by decide)) e19372 dX11_doubles_38 ?_
        refine g_astore (lv' := [(5, .ref b19371), (4, .ref b19367), (0, .ref a0), (1, .int a1), (2, .int a2), (3, .int a3)]) C dX11_doubles_39 (by decide) rfl ?_
        refine g_aload C dX11_doubles_41 0 rfl ?_
        refine g_aload C dX11_doubles_43 1 rfl ?_
        refine g_iconst (v := (-1)) C dX11_doubles_45 (by decide) ?_
        refine g_callVV (rest := []) C mv_X11_236 [.ref b19367, .int (-1)] (s_X0_take Iy19362 h19373 h19361) (h19373).1 (h19373).2 rfl rfl (by decide) (Nat.le_of_ble_eq_true rfl) (by decide) dX11_doubles_46 (fun Y19375 h19376 => ?_)
        obtain ⟨Iy19377, Xy19378⟩ := h19376
        have Xz19379 : EK [0, 5, 13] P Y19375 := Xz19364.tr (Xy19378.mono (by decide))
        have h19380 := Xy19378.at h19365
        have h19381 := Xy19378.at h19361
        have h19382 := Xy19378.at h19373
        refine g_aload C dX11_doubles_49 0 rfl ?_
        refine g_getI C fi_X11_246 (by decide) (h19382).1 (h19382).2 dX11_doubles_51 ?_
        have h19383 := Iy19377.rg (h19382) 2 rfl
        refine g_topi (fun z19384 h19385 => ?_)
        have h19385 : z19384.toInt = (pI Y19375 b19371 2).toInt := congrArg Int32.toInt h19385
        refine g_istore (lv' := [(6, .int z19384), (5, .ref b19371), (4, .ref b19367), (0, .ref a0), (1, .int a1), (2, .int a2), (3, .int a3)]) C dX11_doubles_54 (by decide) rfl ?_
        refine g_iconst (v := 0) C dX11_doubles_56 (by decide) ?_
        refine g_istore (lv' := [(7, .int 0), (6, .int z19384), (5, .ref b19371), (4, .ref b19367), (0, .ref a0), (1, .int a1), (2, .int a2), (3, .int a3)]) C dX11_doubles_57 (by decide) rfl ?_
        refine g_aload C dX11_doubles_59 3 rfl ?_
        refine g_getI C fi_X11_263 (by decide) (h19381).1 (h19381).2 dX11_doubles_61 ?_
        have h19386 := Iy19377.rg (h19381) 5 rfl
        refine g_topi (fun z19387 h19388 => ?_)
        have h19388 : z19387.toInt = (pI Y19375 b19367 5).toInt := congrArg Int32.toInt h19388
        refine g_istore (lv' := [(8, .int z19387), (7, .int 0), (6, .int z19384), (5, .ref b19371), (4, .ref b19367), (0, .ref a0), (1, .int a1), (2, .int a2), (3, .int a3)]) C dX11_doubles_64 (by decide) rfl ?_
        refine g_lv (lv' := [(4, .ref b19367), (5, .ref b19371), (6, .int z19384), (7, .int 0), (8, .int z19387)]) [4, 3, 2, 1, 0] rfl ?_
        exact J66 _ Y19375 b19367 b19371 z19384 0 z19387 (Nat.lt_succ_self _) Iy19377 Xz19379 h19381 h19382 (by omega) (by omega)
      · have h19358 : r19354.toInt = 0 := congrArg Int32.toInt h19358
        clear hi19357
        refine g_lv (lv' := []) [] rfl ?_
        exact J22 
theorem dX11_draw_0 : decode cX11_draw 0 = .ok (.iconst (-1), 1) := by decide +kernel
theorem dX11_draw_1 : decode cX11_draw 1 = .ok (.istore_n 2, 1) := by decide +kernel
theorem dX11_draw_2 : decode cX11_draw 2 = .ok (.aload_n 0, 1) := by decide +kernel
theorem dX11_draw_3 : decode cX11_draw 3 = .ok (.iload_n 1, 1) := by decide +kernel
theorem dX11_draw_4 : decode cX11_draw 4 = .ok (.invokevirtual 97, 3) := by decide +kernel
theorem dX11_draw_7 : decode cX11_draw 7 = .ok (.ifCond .eq 52, 3) := by decide +kernel
theorem dX11_draw_10 : decode cX11_draw 10 = .ok (.aload_n 0, 1) := by decide +kernel
theorem dX11_draw_11 : decode cX11_draw 11 = .ok (.iload_n 1, 1) := by decide +kernel
theorem dX11_draw_12 : decode cX11_draw 12 = .ok (.invokevirtual 105, 3) := by decide +kernel
theorem dX11_isTouched_0 : decode cX11_isTouched 0 = .ok (.iconst 0, 1) := by decide +kernel
theorem dX11_isTouched_1 : decode cX11_isTouched 1 = .ok (.istore_n 2, 1) := by decide +kernel
theorem dX11_isTouched_2 : decode cX11_isTouched 2 = .ok (.iload_n 2, 1) := by decide +kernel
theorem dX11_isTouched_3 : decode cX11_isTouched 3 = .ok (.iconst 4, 1) := by decide +kernel
theorem dX11_isTouched_4 : decode cX11_isTouched 4 = .ok (.if_icmp .ge 24, 3) := by decide +kernel
theorem dX11_isTouched_7 : decode cX11_isTouched 7 = .ok (.aload_n 0, 1) := by decide +kernel
theorem dX11_isTouched_8 : decode cX11_isTouched 8 = .ok (.getfield 17, 3) := by decide +kernel
theorem dX11_isTouched_11 : decode cX11_isTouched 11 = .ok (.iload_n 2, 1) := by decide +kernel
theorem dX11_isTouched_12 : decode cX11_isTouched 12 = .ok (.aaload, 1) := by decide +kernel
theorem dX11_isTouched_13 : decode cX11_isTouched 13 = .ok (.iload_n 1, 1) := by decide +kernel
theorem dX11_isTouched_14 : decode cX11_isTouched 14 = .ok (.invokevirtual 351, 3) := by decide +kernel
theorem dX6_touches_0 : decode cX6_touches 0 = .ok (.iconst 0, 1) := by decide +kernel
theorem dX6_touches_1 : decode cX6_touches 1 = .ok (.istore_n 2, 1) := by decide +kernel
theorem dX6_touches_2 : decode cX6_touches 2 = .ok (.iload_n 2, 1) := by decide +kernel
theorem dX6_touches_3 : decode cX6_touches 3 = .ok (.aload_n 0, 1) := by decide +kernel
theorem dX6_touches_4 : decode cX6_touches 4 = .ok (.getfield 17, 3) := by decide +kernel
theorem dX6_touches_7 : decode cX6_touches 7 = .ok (.if_icmp .ge 24, 3) := by decide +kernel
theorem dX6_touches_10 : decode cX6_touches 10 = .ok (.aload_n 0, 1) := by decide +kernel
theorem dX6_touches_11 : decode cX6_touches 11 = .ok (.getfield 11, 3) := by decide +kernel
theorem dX6_touches_14 : decode cX6_touches 14 = .ok (.iload_n 2, 1) := by decide +kernel
theorem dX6_touches_15 : decode cX6_touches 15 = .ok (.aaload, 1) := by decide +kernel
theorem dX6_touches_16 : decode cX6_touches 16 = .ok (.iload_n 1, 1) := by decide +kernel
theorem dX6_touches_17 : decode cX6_touches 17 = .ok (.invokestatic 32, 3) := by decide +kernel
theorem dX6_touches_20 : decode cX6_touches 20 = .ok (.ifCond .eq 5, 3) := by decide +kernel
theorem dX6_touches_23 : decode cX6_touches 23 = .ok (.iconst 1, 1) := by decide +kernel
theorem dX6_touches_24 : decode cX6_touches 24 = .ok (.ireturn, 1) := by decide +kernel
theorem dX6_touches_25 : decode cX6_touches 25 = .ok (.iinc 2 1, 3) := by decide +kernel
theorem dX6_touches_28 : decode cX6_touches 28 = .ok (.goto (-26), 3) := by decide +kernel
theorem dX6_touches_31 : decode cX6_touches 31 = .ok (.iconst 0, 1) := by decide +kernel
theorem dX6_touches_32 : decode cX6_touches 32 = .ok (.ireturn, 1) := by decide +kernel
set_option maxHeartbeats 4000000 in
set_option maxRecDepth 100000 in
theorem s_X6_touches {P : PP} {a0 : Nat} {a1 : Int32} (I : IV P) (ha0 : At P a0 6) : CtrI yX6_touches cX6_touches 3 (some Jvm.ClassFile.FieldType.boolean) ({ frames := 2, cells := 0, slots := 0, locals := 128 } : Room) 0 0 P [.ref a0, .int a1] (fun r P2 => P = P2 ∧ (0 ≤ r.toInt ∧ r.toInt ≤ 1)) := by
  refine enI (lv := [(0, .ref a0), (1, .int a1)]) (by decide) (Nat.le_of_ble_eq_true rfl) rfl (fun E D cy C Ci0 ret => ?_)
  have J2 : ∀ (n2 : Nat) (v2_2 : Int32), (40 - v2_2.toInt).toNat < n2 → (0 ≤ v2_2.toInt ∧ v2_2.toInt ≤ 40) → G E ({ frames := 2, cells := 0, slots := 0, locals := 128 } : Room) D cy 3 P 0 0 2 [(0, .ref a0), (1, .int a1), (2, .int v2_2)] [] := by
    intro n2
    induction n2 with
    | zero => intro v2_2 hm2 hv2_2; omega
    | succ n2 ih2 =>
      intro v2_2 hm2 hv2_2
      refine g_iload_n C dX6_touches_2 rfl 2 rfl ?_
      refine g_aload_n C dX6_touches_3 rfl 0 rfl ?_
      refine g_getI C fi_X6_17 (by decide) (ha0).1 (ha0).2 dX6_touches_4 ?_
      have h19701 := I.rg (ha0) 1 rfl
      refine b_icmp_ge C 31 dX6_touches_7 (by decide) (fun h19702 => ?_) (fun h19702 => ?_)
      · have h19702 : (pI P a0 1).toInt ≤ v2_2.toInt := h19702
        refine g_iconst (v := 0) C dX6_touches_31 (by decide) ?_
        exact ret _ _ _ _ _ _ dX6_touches_32 rfl (by decide) (by decide) ⟨rfl, (by decide)⟩
      · have h19702 : v2_2.toInt < (pI P a0 1).toInt := h19702
        refine g_aload_n C dX6_touches_10 rfl 0 rfl ?_
        obtain ⟨b19703, e19704, h19705⟩ := I.fld (ha0) 0 20 40 rfl
        refine g_getR C fi_X6_11 rfl e19704 (ha0).1 (ha0).2 dX6_touches_11 ?_
        refine g_iload_n C dX6_touches_14 rfl 2 rfl ?_
        refine g_aldQ (j := (v2_2.toInt.toNat)) C h19705.1 h19705.2.1 (by decide) (ix_in h19705.2.2 (by omega)) dX6_touches_15 ?_
        rcases I.pap h19705 (v2_2.toInt.toNat) with e19707 | ⟨b19706, e19707, h19708⟩
        · rw [e19707]
          show G _ _ _ _ _ _ _ _ _ _ (.null :: _)
          refine g_iload_n C dX6_touches_16 rfl 1 rfl ?_
          refine g_callSI (b := 0) (ci := 0) (rest := []) C ms_X6_32 [.null, .int a1] (s_X6_isTouchingn0 I) rfl rfl (by decide) (Nat.le_of_ble_eq_true rfl) (by decide) dX6_touches_17 (fun r19709 Y19710 h19711 => ?_)
          obtain ⟨rfl, h19711⟩ := h19711
          have h19711 : 0 ≤ r19709.toInt ∧ r19709.toInt ≤ 0 := h19711
          refine b_if_eq C 25 dX6_touches_20 (by decide) (fun h19712 => ?_) (fun h19712 => ?_)
          · have h19712 : r19709.toInt = 0 := congrArg Int32.toInt h19712
            refine s_iinc (lv0 := [(0, .ref a0), (1, .int a1)]) (m := 1) C dX6_touches_25 2 rfl (by decide) rfl (by decide) (by omega) (fun z19713 h19714 => ?_)
            have h19714 : z19713.toInt = v2_2.toInt + 1 := h19714
            refine g_goto C 2 dX6_touches_28 (by decide) ?_
            refine g_lv (lv' := [(0, .ref a0), (1, .int a1), (2, .int z19713)]) [1, 2, 0] rfl ?_
            exact ih2 z19713 (by omega) (by omega)
          · have h19712 : r19709.toInt ≠ 0 := ti_ne h19712
            omega
        · rw [e19707]
          show G _ _ _ _ _ _ _ _ _ _ (.ref b19706 :: _)
          refine g_iload_n C dX6_touches_16 rfl 1 rfl ?_
          refine g_callSI (b := 0) (ci := 0) (rest := []) C ms_X6_32 [.ref b19706, .int a1] (s_X6_isTouching I h19708) rfl rfl (by decide) (Nat.le_of_ble_eq_true rfl) (by decide) dX6_touches_17 (fun r19715 Y19716 h19717 => ?_)
          obtain ⟨rfl, h19717⟩ := h19717
          have h19717 : 0 ≤ r19715.toInt ∧ r19715.toInt ≤ 1 := h19717
          refine b_if_eq C 25 dX6_touches_20 (by decide) (fun h19718 => ?_) (fun h19718 => ?_)
          · have h19718 : r19715.toInt = 0 := congrArg Int32.toInt h19718
            refine s_iinc (lv0 := [(0, .ref a0), (1, .int a1)]) (m := 1) C dX6_touches_25 2 rfl (by decide) rfl (by decide) (by omega) (fun z19719 h19720 => ?_)
            have h19720 : z19719.toInt = v2_2.toInt + 1 := h19720
            refine g_goto C 2 dX6_touches_28 (by decide) ?_
            refine g_lv (lv' := [(0, .ref a0), (1, .int a1), (2, .int z19719)]) [1, 2, 0] rfl ?_
            exact ih2 z19719 (by omega) (by omega)
          · have h19718 : r19715.toInt ≠ 0 := ti_ne h19718
            refine g_iconst (v := 1) C dX6_touches_23 (by decide) ?_
            exact ret _ _ _ _ _ _ dX6_touches_24 rfl (by decide) (by decide) ⟨rfl, (by decide)⟩
  refine g_iconst (v := 0) C dX6_touches_0 (by decide) ?_
  refine g_istore_n (lv' := [(2, .int 0), (0, .ref a0), (1, .int a1)]) C dX6_touches_1 rfl (by decide) rfl ?_
  refine g_lv (lv' := [(0, .ref a0), (1, .int a1), (2, .int 0)]) [1, 2, 0] rfl ?_
  exact J2 _ 0 (Nat.lt_succ_self _) (by decide)
theorem dX11_isTouched_17 : decode cX11_isTouched 17 = .ok (.ifCond .eq 5, 3) := by decide +kernel
theorem dX11_isTouched_20 : decode cX11_isTouched 20 = .ok (.iconst 1, 1) := by decide +kernel
theorem dX11_isTouched_21 : decode cX11_isTouched 21 = .ok (.ireturn, 1) := by decide +kernel
theorem dX11_isTouched_22 : decode cX11_isTouched 22 = .ok (.iinc 2 1, 3) := by decide +kernel
theorem dX11_isTouched_25 : decode cX11_isTouched 25 = .ok (.goto (-23), 3) := by decide +kernel
theorem dX11_isTouched_28 : decode cX11_isTouched 28 = .ok (.iconst 0, 1) := by decide +kernel
theorem dX11_isTouched_29 : decode cX11_isTouched 29 = .ok (.ireturn, 1) := by decide +kernel
set_option maxHeartbeats 4000000 in
set_option maxRecDepth 100000 in
theorem s_X11_isTouched {P : PP} {a0 : Nat} {a1 : Int32} (I : IV P) (ha0 : At P a0 11) : CtrI yX11_isTouched cX11_isTouched 3 (some Jvm.ClassFile.FieldType.boolean) ({ frames := 3, cells := 0, slots := 0, locals := 192 } : Room) 0 0 P [.ref a0, .int a1] (fun r P2 => P = P2 ∧ (0 ≤ r.toInt ∧ r.toInt ≤ 1)) := by
  refine enI (lv := [(0, .ref a0), (1, .int a1)]) (by decide) (Nat.le_of_ble_eq_true rfl) rfl (fun E D cy C Ci0 ret => ?_)
  have J2 : ∀ (n2 : Nat) (v2_2 : Int32), (4 - v2_2.toInt).toNat < n2 → (0 ≤ v2_2.toInt ∧ v2_2.toInt ≤ 4) → G E ({ frames := 3, cells := 0, slots := 0, locals := 192 } : Room) D cy 3 P 0 0 2 [(0, .ref a0), (1, .int a1), (2, .int v2_2)] [] := by
    intro n2
    induction n2 with
    | zero => intro v2_2 hm2 hv2_2; omega
    | succ n2 ih2 =>
      intro v2_2 hm2 hv2_2
      refine g_iload_n C dX11_isTouched_2 rfl 2 rfl ?_
      refine g_iconst (v := 4) C dX11_isTouched_3 (by decide) ?_
      refine b_icmp_ge C 28 dX11_isTouched_4 (by decide) (fun h19786 => ?_) (fun h19786 => ?_)
      · have h19786 : 4 ≤ v2_2.toInt := h19786
        refine g_iconst (v := 0) C dX11_isTouched_28 (by decide) ?_
        exact ret _ _ _ _ _ _ dX11_isTouched_29 rfl (by decide) (by decide) ⟨rfl, (by decide)⟩
      · have h19786 : v2_2.toInt < 4 := h19786
        refine g_aload_n C dX11_isTouched_7 rfl 0 rfl ?_
        obtain ⟨b19787, e19788, h19789⟩ := I.fld (ha0) 1 19 4 rfl
        refine g_getR C fi_X11_17 rfl e19788 (ha0).1 (ha0).2 dX11_isTouched_8 ?_
        refine g_iload_n C dX11_isTouched_11 rfl 2 rfl ?_
        obtain ⟨b19790, e19791, h19792⟩ := I.elm h19789 (by decide) (v2_2.toInt.toNat) (by omega)
        refine g_aldR C h19789.1 h19789.2.1 (by decide) (ix_in h19789.2.2 (by omega)) e19791 dX11_isTouched_12 ?_
        refine g_iload_n C dX11_isTouched_13 rfl 1 rfl ?_
        refine g_callVI (rest := []) C mv_X11_351 [.int a1] (s_X6_touches I h19792) (h19792).1 (h19792).2 rfl rfl (by decide) (Nat.le_of_ble_eq_true rfl) (by decide) dX11_isTouched_14 (fun r19793 Y19794 h19795 => ?_)
        obtain ⟨rfl, h19795⟩ := h19795
        have h19795 : 0 ≤ r19793.toInt ∧ r19793.toInt ≤ 1 := h19795
        refine b_if_eq C 22 dX11_isTouched_17 (by decide) (fun h19796 => ?_) (fun h19796 => ?_)
        · have h19796 : r19793.toInt = 0 := congrArg Int32.toInt h19796
          refine s_iinc (lv0 := [(0, .ref a0), (1, .int a1)]) (m := 1) C dX11_isTouched_22 2 rfl (by decide) rfl (by decide) (by omega) (fun z19797 h19798 => ?_)
          have h19798 : z19797.toInt = v2_2.toInt + 1 := h19798
          refine g_goto C 2 dX11_isTouched_25 (by decide) ?_
          refine g_lv (lv' := [(0, .ref a0), (1, .int a1), (2, .int z19797)]) [1, 2, 0] rfl ?_
          exact ih2 z19797 (by omega) (by omega)
        · have h19796 : r19793.toInt ≠ 0 := ti_ne h19796
          refine g_iconst (v := 1) C dX11_isTouched_20 (by decide) ?_
          exact ret _ _ _ _ _ _ dX11_isTouched_21 rfl (by decide) (by decide) ⟨rfl, (by decide)⟩
  refine g_iconst (v := 0) C dX11_isTouched_0 (by decide) ?_
  refine g_istore_n (lv' := [(2, .int 0), (0, .ref a0), (1, .int a1)]) C dX11_isTouched_1 rfl (by decide) rfl ?_
  refine g_lv (lv' := [(0, .ref a0), (1, .int a1), (2, .int 0)]) [1, 2, 0] rfl ?_
  exact J2 _ 0 (Nat.lt_succ_self _) (by decide)
theorem dX11_draw_15 : decode cX11_draw 15 = .ok (.ifCond .ne 44, 3) := by decide +kernel
theorem dX11_draw_18 : decode cX11_draw 18 = .ok (.aload_n 0, 1) := by decide +kernel
theorem dX11_draw_19 : decode cX11_draw 19 = .ok (.getfield 41, 3) := by decide +kernel
theorem dX11_draw_22 : decode cX11_draw 22 = .ok (.aload_n 0, 1) := by decide +kernel
theorem dX11_draw_23 : decode cX11_draw 23 = .ok (.getfield 11, 3) := by decide +kernel
theorem dX11_draw_26 : decode cX11_draw 26 = .ok (.iload_n 1, 1) := by decide +kernel
theorem dX11_draw_27 : decode cX11_draw 27 = .ok (.aaload, 1) := by decide +kernel
theorem dX11_draw_28 : decode cX11_draw 28 = .ok (.getfield 100, 3) := by decide +kernel
theorem dX11_draw_31 : decode cX11_draw 31 = .ok (.invokevirtual 124, 3) := by decide +kernel
theorem dX4_faultFor_0 : decode cX4_faultFor 0 = .ok (.aload_n 0, 1) := by decide +kernel
theorem dX4_faultFor_1 : decode cX4_faultFor 1 = .ok (.getfield 21, 3) := by decide +kernel
theorem dX4_faultFor_4 : decode cX4_faultFor 4 = .ok (.invokevirtual 25, 3) := by decide +kernel
theorem dX4_faultFor_7 : decode cX4_faultFor 7 = .ok (.aload_n 0, 1) := by decide +kernel
theorem dX4_faultFor_8 : decode cX4_faultFor 8 = .ok (.getfield 12, 3) := by decide +kernel
theorem dX4_faultFor_11 : decode cX4_faultFor 11 = .ok (.invokevirtual 28, 3) := by decide +kernel
theorem dX9_rewind_0 : decode cX9_rewind 0 = .ok (.aload_n 0, 1) := by decide +kernel
theorem dX9_rewind_1 : decode cX9_rewind 1 = .ok (.iconst 0, 1) := by decide +kernel
theorem dX9_rewind_2 : decode cX9_rewind 2 = .ok (.putfield 19, 3) := by decide +kernel
theorem dX9_rewind_5 : decode cX9_rewind 5 = .ok (.return_, 1) := by decide +kernel
set_option maxHeartbeats 4000000 in
set_option maxRecDepth 100000 in
theorem s_X9_rewind {P : PP} {a0 : Nat} (I : IV P) (ha0 : At P a0 9) : CtrV yX9_rewind cX9_rewind 1 none ({ frames := 1, cells := 0, slots := 0, locals := 64 } : Room) 0 0 P [.ref a0] (fun P2 => IV P2 ∧ EK [9] P P2) := by
  refine enV (lv := [(0, .ref a0)]) (by decide) (Nat.le_of_ble_eq_true rfl) rfl (fun E D cy C Ci0 ret => ?_)
  refine g_aload_n C dX9_rewind_0 rfl 0 rfl ?_
  refine g_iconst (v := 0) C dX9_rewind_1 (by decide) ?_
  refine g_putI C fi_X9_19 rfl (ha0).1 (ha0).2 dX9_rewind_2 ?_
  refine gpW (ks := [9]) (I.setI (ha0) (rgOk.of rfl (by decide))) (EK.setI (ha0).2 (by decide)) (fun Y19838 Iy19839 Xy19840 w19841 w19842 => ?_)
  have w19842 : (pI Y19838 a0 4).toInt = 0 := w19842
  have Xz19843 : EK [9] P Y19838 := Xy19840.mono (by decide)
  have h19844 := Xy19840.at ha0
  exact ret _ _ _ _ _ dX9_rewind_5 (by decide) (by decide) ⟨Iy19839, Xz19843⟩
theorem dX4_faultFor_14 : decode cX4_faultFor 14 = .ok (.iconst 0, 1) := by decide +kernel
theorem dX4_faultFor_15 : decode cX4_faultFor 15 = .ok (.istore_n 2, 1) := by decide +kernel
theorem dX4_faultFor_16 : decode cX4_faultFor 16 = .ok (.iload_n 2, 1) := by decide +kernel
theorem dX4_faultFor_17 : decode cX4_faultFor 17 = .ok (.sipush 1000, 3) := by decide +kernel
theorem dX4_faultFor_20 : decode cX4_faultFor 20 = .ok (.if_icmp .gt 40, 3) := by decide +kernel
theorem dX4_faultFor_23 : decode cX4_faultFor 23 = .ok (.aload_n 0, 1) := by decide +kernel
theorem dX4_faultFor_24 : decode cX4_faultFor 24 = .ok (.getfield 12, 3) := by decide +kernel
theorem dX4_faultFor_27 : decode cX4_faultFor 27 = .ok (.invokevirtual 31, 3) := by decide +kernel
theorem dX9_next_0 : decode cX9_next 0 = .ok (.aload_n 0, 1) := by decide +kernel
theorem dX9_next_1 : decode cX9_next 1 = .ok (.getfield 19, 3) := by decide +kernel
theorem dX9_next_4 : decode cX9_next 4 = .ok (.aload_n 0, 1) := by decide +kernel
theorem dX9_next_5 : decode cX9_next 5 = .ok (.getfield 15, 3) := by decide +kernel
theorem dX9_next_8 : decode cX9_next 8 = .ok (.if_icmp .ge 44, 3) := by decide +kernel
theorem dX9_next_11 : decode cX9_next 11 = .ok (.aload_n 0, 1) := by decide +kernel
theorem dX9_next_12 : decode cX9_next 12 = .ok (.getfield 9, 3) := by decide +kernel
theorem dX9_next_15 : decode cX9_next 15 = .ok (.aload_n 0, 1) := by decide +kernel
theorem dX9_next_16 : decode cX9_next 16 = .ok (.getfield 19, 3) := by decide +kernel
theorem dX9_next_19 : decode cX9_next 19 = .ok (.iaload, 1) := by decide +kernel
theorem dX9_next_20 : decode cX9_next 20 = .ok (.bipush 10, 2) := by decide +kernel
theorem dX9_next_22 : decode cX9_next 22 = .ok (.if_icmp .eq 17, 3) := by decide +kernel
theorem dX9_next_25 : decode cX9_next 25 = .ok (.aload_n 0, 1) := by decide +kernel
theorem dX9_next_26 : decode cX9_next 26 = .ok (.getfield 9, 3) := by decide +kernel
theorem dX9_next_29 : decode cX9_next 29 = .ok (.aload_n 0, 1) := by decide +kernel
theorem dX9_next_30 : decode cX9_next 30 = .ok (.getfield 19, 3) := by decide +kernel
theorem dX9_next_33 : decode cX9_next 33 = .ok (.iaload, 1) := by decide +kernel
theorem dX9_next_34 : decode cX9_next 34 = .ok (.bipush 32, 2) := by decide +kernel
theorem dX9_next_36 : decode cX9_next 36 = .ok (.if_icmp .ne 16, 3) := by decide +kernel
theorem dX9_next_52 : decode cX9_next 52 = .ok (.aload_n 0, 1) := by decide +kernel
theorem dX9_next_53 : decode cX9_next 53 = .ok (.aload_n 0, 1) := by decide +kernel
theorem dX9_next_54 : decode cX9_next 54 = .ok (.getfield 19, 3) := by decide +kernel
theorem dX9_next_57 : decode cX9_next 57 = .ok (.putfield 22, 3) := by decide +kernel
theorem dX9_next_60 : decode cX9_next 60 = .ok (.aload_n 0, 1) := by decide +kernel
theorem dX9_next_61 : decode cX9_next 61 = .ok (.getfield 22, 3) := by decide +kernel
theorem dX9_next_64 : decode cX9_next 64 = .ok (.aload_n 0, 1) := by decide +kernel
theorem dX9_next_65 : decode cX9_next 65 = .ok (.getfield 15, 3) := by decide +kernel
theorem dX9_next_68 : decode cX9_next 68 = .ok (.if_icmp .lt 9, 3) := by decide +kernel
theorem dX9_next_77 : decode cX9_next 77 = .ok (.aload_n 0, 1) := by decide +kernel
theorem dX9_next_78 : decode cX9_next 78 = .ok (.getfield 9, 3) := by decide +kernel
theorem dX9_next_81 : decode cX9_next 81 = .ok (.aload_n 0, 1) := by decide +kernel
theorem dX9_next_82 : decode cX9_next 82 = .ok (.getfield 22, 3) := by decide +kernel
theorem dX9_next_85 : decode cX9_next 85 = .ok (.iaload, 1) := by decide +kernel
theorem dX9_next_86 : decode cX9_next 86 = .ok (.istore_n 1, 1) := by decide +kernel
theorem dX9_next_87 : decode cX9_next 87 = .ok (.iload_n 1, 1) := by decide +kernel
theorem dX9_next_88 : decode cX9_next 88 = .ok (.bipush 97, 2) := by decide +kernel
theorem dX9_next_90 : decode cX9_next 90 = .ok (.if_icmp .lt 43, 3) := by decide +kernel
theorem dX9_next_93 : decode cX9_next 93 = .ok (.iload_n 1, 1) := by decide +kernel
theorem dX9_next_94 : decode cX9_next 94 = .ok (.bipush 122, 2) := by decide +kernel
theorem dX9_next_96 : decode cX9_next 96 = .ok (.if_icmp .gt 37, 3) := by decide +kernel
theorem dX9_next_99 : decode cX9_next 99 = .ok (.aload_n 0, 1) := by decide +kernel
theorem dX9_next_100 : decode cX9_next 100 = .ok (.bipush 97, 2) := by decide +kernel
theorem dX9_next_102 : decode cX9_next 102 = .ok (.bipush 122, 2) := by decide +kernel
theorem dX9_next_104 : decode cX9_next 104 = .ok (.invokevirtual 28, 3) := by decide +kernel
theorem dX9_takeRun_0 : decode cX9_takeRun 0 = .ok (.aload_n 0, 1) := by decide +kernel
theorem dX9_takeRun_1 : decode cX9_takeRun 1 = .ok (.getfield 19, 3) := by decide +kernel
theorem dX9_takeRun_4 : decode cX9_takeRun 4 = .ok (.aload_n 0, 1) := by decide +kernel
theorem dX9_takeRun_5 : decode cX9_takeRun 5 = .ok (.getfield 15, 3) := by decide +kernel
theorem dX9_takeRun_8 : decode cX9_takeRun 8 = .ok (.if_icmp .ge 42, 3) := by decide +kernel
theorem dX9_takeRun_11 : decode cX9_takeRun 11 = .ok (.aload_n 0, 1) := by decide +kernel
theorem dX9_takeRun_12 : decode cX9_takeRun 12 = .ok (.getfield 9, 3) := by decide +kernel
theorem dX9_takeRun_15 : decode cX9_takeRun 15 = .ok (.aload_n 0, 1) := by decide +kernel
theorem dX9_takeRun_16 : decode cX9_takeRun 16 = .ok (.getfield 19, 3) := by decide +kernel
theorem dX9_takeRun_19 : decode cX9_takeRun 19 = .ok (.iaload, 1) := by decide +kernel
theorem dX9_takeRun_20 : decode cX9_takeRun 20 = .ok (.iload_n 1, 1) := by decide +kernel
theorem dX9_takeRun_21 : decode cX9_takeRun 21 = .ok (.if_icmp .lt 29, 3) := by decide +kernel
theorem dX9_takeRun_24 : decode cX9_takeRun 24 = .ok (.aload_n 0, 1) := by decide +kernel
theorem dX9_takeRun_25 : decode cX9_takeRun 25 = .ok (.getfield 9, 3) := by decide +kernel
theorem dX9_takeRun_28 : decode cX9_takeRun 28 = .ok (.aload_n 0, 1) := by decide +kernel
theorem dX9_takeRun_29 : decode cX9_takeRun 29 = .ok (.getfield 19, 3) := by decide +kernel
theorem dX9_takeRun_32 : decode cX9_takeRun 32 = .ok (.iaload, 1) := by decide +kernel
theorem dX9_takeRun_33 : decode cX9_takeRun 33 = .ok (.iload_n 2, 1) := by decide +kernel
theorem dX9_takeRun_34 : decode cX9_takeRun 34 = .ok (.if_icmp .gt 16, 3) := by decide +kernel
theorem dX9_takeRun_37 : decode cX9_takeRun 37 = .ok (.aload_n 0, 1) := by decide +kernel
theorem dX9_takeRun_38 : decode cX9_takeRun 38 = .ok (.dup, 1) := by decide +kernel
theorem dX9_takeRun_39 : decode cX9_takeRun 39 = .ok (.getfield 19, 3) := by decide +kernel
theorem dX9_takeRun_42 : decode cX9_takeRun 42 = .ok (.iconst 1, 1) := by decide +kernel
theorem dX9_takeRun_43 : decode cX9_takeRun 43 = .ok (.iadd, 1) := by decide +kernel
theorem dX9_takeRun_44 : decode cX9_takeRun 44 = .ok (.putfield 19, 3) := by decide +kernel
theorem dX9_takeRun_47 : decode cX9_takeRun 47 = .ok (.goto (-47), 3) := by decide +kernel
theorem dX9_takeRun_50 : decode cX9_takeRun 50 = .ok (.return_, 1) := by decide +kernel
set_option maxHeartbeats 4000000 in
set_option maxRecDepth 100000 in
theorem s_X9_takeRun {P : PP} {a0 : Nat} {a1 : Int32} {a2 : Int32} (I : IV P) (ha0 : At P a0 9) : CtrV yX9_takeRun cX9_takeRun 3 none ({ frames := 1, cells := 0, slots := 0, locals := 64 } : Room) 0 0 P [.ref a0, .int a1, .int a2] (fun P2 => IV P2 ∧ EK [9] P P2) := by
  refine enV (lv := [(0, .ref a0), (1, .int a1), (2, .int a2)]) (by decide) (Nat.le_of_ble_eq_true rfl) rfl (fun E D cy C Ci0 ret => ?_)
  have J0 : ∀ (n0 : Nat) (P0 : PP), (1000 - (pI P0 a0 4).toInt).toNat < n0 → (IV P0) → (EK [9] P P0) → G E ({ frames := 1, cells := 0, slots := 0, locals := 64 } : Room) D cy 3 P0 0 0 0 [(0, .ref a0), (1, .int a1), (2, .int a2)] [] := by
    intro n0
    induction n0 with
    | zero => intro P0 hm0 I0 X0; omega
    | succ n0 ih0 =>
      intro P0 hm0 I0 X0
      have h19950 := X0.at ha0
      refine g_aload_n C dX9_takeRun_0 rfl 0 rfl ?_
      refine g_getI C fi_X9_19 (by decide) (h19950).1 (h19950).2 dX9_takeRun_1 ?_
      have h19951 := I0.rg (h19950) 4 rfl
      refine g_aload_n C dX9_takeRun_4 rfl 0 rfl ?_
      refine g_getI C fi_X9_15 (by decide) (h19950).1 (h19950).2 dX9_takeRun_5 ?_
      have h19952 := I0.rg (h19950) 1 rfl
      refine b_icmp_ge C 50 dX9_takeRun_8 (by decide) (fun h19953 => ?_) (fun h19953 => ?_)
      · have h19953 : (pI P0 a0 1).toInt ≤ (pI P0 a0 4).toInt := h19953
        exact ret _ _ _ _ _ dX9_takeRun_50 (by decide) (by decide) ⟨I0, X0⟩
      · have h19953 : (pI P0 a0 4).toInt < (pI P0 a0 1).toInt := h19953
        refine g_aload_n C dX9_takeRun_11 rfl 0 rfl ?_
        obtain ⟨b19954, e19955, h19956⟩ := I0.fld (h19950) 0 13 1000 rfl
        refine g_getR C fi_X9_9 rfl e19955 (h19950).1 (h19950).2 dX9_takeRun_12 ?_
        refine g_aload_n C dX9_takeRun_15 rfl 0 rfl ?_
        refine g_getI C fi_X9_19 (by decide) (h19950).1 (h19950).2 dX9_takeRun_16 ?_
        refine g_iald (j := ((pI P0 a0 4).toInt.toNat)) C h19956.1 h19956.2.1 (ix_in h19956.2.2 (by omega)) dX9_takeRun_19 ?_
        refine g_topi (fun z19957 _ => ?_)
        refine g_iload_n C dX9_takeRun_20 rfl 1 rfl ?_
        have u19959 := ti_rng z19957
        have u19960 := ti_rng a1
        refine b_icmp_lt C 50 dX9_takeRun_21 (by decide) (fun h19958 => ?_) (fun h19958 => ?_)
        · have h19958 : z19957.toInt < a1.toInt := h19958
          exact ret _ _ _ _ _ dX9_takeRun_50 (by decide) (by decide) ⟨I0, X0⟩
        · have h19958 : a1.toInt ≤ z19957.toInt := h19958
          refine g_aload_n C dX9_takeRun_24 rfl 0 rfl ?_
          refine g_getR C fi_X9_9 rfl e19955 (h19950).1 (h19950).2 dX9_takeRun_25 ?_
          refine g_aload_n C dX9_takeRun_28 rfl 0 rfl ?_
          refine g_getI C fi_X9_19 (by decide) (h19950).1 (h19950).2 dX9_takeRun_29 ?_
          refine g_iald (j := ((pI P0 a0 4).toInt.toNat)) C h19956.1 h19956.2.1 (ix_in h19956.2.2 (by omega)) dX9_takeRun_32 ?_
          refine g_topi (fun z19961 _ => ?_)
          refine g_iload_n C dX9_takeRun_33 rfl 2 rfl ?_
          have u19963 := ti_rng z19961
          have u19964 := ti_rng a2
          refine b_icmp_gt C 50 dX9_takeRun_34 (by decide) (fun h19962 => ?_) (fun h19962 => ?_)
          · have h19962 : a2.toInt < z19961.toInt := h19962
            exact ret _ _ _ _ _ dX9_takeRun_50 (by decide) (by decide) ⟨I0, X0⟩
          · have h19962 : z19961.toInt ≤ a2.toInt := h19962
            refine g_aload_n C dX9_takeRun_37 rfl 0 rfl ?_
            refine g_dup C dX9_takeRun_38 rfl ?_
            refine g_getI C fi_X9_19 (by decide) (h19950).1 (h19950).2 dX9_takeRun_39 ?_
            refine g_iconst (v := 1) C dX9_takeRun_42 (by decide) ?_
            refine s_iadd C dX9_takeRun_43 (by show -2147483648 ≤ (pI P0 a0 4).toInt + 1 ∧ (pI P0 a0 4).toInt + 1 ≤ 2147483647; omega) (fun z19965 h19966 => ?_)
            have h19966 : z19965.toInt = (pI P0 a0 4).toInt + 1 := h19966
            refine g_putI C fi_X9_19 rfl (h19950).1 (h19950).2 dX9_takeRun_44 ?_
            refine gpW (ks := [9]) (I0.setI (h19950) (rgOk.of rfl (by omega))) (EK.setI (h19950).2 (by decide)) (fun Y19967 Iy19968 Xy19969 w19970 w19971 => ?_)
            have q19972 := w19970 1 (by decide)
            have Xz19973 : EK [9] P Y19967 := X0.tr (Xy19969.mono (by decide))
            have h19974 := Xy19969.at h19950
            refine g_goto C 0 dX9_takeRun_47 (by decide) ?_
            exact ih0 Y19967 (by omega) Iy19968 Xz19973
  exact J0 _ P (Nat.lt_succ_self _) I EK.rf
theorem dX9_next_39 : decode cX9_next 39 = .ok (.aload_n 0, 1) := by decide +kernel
theorem dX9_next_40 : decode cX9_next 40 = .ok (.dup, 1) := by decide +kernel
theorem dX9_next_41 : decode cX9_next 41 = .ok (.getfield 19, 3) := by decide +kernel
theorem dX9_next_44 : decode cX9_next 44 = .ok (.iconst 1, 1) := by decide +kernel
theorem dX9_next_45 : decode cX9_next 45 = .ok (.iadd, 1) := by decide +kernel
theorem dX9_next_46 : decode cX9_next 46 = .ok (.putfield 19, 3) := by decide +kernel
theorem dX9_next_49 : decode cX9_next 49 = .ok (.goto (-49), 3) := by decide +kernel
theorem dX9_next_71 : decode cX9_next 71 = .ok (.aload_n 0, 1) := by decide +kernel
theorem dX9_next_72 : decode cX9_next 72 = .ok (.iconst 0, 1) := by decide +kernel
theorem dX9_next_73 : decode cX9_next 73 = .ok (.putfield 25, 3) := by decide +kernel
theorem dX9_next_76 : decode cX9_next 76 = .ok (.return_, 1) := by decide +kernel
theorem dX9_next_107 : decode cX9_next 107 = .ok (.aload_n 0, 1) := by decide +kernel
theorem dX9_next_108 : decode cX9_next 108 = .ok (.aload_n 0, 1) := by decide +kernel
theorem dX9_next_109 : decode cX9_next 109 = .ok (.getfield 19, 3) := by decide +kernel
theorem dX9_next_112 : decode cX9_next 112 = .ok (.aload_n 0, 1) := by decide +kernel
theorem dX9_next_113 : decode cX9_next 113 = .ok (.getfield 22, 3) := by decide +kernel
theorem dX9_next_116 : decode cX9_next 116 = .ok (.isub, 1) := by decide +kernel
theorem dX9_next_117 : decode cX9_next 117 = .ok (.bipush 8, 2) := by decide +kernel
theorem dX9_next_119 : decode cX9_next 119 = .ok (.if_icmp .gt 7, 3) := by decide +kernel
theorem dX9_next_122 : decode cX9_next 122 = .ok (.iconst 1, 1) := by decide +kernel
theorem dX9_next_123 : decode cX9_next 123 = .ok (.goto 4, 3) := by decide +kernel
theorem dX9_next_126 : decode cX9_next 126 = .ok (.iconst 4, 1) := by decide +kernel
theorem dX9_next_127 : decode cX9_next 127 = .ok (.putfield 25, 3) := by decide +kernel
theorem dX9_next_130 : decode cX9_next 130 = .ok (.goto 93, 3) := by decide +kernel
theorem dX9_next_133 : decode cX9_next 133 = .ok (.iload_n 1, 1) := by decide +kernel
theorem dX9_next_134 : decode cX9_next 134 = .ok (.bipush 48, 2) := by decide +kernel
theorem dX9_next_136 : decode cX9_next 136 = .ok (.if_icmp .lt 62, 3) := by decide +kernel
theorem dX9_next_139 : decode cX9_next 139 = .ok (.iload_n 1, 1) := by decide +kernel
theorem dX9_next_140 : decode cX9_next 140 = .ok (.bipush 57, 2) := by decide +kernel
theorem dX9_next_142 : decode cX9_next 142 = .ok (.if_icmp .gt 56, 3) := by decide +kernel
theorem dX9_next_145 : decode cX9_next 145 = .ok (.aload_n 0, 1) := by decide +kernel
theorem dX9_next_146 : decode cX9_next 146 = .ok (.bipush 48, 2) := by decide +kernel
theorem dX9_next_148 : decode cX9_next 148 = .ok (.bipush 57, 2) := by decide +kernel
theorem dX9_next_150 : decode cX9_next 150 = .ok (.invokevirtual 28, 3) := by decide +kernel
theorem dX9_next_153 : decode cX9_next 153 = .ok (.aload_n 0, 1) := by decide +kernel
theorem dX9_next_154 : decode cX9_next 154 = .ok (.aload_n 0, 1) := by decide +kernel
theorem dX9_next_155 : decode cX9_next 155 = .ok (.getfield 19, 3) := by decide +kernel
theorem dX9_next_158 : decode cX9_next 158 = .ok (.aload_n 0, 1) := by decide +kernel
theorem dX9_next_159 : decode cX9_next 159 = .ok (.getfield 22, 3) := by decide +kernel
theorem dX9_next_162 : decode cX9_next 162 = .ok (.isub, 1) := by decide +kernel
theorem dX9_next_163 : decode cX9_next 163 = .ok (.iconst 4, 1) := by decide +kernel
theorem dX9_next_164 : decode cX9_next 164 = .ok (.if_icmp .gt 7, 3) := by decide +kernel
theorem dX9_next_167 : decode cX9_next 167 = .ok (.iconst 2, 1) := by decide +kernel
theorem dX9_next_168 : decode cX9_next 168 = .ok (.goto 4, 3) := by decide +kernel
theorem dX9_next_171 : decode cX9_next 171 = .ok (.iconst 4, 1) := by decide +kernel
theorem dX9_next_172 : decode cX9_next 172 = .ok (.putfield 25, 3) := by decide +kernel
theorem dX9_next_175 : decode cX9_next 175 = .ok (.aload_n 0, 1) := by decide +kernel
theorem dX9_next_176 : decode cX9_next 176 = .ok (.aload_n 0, 1) := by decide +kernel
theorem dX9_next_177 : decode cX9_next 177 = .ok (.getfield 25, 3) := by decide +kernel
theorem dX9_next_180 : decode cX9_next 180 = .ok (.iconst 2, 1) := by decide +kernel
theorem dX9_next_181 : decode cX9_next 181 = .ok (.if_icmp .ne 10, 3) := by decide +kernel
theorem dX9_next_184 : decode cX9_next 184 = .ok (.aload_n 0, 1) := by decide +kernel
theorem dX9_next_185 : decode cX9_next 185 = .ok (.invokevirtual 32, 3) := by decide +kernel
theorem dX9_next_191 : decode cX9_next 191 = .ok (.iconst (-1), 1) := by decide +kernel
theorem dX9_next_198 : decode cX9_next 198 = .ok (.aload_n 0, 1) := by decide +kernel
theorem dX9_next_199 : decode cX9_next 199 = .ok (.dup, 1) := by decide +kernel
theorem dX9_next_200 : decode cX9_next 200 = .ok (.getfield 19, 3) := by decide +kernel
theorem dX9_next_203 : decode cX9_next 203 = .ok (.iconst 1, 1) := by decide +kernel
theorem dX9_next_204 : decode cX9_next 204 = .ok (.iadd, 1) := by decide +kernel
theorem dX9_next_205 : decode cX9_next 205 = .ok (.putfield 19, 3) := by decide +kernel
theorem dX9_next_208 : decode cX9_next 208 = .ok (.aload_n 0, 1) := by decide +kernel
theorem dX9_next_209 : decode cX9_next 209 = .ok (.iload_n 1, 1) := by decide +kernel
theorem dX9_next_210 : decode cX9_next 210 = .ok (.bipush 59, 2) := by decide +kernel
theorem dX9_next_212 : decode cX9_next 212 = .ok (.if_icmp .ne 7, 3) := by decide +kernel
theorem dX9_next_215 : decode cX9_next 215 = .ok (.iconst 3, 1) := by decide +kernel
theorem dX9_next_216 : decode cX9_next 216 = .ok (.goto 4, 3) := by decide +kernel
theorem dX9_next_219 : decode cX9_next 219 = .ok (.iconst 4, 1) := by decide +kernel
theorem dX9_next_223 : decode cX9_next 223 = .ok (.return_, 1) := by decide +kernel
theorem dX9_numberHere_0 : decode cX9_numberHere 0 = .ok (.iconst 0, 1) := by decide +kernel
theorem dX9_numberHere_1 : decode cX9_numberHere 1 = .ok (.istore_n 1, 1) := by decide +kernel
theorem dX9_numberHere_2 : decode cX9_numberHere 2 = .ok (.aload_n 0, 1) := by decide +kernel
theorem dX9_numberHere_3 : decode cX9_numberHere 3 = .ok (.getfield 22, 3) := by decide +kernel
theorem dX9_numberHere_6 : decode cX9_numberHere 6 = .ok (.istore_n 2, 1) := by decide +kernel
theorem dX9_numberHere_7 : decode cX9_numberHere 7 = .ok (.iload_n 2, 1) := by decide +kernel
theorem dX9_numberHere_8 : decode cX9_numberHere 8 = .ok (.aload_n 0, 1) := by decide +kernel
theorem dX9_numberHere_9 : decode cX9_numberHere 9 = .ok (.getfield 19, 3) := by decide +kernel
theorem dX9_numberHere_12 : decode cX9_numberHere 12 = .ok (.if_icmp .ge 24, 3) := by decide +kernel
theorem dX9_numberHere_15 : decode cX9_numberHere 15 = .ok (.iload_n 1, 1) := by decide +kernel
theorem dX9_numberHere_16 : decode cX9_numberHere 16 = .ok (.bipush 10, 2) := by decide +kernel
theorem dX9_numberHere_18 : decode cX9_numberHere 18 = .ok (.imul, 1) := by decide +kernel
theorem dX9_numberHere_19 : decode cX9_numberHere 19 = .ok (.aload_n 0, 1) := by decide +kernel
theorem dX9_numberHere_20 : decode cX9_numberHere 20 = .ok (.getfield 9, 3) := by decide +kernel
theorem dX9_numberHere_23 : decode cX9_numberHere 23 = .ok (.iload_n 2, 1) := by decide +kernel
theorem dX9_numberHere_24 : decode cX9_numberHere 24 = .ok (.iaload, 1) := by decide +kernel
theorem dX9_numberHere_25 : decode cX9_numberHere 25 = .ok (.iadd, 1) := by decide +kernel
theorem dX9_numberHere_26 : decode cX9_numberHere 26 = .ok (.bipush 48, 2) := by decide +kernel
theorem dX9_numberHere_28 : decode cX9_numberHere 28 = .ok (.isub, 1) := by decide +kernel
theorem dX9_numberHere_29 : decode cX9_numberHere 29 = .ok (.istore_n 1, 1) := by decide +kernel
theorem dX9_numberHere_30 : decode cX9_numberHere 30 = .ok (.iinc 2 1, 3) := by decide +kernel
theorem dX9_numberHere_33 : decode cX9_numberHere 33 = .ok (.goto (-26), 3) := by decide +kernel
theorem dX9_numberHere_36 : decode cX9_numberHere 36 = .ok (.iload_n 1, 1) := by decide +kernel
theorem dX9_numberHere_37 : decode cX9_numberHere 37 = .ok (.ireturn, 1) := by decide +kernel
set_option maxHeartbeats 4000000 in
set_option maxRecDepth 100000 in
theorem s_X9_numberHere {P : PP} {a0 : Nat} (I : IV P) (ha0 : At P a0 9) : CtrI yX9_numberHere cX9_numberHere 3 (some Jvm.ClassFile.FieldType.int) ({ frames := 1, cells := 0, slots := 0, locals := 64 } : Room) 0 0 P [.ref a0] (fun r P2 => P = P2 ∧ (True)) := by
  refine enI (lv := [(0, .ref a0)]) (by decide) (Nat.le_of_ble_eq_true rfl) rfl (fun E D cy C Ci0 ret => ?_)
  have J7 : ∀ (n7 : Nat) (v7_1 : Int32) (v7_2 : Int32), (1000 - v7_2.toInt).toNat < n7 → (0 ≤ v7_2.toInt ∧ v7_2.toInt ≤ 1000) → G E ({ frames := 1, cells := 0, slots := 0, locals := 64 } : Room) D cy 3 P 0 0 7 [(0, .ref a0), (1, .int v7_1), (2, .int v7_2)] [] := by
    intro n7
    induction n7 with
    | zero => intro v7_1 v7_2 hm7 hv7_2; omega
    | succ n7 ih7 =>
      intro v7_1 v7_2 hm7 hv7_2
      refine g_iload_n C dX9_numberHere_7 rfl 2 rfl ?_
      refine g_aload_n C dX9_numberHere_8 rfl 0 rfl ?_
      refine g_getI C fi_X9_19 (by decide) (ha0).1 (ha0).2 dX9_numberHere_9 ?_
      have h20131 := I.rg (ha0) 4 rfl
      refine b_icmp_ge C 36 dX9_numberHere_12 (by decide) (fun h20132 => ?_) (fun h20132 => ?_)
      · have h20132 : (pI P a0 4).toInt ≤ v7_2.toInt := h20132
        refine g_iload_n C dX9_numberHere_36 rfl 1 rfl ?_
        exact ret _ _ _ _ _ _ dX9_numberHere_37 rfl (by decide) (by decide) ⟨rfl, trivial⟩
      · have h20132 : v7_2.toInt < (pI P a0 4).toInt := h20132
        refine g_iload_n C dX9_numberHere_15 rfl 1 rfl ?_
        refine g_bipush (v := 10) C dX9_numberHere_16 (by decide) ?_
        refine a_imul C dX9_numberHere_18 (fun z20133 => ?_)
        refine g_aload_n C dX9_numberHere_19 rfl 0 rfl ?_
        obtain ⟨b20135, e20136, h20137⟩ := I.fld (ha0) 0 13 1000 rfl
        refine g_getR C fi_X9_9 rfl e20136 (ha0).1 (ha0).2 dX9_numberHere_20 ?_
        refine g_iload_n C dX9_numberHere_23 rfl 2 rfl ?_
        refine g_iald (j := (v7_2.toInt.toNat)) C h20137.1 h20137.2.1 (ix_in h20137.2.2 (by omega)) dX9_numberHere_24 ?_
        refine g_topi (fun z20138 _ => ?_)
        refine a_iadd C dX9_numberHere_25 (fun z20139 => ?_)
        refine g_bipush (v := 48) C dX9_numberHere_26 (by decide) ?_
        refine a_isub C dX9_numberHere_28 (fun z20141 => ?_)
        refine g_istore_n (lv' := [(1, .int z20141), (0, .ref a0), (2, .int v7_2)]) C dX9_numberHere_29 rfl (by decide) rfl ?_
        refine s_iinc (lv0 := [(1, .int z20141), (0, .ref a0)]) (m := 1) C dX9_numberHere_30 2 rfl (by decide) rfl (by decide) (by omega) (fun z20143 h20144 => ?_)
        have h20144 : z20143.toInt = v7_2.toInt + 1 := h20144
        refine g_goto C 7 dX9_numberHere_33 (by decide) ?_
        refine g_lv (lv' := [(0, .ref a0), (1, .int z20141), (2, .int z20143)]) [2, 1, 0] rfl ?_
        exact ih7 z20141 z20143 (by omega) (by omega)
  refine g_iconst (v := 0) C dX9_numberHere_0 (by decide) ?_
  refine g_istore_n (lv' := [(1, .int 0), (0, .ref a0)]) C dX9_numberHere_1 rfl (by decide) rfl ?_
  refine g_aload_n C dX9_numberHere_2 rfl 1 rfl ?_
  refine g_getI C fi_X9_22 (by decide) (ha0).1 (ha0).2 dX9_numberHere_3 ?_
  have h20145 := I.rg (ha0) 3 rfl
  refine g_topi (fun z20146 h20147 => ?_)
  have h20147 : z20146.toInt = (pI P a0 3).toInt := congrArg Int32.toInt h20147
  refine g_istore_n (lv' := [(2, .int z20146), (1, .int 0), (0, .ref a0)]) C dX9_numberHere_6 rfl (by decide) rfl ?_
  refine g_lv (lv' := [(0, .ref a0), (1, .int 0), (2, .int z20146)]) [2, 1, 0] rfl ?_
  exact J7 _ 0 z20146 (Nat.lt_succ_self _) (by omega)
theorem dX9_next_188 : decode cX9_next 188 = .ok (.goto 4, 3) := by decide +kernel
theorem dX9_next_192 : decode cX9_next 192 = .ok (.putfield 36, 3) := by decide +kernel
theorem dX9_next_195 : decode cX9_next 195 = .ok (.goto 28, 3) := by decide +kernel
theorem dX9_next_220 : decode cX9_next 220 = .ok (.putfield 25, 3) := by decide +kernel
set_option maxHeartbeats 4000000 in
set_option maxRecDepth 100000 in
theorem s_X9_next {P : PP} {a0 : Nat} (I : IV P) (ha0 : At P a0 9) : CtrV yX9_next cX9_next 2 none ({ frames := 2, cells := 0, slots := 0, locals := 128 } : Room) 0 0 P [.ref a0] (fun P2 => IV P2 ∧ EK [9] P P2) := by
  refine enV (lv := [(0, .ref a0)]) (by decide) (Nat.le_of_ble_eq_true rfl) rfl (fun E D cy C Ci0 ret => ?_)
  have J220 : ∀ (P220 : PP) (v220_s0 : Int32), (IV P220) → (EK [9] P P220) → (3 ≤ v220_s0.toInt ∧ v220_s0.toInt ≤ 4) → (1 ≤ (pI P220 a0 1).toInt ∧ (pI P220 a0 1).toInt ≤ 1000) → (0 ≤ (pI P220 a0 3).toInt ∧ (pI P220 a0 3).toInt ≤ 999) → (1 ≤ (pI P220 a0 4).toInt ∧ (pI P220 a0 4).toInt ≤ 1001) → G E ({ frames := 2, cells := 0, slots := 0, locals := 128 } : Room) D cy 2 P220 0 0 220 [] [.int v220_s0, .ref a0] := by
    intro P220 v220_s0 I220 X220 hv220_s0 hq220_0 hq220_1 hq220_2
    have h20349 := X220.at ha0
    refine g_putI C fi_X9_25 rfl (h20349).1 (h20349).2 dX9_next_220 ?_
    refine gpW (ks := [9]) (I220.setI (h20349) (rgOk.none rfl)) (EK.setI (h20349).2 (by decide)) (fun Y20350 Iy20351 Xy20352 w20353 w20354 => ?_)
    have q20355 := w20353 1 (by decide)
    have q20356 := w20353 3 (by decide)
    have q20357 := w20353 4 (by decide)
    have Xz20358 : EK [9] P Y20350 := X220.tr (Xy20352.mono (by decide))
    have h20359 := Xy20352.at h20349
    exact ret _ _ _ _ _ dX9_next_223 (by decide) (by decide) ⟨Iy20351, Xz20358⟩
  have J198 : ∀ (P198 : PP) (v198_1 : Int32), (IV P198) → (EK [9] P P198) → (1 ≤ (pI P198 a0 1).toInt ∧ (pI P198 a0 1).toInt ≤ 1000) → (0 ≤ (pI P198 a0 3).toInt ∧ (pI P198 a0 3).toInt ≤ 999) → ((pI P198 a0 4).toInt = (pI P198 a0 3).toInt) → G E ({ frames := 2, cells := 0, slots := 0, locals := 128 } : Room) D cy 2 P198 0 0 198 [(0, .ref a0), (1, .int v198_1)] [] := by
    intro P198 v198_1 I198 X198 hq198_0 hq198_1 rel198_0
    have h20360 := X198.at ha0
    refine g_aload_n C dX9_next_198 rfl 0 rfl ?_
    refine g_dup C dX9_next_199 rfl ?_
    refine g_getI C fi_X9_19 (by decide) (h20360).1 (h20360).2 dX9_next_200 ?_
    have h20361 := I198.rg (h20360) 4 rfl
    refine g_iconst (v := 1) C dX9_next_203 (by decide) ?_
    refine s_iadd C dX9_next_204 (by show -2147483648 ≤ (pI P198 a0 4).toInt + 1 ∧ (pI P198 a0 4).toInt + 1 ≤ 2147483647; omega) (fun z20362 h20363 => ?_)
    have h20363 : z20362.toInt = (pI P198 a0 4).toInt + 1 := h20363
    refine g_putI C fi_X9_19 rfl (h20360).1 (h20360).2 dX9_next_205 ?_
    refine gpW (ks := [9]) (I198.setI (h20360) (rgOk.of rfl (by omega))) (EK.setI (h20360).2 (by decide)) (fun Y20364 Iy20365 Xy20366 w20367 w20368 => ?_)
    have q20369 := w20367 1 (by decide)
    have q20370 := w20367 3 (by decide)
    have Xz20371 : EK [9] P Y20364 := X198.tr (Xy20366.mono (by decide))
    have h20372 := Xy20366.at h20360
    refine g_aload_n C dX9_next_208 rfl 0 rfl ?_
    refine g_iload_n C dX9_next_209 rfl 1 rfl ?_
    refine g_bipush (v := 59) C dX9_next_210 (by decide) ?_
    have u20374 := ti_rng v198_1
    refine b_icmp_ne C 219 dX9_next_212 (by decide) (fun h20373 => ?_) (fun h20373 => ?_)
    · have h20373 : v198_1.toInt ≠ 59 := ti_ne h20373
      refine g_iconst (v := 4) C dX9_next_219 (by decide) ?_
      refine g_lv (lv' := []) [] rfl ?_
      exact J220 Y20364 4 Iy20365 Xz20371 (by decide) (by omega) (by omega) (by omega)
    · have h20373 : v198_1.toInt = 59 := congrArg Int32.toInt h20373
      refine g_iconst (v := 3) C dX9_next_215 (by decide) ?_
      refine g_goto C 220 dX9_next_216 (by decide) ?_
      refine g_lv (lv' := []) [] rfl ?_
      exact J220 Y20364 3 Iy20365 Xz20371 (by decide) (by omega) (by omega) (by omega)
  have J192 : ∀ (P192 : PP) (v192_s0 : Int32), (IV P192) → (EK [9] P P192) → (2 ≤ (pI P192 a0 2).toInt ∧ (pI P192 a0 2).toInt ≤ 4) → G E ({ frames := 2, cells := 0, slots := 0, locals := 128 } : Room) D cy 2 P192 0 0 192 [] [.int v192_s0, .ref a0] := by
    intro P192 v192_s0 I192 X192 hq192_0
    have h20375 := X192.at ha0
    refine g_putI C fi_X9_36 rfl (h20375).1 (h20375).2 dX9_next_192 ?_
    refine gpW (ks := [9]) (I192.setI (h20375) (rgOk.none rfl)) (EK.setI (h20375).2 (by decide)) (fun Y20376 Iy20377 Xy20378 w20379 w20380 => ?_)
    have q20381 := w20379 2 (by decide)
    have Xz20382 : EK [9] P Y20376 := X192.tr (Xy20378.mono (by decide))
    have h20383 := Xy20378.at h20375
    refine g_goto C 223 dX9_next_195 (by decide) ?_
    exact ret _ _ _ _ _ dX9_next_223 (by decide) (by decide) ⟨Iy20377, Xz20382⟩
  have J172 : ∀ (P172 : PP) (v172_s0 : Int32), (IV P172) → (EK [9] P P172) → (2 ≤ v172_s0.toInt ∧ v172_s0.toInt ≤ 4) → G E ({ frames := 2, cells := 0, slots := 0, locals := 128 } : Room) D cy 2 P172 0 0 172 [(0, .ref a0)] [.int v172_s0, .ref a0] := by
    intro P172 v172_s0 I172 X172 hv172_s0
    have h20384 := X172.at ha0
    refine g_putI C fi_X9_25 rfl (h20384).1 (h20384).2 dX9_next_172 ?_
    refine gpW (ks := [9]) (I172.setI (h20384) (rgOk.none rfl)) (EK.setI (h20384).2 (by decide)) (fun Y20385 Iy20386 Xy20387 w20388 w20389 => ?_)
    have Xz20390 : EK [9] P Y20385 := X172.tr (Xy20387.mono (by decide))
    have h20391 := Xy20387.at h20384
    refine g_aload_n C dX9_next_175 rfl 0 rfl ?_
    refine g_aload_n C dX9_next_176 rfl 0 rfl ?_
    refine g_getI C fi_X9_25 (by decide) (h20391).1 (h20391).2 dX9_next_177 ?_
    refine g_iconst (v := 2) C dX9_next_180 (by decide) ?_
    refine b_icmp_ne C 191 dX9_next_181 (by decide) (fun h20392 => ?_) (fun h20392 => ?_)
    · have h20392 : (pI Y20385 a0 2).toInt ≠ 2 := ti_ne h20392
      refine g_iconst (v := (-1)) C dX9_next_191 (by decide) ?_
      refine g_lv (lv' := []) [] rfl ?_
      exact J192 Y20385 (-1) Iy20386 Xz20390 (by omega)
    · have h20392 : (pI Y20385 a0 2).toInt = 2 := congrArg Int32.toInt h20392
      refine g_aload_n C dX9_next_184 rfl 0 rfl ?_
      refine g_callVI (rest := [.ref a0]) C mv_X9_32 [] (s_X9_numberHere Iy20386 h20391) (h20391).1 (h20391).2 rfl rfl (by decide) (Nat.le_of_ble_eq_true rfl) (by decide) dX9_next_185 (fun r20393 Y20394 h20395 => ?_)
      obtain ⟨rfl, h20395⟩ := h20395
      have h20395 : True := h20395
      refine g_goto C 192 dX9_next_188 (by decide) ?_
      refine g_lv (lv' := []) [] rfl ?_
      exact J192 Y20385 r20393 Iy20386 Xz20390 (by omega)
  have J133 : ∀ (P133 : PP) (v133_1 : Int32), (IV P133) → (EK [9] P P133) → (1 ≤ (pI P133 a0 1).toInt ∧ (pI P133 a0 1).toInt ≤ 1000) → (0 ≤ (pI P133 a0 3).toInt ∧ (pI P133 a0 3).toInt ≤ 999) → ((pI P133 a0 4).toInt = (pI P133 a0 3).toInt) → G E ({ frames := 2, cells := 0, slots := 0, locals := 128 } : Room) D cy 2 P133 0 0 133 [(0, .ref a0), (1, .int v133_1)] [] := by
    intro P133 v133_1 I133 X133 hq133_0 hq133_1 rel133_0
    have h20396 := X133.at ha0
    refine g_iload_n C dX9_next_133 rfl 1 rfl ?_
    refine g_bipush (v := 48) C dX9_next_134 (by decide) ?_
    have u20398 := ti_rng v133_1
    refine b_icmp_lt C 198 dX9_next_136 (by decide) (fun h20397 => ?_) (fun h20397 => ?_)
    · have h20397 : v133_1.toInt < 48 := h20397
      exact J198 P133 v133_1 I133 X133 (by omega) (by omega) (by show (pI P133 a0 4).toInt = (pI P133 a0 3).toInt; omega)
    · have h20397 : 48 ≤ v133_1.toInt := h20397
      refine g_iload_n C dX9_next_139 rfl 1 rfl ?_
      refine g_bipush (v := 57) C dX9_next_140 (by decide) ?_
      have u20400 := ti_rng v133_1
      refine b_icmp_gt C 198 dX9_next_142 (by decide) (fun h20399 => ?_) (fun h20399 => ?_)
      · have h20399 : 57 < v133_1.toInt := h20399
        exact J198 P133 v133_1 I133 X133 (by omega) (by omega) (by show (pI P133 a0 4).toInt = (pI P133 a0 3).toInt; omega)
      · have h20399 : v133_1.toInt ≤ 57 := h20399
        refine g_aload_n C dX9_next_145 rfl 0 rfl ?_
        refine g_bipush (v := 48) C dX9_next_146 (by decide) ?_
        refine g_bipush (v := 57) C dX9_next_148 (by decide) ?_
        refine g_callVV (rest := []) C mv_X9_28 [.int 48, .int 57] (s_X9_takeRun I133 h20396) (h20396).1 (h20396).2 rfl rfl (by decide) (Nat.le_of_ble_eq_true rfl) (by decide) dX9_next_150 (fun Y20402 h20403 => ?_)
        obtain ⟨Iy20404, Xy20405⟩ := h20403
        have Xz20406 : EK [9] P Y20402 := X133.tr (Xy20405.mono (by decide))
        have h20407 := Xy20405.at h20396
        refine g_aload_n C dX9_next_153 rfl 0 rfl ?_
        refine g_aload_n C dX9_next_154 rfl 0 rfl ?_
        refine g_getI C fi_X9_19 (by decide) (h20407).1 (h20407).2 dX9_next_155 ?_
        have h20408 := Iy20404.rg (h20407) 4 rfl
        refine g_aload_n C dX9_next_158 rfl 0 rfl ?_
        refine g_getI C fi_X9_22 (by decide) (h20407).1 (h20407).2 dX9_next_159 ?_
        have h20409 := Iy20404.rg (h20407) 3 rfl
        refine s_isub C dX9_next_162 (by show -2147483648 ≤ (pI Y20402 a0 4).toInt - (pI Y20402 a0 3).toInt ∧ (pI Y20402 a0 4).toInt - (pI Y20402 a0 3).toInt ≤ 2147483647; omega) (fun z20410 h20411 => ?_)
        have h20411 : z20410.toInt = (pI Y20402 a0 4).toInt - (pI Y20402 a0 3).toInt := h20411
        refine g_iconst (v := 4) C dX9_next_163 (by decide) ?_
        refine b_icmp_gt C 171 dX9_next_164 (by decide) (fun h20412 => ?_) (fun h20412 => ?_)
        · have h20412 : 4 < z20410.toInt := h20412
          refine g_iconst (v := 4) C dX9_next_171 (by decide) ?_
          refine g_lv (lv' := [(0, .ref a0)]) [0] rfl ?_
          exact J172 Y20402 4 Iy20404 Xz20406 (by decide)
        · have h20412 : z20410.toInt ≤ 4 := h20412
          refine g_iconst (v := 2) C dX9_next_167 (by decide) ?_
          refine g_goto C 172 dX9_next_168 (by decide) ?_
          refine g_lv (lv' := [(0, .ref a0)]) [0] rfl ?_
          exact J172 Y20402 2 Iy20404 Xz20406 (by decide)
  have J127 : ∀ (P127 : PP) (v127_s0 : Int32), (IV P127) → (EK [9] P P127) → (1 ≤ v127_s0.toInt ∧ v127_s0.toInt ≤ 4) → G E ({ frames := 2, cells := 0, slots := 0, locals := 128 } : Room) D cy 2 P127 0 0 127 [] [.int v127_s0, .ref a0] := by
    intro P127 v127_s0 I127 X127 hv127_s0
    have h20413 := X127.at ha0
    refine g_putI C fi_X9_25 rfl (h20413).1 (h20413).2 dX9_next_127 ?_
    refine gpW (ks := [9]) (I127.setI (h20413) (rgOk.none rfl)) (EK.setI (h20413).2 (by decide)) (fun Y20414 Iy20415 Xy20416 w20417 w20418 => ?_)
    have Xz20419 : EK [9] P Y20414 := X127.tr (Xy20416.mono (by decide))
    have h20420 := Xy20416.at h20413
    refine g_goto C 223 dX9_next_130 (by decide) ?_
    exact ret _ _ _ _ _ dX9_next_223 (by decide) (by decide) ⟨Iy20415, Xz20419⟩
  have J52 : ∀ (P52 : PP), (IV P52) → (EK [9] P P52) → G E ({ frames := 2, cells := 0, slots := 0, locals := 128 } : Room) D cy 2 P52 0 0 52 [(0, .ref a0)] [] := by
    intro P52 I52 X52
    have h20421 := X52.at ha0
    refine g_aload_n C dX9_next_52 rfl 0 rfl ?_
    refine g_aload_n C dX9_next_53 rfl 0 rfl ?_
    refine g_getI C fi_X9_19 (by decide) (h20421).1 (h20421).2 dX9_next_54 ?_
    have h20422 := I52.rg (h20421) 4 rfl
    refine g_putI C fi_X9_22 rfl (h20421).1 (h20421).2 dX9_next_57 ?_
    refine gpW (ks := [9]) (I52.setI (h20421) (rgOk.of rfl (by omega))) (EK.setI (h20421).2 (by decide)) (fun Y20423 Iy20424 Xy20425 w20426 w20427 => ?_)
    have q20428 := w20426 4 (by decide)
    have Xz20429 : EK [9] P Y20423 := X52.tr (Xy20425.mono (by decide))
    have h20430 := Xy20425.at h20421
    refine g_aload_n C dX9_next_60 rfl 0 rfl ?_
    refine g_getI C fi_X9_22 (by decide) (h20430).1 (h20430).2 dX9_next_61 ?_
    refine g_aload_n C dX9_next_64 rfl 0 rfl ?_
    refine g_getI C fi_X9_15 (by decide) (h20430).1 (h20430).2 dX9_next_65 ?_
    have h20431 := Iy20424.rg (h20430) 1 rfl
    refine b_icmp_lt C 77 dX9_next_68 (by decide) (fun h20432 => ?_) (fun h20432 => ?_)
    · have h20432 : (pI Y20423 a0 3).toInt < (pI Y20423 a0 1).toInt := h20432
      refine g_aload_n C dX9_next_77 rfl 0 rfl ?_
      obtain ⟨b20433, e20434, h20435⟩ := Iy20424.fld (h20430) 0 13 1000 rfl
      refine g_getR C fi_X9_9 rfl e20434 (h20430).1 (h20430).2 dX9_next_78 ?_
      refine g_aload_n C dX9_next_81 rfl 0 rfl ?_
      refine g_getI C fi_X9_22 (by decide) (h20430).1 (h20430).2 dX9_next_82 ?_
      refine g_iald (j := ((pI Y20423 a0 3).toInt.toNat)) C h20435.1 h20435.2.1 (ix_in h20435.2.2 (by omega)) dX9_next_85 ?_
      refine g_topi (fun z20436 _ => ?_)
      refine g_istore_n (lv' := [(1, .int z20436), (0, .ref a0)]) C dX9_next_86 rfl (by decide) rfl ?_
      refine g_iload_n C dX9_next_87 rfl 0 rfl ?_
      refine g_bipush (v := 97) C dX9_next_88 (by decide) ?_
      have u20438 := ti_rng z20436
      refine b_icmp_lt C 133 dX9_next_90 (by decide) (fun h20437 => ?_) (fun h20437 => ?_)
      · have h20437 : z20436.toInt < 97 := h20437
        refine g_lv (lv' := [(0, .ref a0), (1, .int z20436)]) [1, 0] rfl ?_
        exact J133 Y20423 z20436 Iy20424 Xz20429 (by omega) (by omega) (by show (pI Y20423 a0 4).toInt = (pI Y20423 a0 3).toInt; omega)
      · have h20437 : 97 ≤ z20436.toInt := h20437
        refine g_iload_n C dX9_next_93 rfl 0 rfl ?_
        refine g_bipush (v := 122) C dX9_next_94 (by decide) ?_
        have u20440 := ti_rng z20436
        refine b_icmp_gt C 133 dX9_next_96 (by decide) (fun h20439 => ?_) (fun h20439 => ?_)
        · have h20439 : 122 < z20436.toInt := h20439
          refine g_lv (lv' := [(0, .ref a0), (1, .int z20436)]) [1, 0] rfl ?_
          exact J133 Y20423 z20436 Iy20424 Xz20429 (by omega) (by omega) (by show (pI Y20423 a0 4).toInt = (pI Y20423 a0 3).toInt; omega)
        · have h20439 : z20436.toInt ≤ 122 := h20439
          refine g_aload_n C dX9_next_99 rfl 1 rfl ?_
          refine g_bipush (v := 97) C dX9_next_100 (by decide) ?_
          refine g_bipush (v := 122) C dX9_next_102 (by decide) ?_
          refine g_callVV (rest := []) C mv_X9_28 [.int 97, .int 122] (s_X9_takeRun Iy20424 h20430) (h20430).1 (h20430).2 rfl rfl (by decide) (Nat.le_of_ble_eq_true rfl) (by decide) dX9_next_104 (fun Y20442 h20443 => ?_)
          obtain ⟨Iy20444, Xy20445⟩ := h20443
          have Xz20446 : EK [9] P Y20442 := Xz20429.tr (Xy20445.mono (by decide))
          have h20447 := Xy20445.at h20430
          refine g_aload_n C dX9_next_107 rfl 1 rfl ?_
          refine g_aload_n C dX9_next_108 rfl 1 rfl ?_
          refine g_getI C fi_X9_19 (by decide) (h20447).1 (h20447).2 dX9_next_109 ?_
          have h20448 := Iy20444.rg (h20447) 4 rfl
          refine g_aload_n C dX9_next_112 rfl 1 rfl ?_
          refine g_getI C fi_X9_22 (by decide) (h20447).1 (h20447).2 dX9_next_113 ?_
          have h20449 := Iy20444.rg (h20447) 3 rfl
          refine s_isub C dX9_next_116 (by show -2147483648 ≤ (pI Y20442 a0 4).toInt - (pI Y20442 a0 3).toInt ∧ (pI Y20442 a0 4).toInt - (pI Y20442 a0 3).toInt ≤ 2147483647; omega) (fun z20450 h20451 => ?_)
          have h20451 : z20450.toInt = (pI Y20442 a0 4).toInt - (pI Y20442 a0 3).toInt := h20451
          refine g_bipush (v := 8) C dX9_next_117 (by decide) ?_
          refine b_icmp_gt C 126 dX9_next_119 (by decide) (fun h20452 => ?_) (fun h20452 => ?_)
          · have h20452 : 8 < z20450.toInt := h20452
            refine g_iconst (v := 4) C dX9_next_126 (by decide) ?_
            refine g_lv (lv' := []) [] rfl ?_
            exact J127 Y20442 4 Iy20444 Xz20446 (by decide)
          · have h20452 : z20450.toInt ≤ 8 := h20452
            refine g_iconst (v := 1) C dX9_next_122 (by decide) ?_
            refine g_goto C 127 dX9_next_123 (by decide) ?_
            refine g_lv (lv' := []) [] rfl ?_
            exact J127 Y20442 1 Iy20444 Xz20446 (by decide)
    · have h20432 : (pI Y20423 a0 1).toInt ≤ (pI Y20423 a0 3).toInt := h20432
      refine g_aload_n C dX9_next_71 rfl 0 rfl ?_
      refine g_iconst (v := 0) C dX9_next_72 (by decide) ?_
      refine g_putI C fi_X9_25 rfl (h20430).1 (h20430).2 dX9_next_73 ?_
      refine gpW (ks := [9]) (Iy20424.setI (h20430) (rgOk.none rfl)) (EK.setI (h20430).2 (by decide)) (fun Y20453 Iy20454 Xy20455 w20456 w20457 => ?_)
      have w20457 : (pI Y20453 a0 2).toInt = 0 := w20457
      have q20458 := w20456 4 (by decide)
      have q20459 := w20456 3 (by decide)
      have q20460 := w20456 1 (by decide)
      have Xz20461 : EK [9] P Y20453 := Xz20429.tr (Xy20455.mono (by decide))
      have h20462 := Xy20455.at h20430
      exact ret _ _ _ _ _ dX9_next_76 (by decide) (by decide) ⟨Iy20454, Xz20461⟩
  have J0 : ∀ (n0 : Nat) (P0 : PP), (1000 - (pI P0 a0 4).toInt).toNat < n0 → (IV P0) → (EK [9] P P0) → G E ({ frames := 2, cells := 0, slots := 0, locals := 128 } : Room) D cy 2 P0 0 0 0 [(0, .ref a0)] [] := by
    intro n0
    induction n0 with
    | zero => intro P0 hm0 I0 X0; omega
    | succ n0 ih0 =>
      intro P0 hm0 I0 X0
      have h20463 := X0.at ha0
      have J39 : (1 ≤ (pI P0 a0 1).toInt ∧ (pI P0 a0 1).toInt ≤ 1000) → (0 ≤ (pI P0 a0 4).toInt ∧ (pI P0 a0 4).toInt ≤ 999) → G E ({ frames := 2, cells := 0, slots := 0, locals := 128 } : Room) D cy 2 P0 0 0 39 [(0, .ref a0)] [] := by
        intro hq39_0 hq39_1
        have h20464 := X0.at ha0
        refine g_aload_n C dX9_next_39 rfl 0 rfl ?_
        refine g_dup C dX9_next_40 rfl ?_
        refine g_getI C fi_X9_19 (by decide) (h20464).1 (h20464).2 dX9_next_41 ?_
        refine g_iconst (v := 1) C dX9_next_44 (by decide) ?_
        refine s_iadd C dX9_next_45 (by show -2147483648 ≤ (pI P0 a0 4).toInt + 1 ∧ (pI P0 a0 4).toInt + 1 ≤ 2147483647; omega) (fun z20465 h20466 => ?_)
        have h20466 : z20465.toInt = (pI P0 a0 4).toInt + 1 := h20466
        refine g_putI C fi_X9_19 rfl (h20464).1 (h20464).2 dX9_next_46 ?_
        refine gpW (ks := [9]) (I0.setI (h20464) (rgOk.of rfl (by omega))) (EK.setI (h20464).2 (by decide)) (fun Y20467 Iy20468 Xy20469 w20470 w20471 => ?_)
        have q20472 := w20470 1 (by decide)
        have Xz20473 : EK [9] P Y20467 := X0.tr (Xy20469.mono (by decide))
        have h20474 := Xy20469.at h20464
        refine g_goto C 0 dX9_next_49 (by decide) ?_
        exact ih0 Y20467 (by omega) Iy20468 Xz20473
      refine g_aload_n C dX9_next_0 rfl 0 rfl ?_
      refine g_getI C fi_X9_19 (by decide) (h20463).1 (h20463).2 dX9_next_1 ?_
      have h20475 := I0.rg (h20463) 4 rfl
      refine g_aload_n C dX9_next_4 rfl 0 rfl ?_
      refine g_getI C fi_X9_15 (by decide) (h20463).1 (h20463).2 dX9_next_5 ?_
      have h20476 := I0.rg (h20463) 1 rfl
      refine b_icmp_ge C 52 dX9_next_8 (by decide) (fun h20477 => ?_) (fun h20477 => ?_)
      · have h20477 : (pI P0 a0 1).toInt ≤ (pI P0 a0 4).toInt := h20477
        exact J52 P0 I0 X0
      · have h20477 : (pI P0 a0 4).toInt < (pI P0 a0 1).toInt := h20477
        refine g_aload_n C dX9_next_11 rfl 0 rfl ?_
        obtain ⟨b20478, e20479, h20480⟩ := I0.fld (h20463) 0 13 1000 rfl
        refine g_getR C fi_X9_9 rfl e20479 (h20463).1 (h20463).2 dX9_next_12 ?_
        refine g_aload_n C dX9_next_15 rfl 0 rfl ?_
        refine g_getI C fi_X9_19 (by decide) (h20463).1 (h20463).2 dX9_next_16 ?_
        refine g_iald (j := ((pI P0 a0 4).toInt.toNat)) C h20480.1 h20480.2.1 (ix_in h20480.2.2 (by omega)) dX9_next_19 ?_
        refine g_topi (fun z20481 _ => ?_)
        refine g_bipush (v := 10) C dX9_next_20 (by decide) ?_
        have u20483 := ti_rng z20481
        refine b_icmp_eq C 39 dX9_next_22 (by decide) (fun h20482 => ?_) (fun h20482 => ?_)
        · have h20482 : z20481.toInt = 10 := congrArg Int32.toInt h20482
          exact J39 (by omega) (by omega)
        · have h20482 : z20481.toInt ≠ 10 := ti_ne h20482
          refine g_aload_n C dX9_next_25 rfl 0 rfl ?_
          refine g_getR C fi_X9_9 rfl e20479 (h20463).1 (h20463).2 dX9_next_26 ?_
          refine g_aload_n C dX9_next_29 rfl 0 rfl ?_
          refine g_getI C fi_X9_19 (by decide) (h20463).1 (h20463).2 dX9_next_30 ?_
          refine g_iald (j := ((pI P0 a0 4).toInt.toNat)) C h20480.1 h20480.2.1 (ix_in h20480.2.2 (by omega)) dX9_next_33 ?_
          refine g_topi (fun z20484 _ => ?_)
          refine g_bipush (v := 32) C dX9_next_34 (by decide) ?_
          have u20486 := ti_rng z20484
          refine b_icmp_ne C 52 dX9_next_36 (by decide) (fun h20485 => ?_) (fun h20485 => ?_)
          · have h20485 : z20484.toInt ≠ 32 := ti_ne h20485
            exact J52 P0 I0 X0
          · have h20485 : z20484.toInt = 32 := congrArg Int32.toInt h20485
            exact J39 (by omega) (by omega)
  exact J0 _ P (Nat.lt_succ_self _) I EK.rf
theorem dX4_faultFor_30 : decode cX4_faultFor 30 = .ok (.aload_n 0, 1) := by decide +kernel
theorem dX4_faultFor_31 : decode cX4_faultFor 31 = .ok (.getfield 12, 3) := by decide +kernel
theorem dX4_faultFor_34 : decode cX4_faultFor 34 = .ok (.getfield 34, 3) := by decide +kernel
theorem dX4_faultFor_37 : decode cX4_faultFor 37 = .ok (.ifCond .ne 5, 3) := by decide +kernel
theorem dX4_faultFor_42 : decode cX4_faultFor 42 = .ok (.aload_n 0, 1) := by decide +kernel
theorem dX4_faultFor_43 : decode cX4_faultFor 43 = .ok (.iload_n 1, 1) := by decide +kernel
theorem dX4_faultFor_44 : decode cX4_faultFor 44 = .ok (.invokevirtual 38, 3) := by decide +kernel
theorem dX4_statementFault_0 : decode cX4_statementFault 0 = .ok (.aload_n 0, 1) := by decide +kernel
theorem dX4_statementFault_1 : decode cX4_statementFault 1 = .ok (.getfield 12, 3) := by decide +kernel
theorem dX4_statementFault_4 : decode cX4_statementFault 4 = .ok (.ldc 42, 2) := by decide +kernel
theorem dX11_enough_0 : decode cX11_enough 0 = .ok (.aload_n 0, 1) := by decide +kernel
theorem dX11_enough_1 : decode cX11_enough 1 = .ok (.iload_n 1, 1) := by decide +kernel
theorem dX11_enough_2 : decode cX11_enough 2 = .ok (.invokevirtual 97, 3) := by decide +kernel
theorem dX11_enough_5 : decode cX11_enough 5 = .ok (.ifCond .eq 18, 3) := by decide +kernel
theorem dX11_enough_8 : decode cX11_enough 8 = .ok (.iload_n 2, 1) := by decide +kernel
theorem dX11_enough_9 : decode cX11_enough 9 = .ok (.iconst 0, 1) := by decide +kernel
theorem dX11_enough_10 : decode cX11_enough 10 = .ok (.invokestatic 289, 3) := by decide +kernel
theorem dX11_enough_13 : decode cX11_enough 13 = .ok (.ifCond .eq 10, 3) := by decide +kernel
theorem dX11_enough_16 : decode cX11_enough 16 = .ok (.iload_n 3, 1) := by decide +kernel
theorem dX11_enough_17 : decode cX11_enough 17 = .ok (.invokestatic 249, 3) := by decide +kernel
theorem dX11_enough_20 : decode cX11_enough 20 = .ok (.ifCond .ne 5, 3) := by decide +kernel
theorem dX11_enough_23 : decode cX11_enough 23 = .ok (.iconst (-1), 1) := by decide +kernel
theorem dX11_enough_24 : decode cX11_enough 24 = .ok (.ireturn, 1) := by decide +kernel
theorem dX11_enough_25 : decode cX11_enough 25 = .ok (.aload_n 0, 1) := by decide +kernel
theorem dX11_enough_26 : decode cX11_enough 26 = .ok (.getfield 60, 3) := by decide +kernel
theorem dX11_enough_29 : decode cX11_enough 29 = .ok (.aload_n 0, 1) := by decide +kernel
theorem dX11_enough_30 : decode cX11_enough 30 = .ok (.getfield 11, 3) := by decide +kernel
theorem dX11_enough_33 : decode cX11_enough 33 = .ok (.iload_n 1, 1) := by decide +kernel
theorem dX11_enough_34 : decode cX11_enough 34 = .ok (.aaload, 1) := by decide +kernel
theorem dX11_enough_35 : decode cX11_enough 35 = .ok (.iload_n 2, 1) := by decide +kernel
theorem dX11_enough_36 : decode cX11_enough 36 = .ok (.iload_n 3, 1) := by decide +kernel
theorem dX11_enough_37 : decode cX11_enough 37 = .ok (.iconst 0, 1) := by decide +kernel
theorem dX11_enough_38 : decode cX11_enough 38 = .ok (.invokevirtual 292, 3) := by decide +kernel
theorem dX11_enough_41 : decode cX11_enough 41 = .ok (.iconst 0, 1) := by decide +kernel
theorem dX11_enough_42 : decode cX11_enough 42 = .ok (.istore 5, 2) := by decide +kernel
theorem dX11_enough_44 : decode cX11_enough 44 = .ok (.iload 5, 2) := by decide +kernel
theorem dX11_enough_46 : decode cX11_enough 46 = .ok (.iload_n 2, 1) := by decide +kernel
theorem dX11_enough_47 : decode cX11_enough 47 = .ok (.if_icmp .gt 56, 3) := by decide +kernel
theorem dX11_enough_50 : decode cX11_enough 50 = .ok (.iload_n 2, 1) := by decide +kernel
theorem dX11_enough_51 : decode cX11_enough 51 = .ok (.iload 5, 2) := by decide +kernel
theorem dX11_enough_53 : decode cX11_enough 53 = .ok (.invokestatic 299, 3) := by decide +kernel
theorem dX11_enough_56 : decode cX11_enough 56 = .ok (.istore 6, 2) := by decide +kernel
theorem dX11_enough_58 : decode cX11_enough 58 = .ok (.aload_n 0, 1) := by decide +kernel
theorem dX11_enough_59 : decode cX11_enough 59 = .ok (.getfield 60, 3) := by decide +kernel
theorem dX11_enough_62 : decode cX11_enough 62 = .ok (.getfield 296, 3) := by decide +kernel
theorem dX11_enough_65 : decode cX11_enough 65 = .ok (.iload 5, 2) := by decide +kernel
theorem dX11_enough_67 : decode cX11_enough 67 = .ok (.iaload, 1) := by decide +kernel
theorem dX11_enough_68 : decode cX11_enough 68 = .ok (.istore 7, 2) := by decide +kernel
theorem dX11_enough_70 : decode cX11_enough 70 = .ok (.iload 4, 2) := by decide +kernel
theorem dX11_enough_72 : decode cX11_enough 72 = .ok (.ifCond .eq 15, 3) := by decide +kernel
theorem dX11_enough_75 : decode cX11_enough 75 = .ok (.iconst 2, 1) := by decide +kernel
theorem dX11_enough_76 : decode cX11_enough 76 = .ok (.iload 7, 2) := by decide +kernel
theorem dX11_enough_78 : decode cX11_enough 78 = .ok (.imul, 1) := by decide +kernel
theorem dX11_enough_79 : decode cX11_enough 79 = .ok (.iload 6, 2) := by decide +kernel
theorem dX11_enough_81 : decode cX11_enough 81 = .ok (.if_icmp .lt 16, 3) := by decide +kernel
theorem dX11_enough_84 : decode cX11_enough 84 = .ok (.goto 10, 3) := by decide +kernel
theorem dX11_enough_87 : decode cX11_enough 87 = .ok (.iload 7, 2) := by decide +kernel
theorem dX11_enough_89 : decode cX11_enough 89 = .ok (.iload 6, 2) := by decide +kernel
theorem dX11_enough_91 : decode cX11_enough 91 = .ok (.if_icmp .lt 6, 3) := by decide +kernel
theorem dX11_enough_94 : decode cX11_enough 94 = .ok (.iload 5, 2) := by decide +kernel
theorem dX11_enough_96 : decode cX11_enough 96 = .ok (.ireturn, 1) := by decide +kernel
theorem dX11_enough_97 : decode cX11_enough 97 = .ok (.iinc 5 1, 3) := by decide +kernel
theorem dX11_enough_100 : decode cX11_enough 100 = .ok (.goto (-56), 3) := by decide +kernel
theorem dX11_enough_103 : decode cX11_enough 103 = .ok (.iconst (-1), 1) := by decide +kernel
theorem dX11_enough_104 : decode cX11_enough 104 = .ok (.ireturn, 1) := by decide +kernel
set_option maxHeartbeats 4000000 in
set_option maxRecDepth 100000 in
theorem s_X11_enough {P : PP} {a0 : Nat} {a1 : Int32} {a2 : Int32} {a3 : Int32} {a4 : Int32} (I : IV P) (ha0 : At P a0 11) (ha4 : 0 ≤ a4.toInt ∧ a4.toInt ≤ 1) : CtrI yX11_enough cX11_enough 8 (some Jvm.ClassFile.FieldType.int) ({ frames := 16, cells := 0, slots := 0, locals := 1024 } : Room) 0 0 P [.ref a0, .int a1, .int a2, .int a3, .int a4] (fun r P2 => IV P2 ∧ EK [0, 1, 5, 8, 13] P P2 ∧ (-1 ≤ r.toInt ∧ r.toInt ≤ 11)) := by
  refine enI (lv := [(0, .ref a0), (1, .int a1), (2, .int a2), (3, .int a3), (4, .int a4)]) (by decide) (Nat.le_of_ble_eq_true rfl) rfl (fun E D cy C Ci0 ret => ?_)
  have J94 : ∀ (P94 : PP) (v94_5 : Int32), (IV P94) → (EK [0, 1, 5, 8, 13] P P94) → (0 ≤ v94_5.toInt ∧ v94_5.toInt ≤ 11) → G E ({ frames := 16, cells := 0, slots := 0, locals := 1024 } : Room) D cy 8 P94 0 0 94 [(5, .int v94_5)] [] := by
    intro P94 v94_5 I94 X94 hv94_5
    have h20803 := X94.at ha0
    refine g_iload C dX11_enough_94 0 rfl ?_
    exact ret _ _ _ _ _ _ dX11_enough_96 rfl (by decide) (by decide) ⟨I94, X94, (by omega)⟩
  have J44 : ∀ (n44 : Nat) (P44 : PP) (v44_5 : Int32), (12 - v44_5.toInt).toNat < n44 → (IV P44) → (EK [0, 1, 5, 8, 13] P P44) → (1 ≤ a2.toInt ∧ a2.toInt ≤ 11) → (0 ≤ v44_5.toInt ∧ v44_5.toInt ≤ 12) → G E ({ frames := 16, cells := 0, slots := 0, locals := 1024 } : Room) D cy 8 P44 0 0 44 [(0, .ref a0), (2, .int a2), (4, .int a4), (5, .int v44_5)] [] := by
    intro n44
    induction n44 with
    | zero => intro P44 v44_5 hm44 I44 X44 hv44_2 hv44_5; omega
    | succ n44 ih44 =>
      intro P44 v44_5 hm44 I44 X44 hv44_2 hv44_5
      have h20804 := X44.at ha0
      have J97 : (1 ≤ a2.toInt ∧ a2.toInt ≤ 11) → (0 ≤ v44_5.toInt ∧ v44_5.toInt ≤ 11) → G E ({ frames := 16, cells := 0, slots := 0, locals := 1024 } : Room) D cy 8 P44 0 0 97 [(0, .ref a0), (2, .int a2), (4, .int a4), (5, .int v44_5)] [] := by
        intro hv97_2 hv97_5
        have h20805 := X44.at ha0
        refine s_iinc (lv0 := [(0, .ref a0), (2, .int a2), (4, .int a4)]) (m := 1) C dX11_enough_97 3 rfl (by decide) rfl (by decide) (by omega) (fun z20806 h20807 => ?_)
        have h20807 : z20806.toInt = v44_5.toInt + 1 := h20807
        refine g_goto C 44 dX11_enough_100 (by decide) ?_
        refine g_lv (lv' := [(0, .ref a0), (2, .int a2), (4, .int a4), (5, .int z20806)]) [1, 2, 3, 0] rfl ?_
        exact ih44 P44 z20806 (by omega) I44 X44 (by omega) (by omega)
      refine g_iload C dX11_enough_44 3 rfl ?_
      refine g_iload_n C dX11_enough_46 rfl 1 rfl ?_
      refine b_icmp_gt C 103 dX11_enough_47 (by decide) (fun h20808 => ?_) (fun h20808 => ?_)
      · have h20808 : a2.toInt < v44_5.toInt := h20808
        refine g_iconst (v := (-1)) C dX11_enough_103 (by decide) ?_
        exact ret _ _ _ _ _ _ dX11_enough_104 rfl (by decide) (by decide) ⟨I44, X44, (by decide)⟩
      · have h20808 : v44_5.toInt ≤ a2.toInt := h20808
        refine g_iload_n C dX11_enough_50 rfl 1 rfl ?_
        refine g_iload C dX11_enough_51 3 rfl ?_
        refine g_callSI (b := 0) (ci := 0) (rest := []) C ms_X11_299 [.int a2, .int v44_5] (s_X11_choose I44 (by omega) (by omega)) rfl rfl (by decide) (Nat.le_of_ble_eq_true rfl) (by decide) dX11_enough_53 (fun r20809 Y20810 h20811 => ?_)
        obtain ⟨rfl, h20811⟩ := h20811
        have h20811 : True := h20811
        refine g_istore (lv' := [(6, .int r20809), (0, .ref a0), (2, .int a2), (4, .int a4), (5, .int v44_5)]) C dX11_enough_56 (by decide) rfl ?_
        refine g_aload_n C dX11_enough_58 rfl 1 rfl ?_
        obtain ⟨b20812, e20813, h20814⟩ := I44.fld (h20804) 10 8 0 rfl
        refine g_getR C fi_X11_60 rfl e20813 (h20804).1 (h20804).2 dX11_enough_59 ?_
        obtain ⟨b20815, e20816, h20817⟩ := I44.fld (h20814.at) 0 13 12 rfl
        refine g_getR C fi_X11_296 rfl e20816 (h20814.at).1 (h20814.at).2 dX11_enough_62 ?_
        refine g_iload C dX11_enough_65 4 rfl ?_
        refine g_iald (j := (v44_5.toInt.toNat)) C h20817.1 h20817.2.1 (ix_in h20817.2.2 (by omega)) dX11_enough_67 ?_
        refine g_topi (fun z20818 _ => ?_)
        refine g_istore (lv' := [(7, .int z20818), (6, .int r20809), (0, .ref a0), (2, .int a2), (4, .int a4), (5, .int v44_5)]) C dX11_enough_68 (by decide) rfl ?_
        refine g_iload C dX11_enough_70 4 rfl ?_
        refine b_if_eq C 87 dX11_enough_72 (by decide) (fun h20819 => ?_) (fun h20819 => ?_)
        · have h20819 : a4.toInt = 0 := congrArg Int32.toInt h20819
          refine g_iload C dX11_enough_87 0 rfl ?_
          refine g_iload C dX11_enough_89 1 rfl ?_
          have u20821 := ti_rng z20818
          have u20822 := ti_rng r20809
          refine b_icmp_lt C 97 dX11_enough_91 (by decide) (fun h20820 => ?_) (fun h20820 => ?_)
          · have h20820 : z20818.toInt < r20809.toInt := h20820
            refine g_lv (lv' := [(0, .ref a0), (2, .int a2), (4, .int a4), (5, .int v44_5)]) [2, 3, 4, 5] rfl ?_
            exact J97 (by omega) (by omega)
          · have h20820 : r20809.toInt ≤ z20818.toInt := h20820
            refine g_lv (lv' := [(5, .int v44_5)]) [5] rfl ?_
            exact J94 P44 v44_5 I44 X44 (by omega)
        · have h20819 : a4.toInt ≠ 0 := ti_ne h20819
          refine g_iconst (v := 2) C dX11_enough_75 (by decide) ?_
          refine g_iload C dX11_enough_76 0 rfl ?_
          refine a_imul C dX11_enough_78 (fun z20823 => ?_)
          refine g_iload C dX11_enough_79 1 rfl ?_
          have u20826 := ti_rng z20823
          have u20827 := ti_rng r20809
          refine b_icmp_lt C 97 dX11_enough_81 (by decide) (fun h20825 => ?_) (fun h20825 => ?_)
          · have h20825 : z20823.toInt < r20809.toInt := h20825
            refine g_lv (lv' := [(0, .ref a0), (2, .int a2), (4, .int a4), (5, .int v44_5)]) [2, 3, 4, 5] rfl ?_
            exact J97 (by omega) (by omega)
          · have h20825 : r20809.toInt ≤ z20823.toInt := h20825
            refine g_goto C 94 dX11_enough_84 (by decide) ?_
            refine g_lv (lv' := [(5, .int v44_5)]) [5] rfl ?_
            exact J94 P44 v44_5 I44 X44 (by omega)
  have J23 : G E ({ frames := 16, cells := 0, slots := 0, locals := 1024 } : Room) D cy 8 P 0 0 23 [] [] := by
    refine g_iconst (v := (-1)) C dX11_enough_23 (by decide) ?_
    exact ret _ _ _ _ _ _ dX11_enough_24 rfl (by decide) (by decide) ⟨I, EK.rf, (by decide)⟩
  refine g_aload_n C dX11_enough_0 rfl 0 rfl ?_
  refine g_iload_n C dX11_enough_1 rfl 1 rfl ?_
  refine g_callVI (rest := []) C mv_X11_97 [.int a1] (s_X11_isTold I ha0) (ha0).1 (ha0).2 rfl rfl (by decide) (Nat.le_of_ble_eq_true rfl) (by decide) dX11_enough_2 (fun r20828 Y20829 h20830 => ?_)
  obtain ⟨rfl, h20830⟩ := h20830
  obtain ⟨h20830, hi20831⟩ := h20830
  have hi20831 : r20828.toInt = 0 ∨ (((0 : Int) ≤ a1.toInt ∧ a1.toInt ≤ (1 : Int))) := hi20831
  have h20830 : 0 ≤ r20828.toInt ∧ r20828.toInt ≤ 1 := h20830
  refine b_if_eq C 23 dX11_enough_5 (by decide) (fun h20832 => ?_) (fun h20832 => ?_)
  · have h20832 : r20828.toInt = 0 := congrArg Int32.toInt h20832
    clear hi20831
    refine g_lv (lv' := []) [] rfl ?_
    exact J23 
  · have h20832 : r20828.toInt ≠ 0 := ti_ne h20832
    replace hi20831 := hi20831.resolve_left (by omega)
    refine g_iload_n C dX11_enough_8 rfl 2 rfl ?_
    refine g_iconst (v := 0) C dX11_enough_9 (by decide) ?_
    refine g_callSI (b := 0) (ci := 0) (rest := []) C ms_X11_289 [.int a2, .int 0] (s_X11_isSetSize I) rfl rfl (by decide) (Nat.le_of_ble_eq_true rfl) (by decide) dX11_enough_10 (fun r20833 Y20834 h20835 => ?_)
    obtain ⟨rfl, h20835⟩ := h20835
    obtain ⟨h20835, hi20836⟩ := h20835
    have hi20836 : r20833.toInt = 0 ∨ (((1 : Int) ≤ a2.toInt ∧ a2.toInt ≤ (11 : Int)) ∧ ((0 : Int) ≤ 0 ∧ 0 ≤ (11 : Int))) := hi20836
    have h20835 : 0 ≤ r20833.toInt ∧ r20833.toInt ≤ 1 := h20835
    refine b_if_eq C 23 dX11_enough_13 (by decide) (fun h20837 => ?_) (fun h20837 => ?_)
    · have h20837 : r20833.toInt = 0 := congrArg Int32.toInt h20837
      clear hi20836
      refine g_lv (lv' := []) [] rfl ?_
      exact J23 
    · have h20837 : r20833.toInt ≠ 0 := ti_ne h20837
      replace hi20836 := hi20836.resolve_left (by omega)
      refine g_iload_n C dX11_enough_16 rfl 3 rfl ?_
      refine g_callSI (b := 0) (ci := 0) (rest := []) C ms_X11_249 [.int a3] (s_X11_isHow I) rfl rfl (by decide) (Nat.le_of_ble_eq_true rfl) (by decide) dX11_enough_17 (fun r20838 Y20839 h20840 => ?_)
      obtain ⟨rfl, h20840⟩ := h20840
      have h20840 : 0 ≤ r20838.toInt ∧ r20838.toInt ≤ 1 := h20840
      refine b_if_ne C 25 dX11_enough_20 (by decide) (fun h20841 => ?_) (fun h20841 => ?_)
      · have h20841 : r20838.toInt ≠ 0 := ti_ne h20841
        refine g_aload_n C dX11_enough_25 rfl 0 rfl ?_
        obtain ⟨b20842, e20843, h20844⟩ := I.fld (ha0) 10 8 0 rfl
        refine g_getR C fi_X11_60 rfl e20843 (ha0).1 (ha0).2 dX11_enough_26 ?_
        refine g_aload_n C dX11_enough_29 rfl 0 rfl ?_
        obtain ⟨b20845, e20846, h20847⟩ := I.fld (ha0) 0 17 2 rfl
        refine g_getR C fi_X11_11 rfl e20846 (ha0).1 (ha0).2 dX11_enough_30 ?_
        refine g_iload_n C dX11_enough_33 rfl 1 rfl ?_
        obtain ⟨b20848, e20849, h20850⟩ := I.elm h20847 (by decide) (a1.toInt.toNat) (by omega)
        refine g_aldR C h20847.1 h20847.2.1 (by decide) (ix_in h20847.2.2 (by omega)) e20849 dX11_enough_34 ?_
        refine g_iload_n C dX11_enough_35 rfl 2 rfl ?_
        refine g_iload_n C dX11_enough_36 rfl 3 rfl ?_
        refine g_iconst (v := 0) C dX11_enough_37 (by decide) ?_
        refine g_callVV (rest := []) C mv_X11_292 [.ref b20848, .int a2, .int a3, .int 0] (s_X8_tally I h20844.at h20850 (by omega) (by decide)) (h20844.at).1 (h20844.at).2 rfl rfl (by decide) (Nat.le_of_ble_eq_true rfl) (by decide) dX11_enough_38 (fun Y20852 h20853 => ?_)
        obtain ⟨Iy20854, Xy20855⟩ := h20853
        have Xz20856 : EK [0, 1, 5, 8, 13] P Y20852 := Xy20855.mono (by decide)
        have h20857 := Xy20855.at ha0
        refine g_iconst (v := 0) C dX11_enough_41 (by decide) ?_
        refine g_istore (lv' := [(5, .int 0), (0, .ref a0), (1, .int a1), (2, .int a2), (3, .int a3), (4, .int a4)]) C dX11_enough_42 (by decide) rfl ?_
        refine g_lv (lv' := [(0, .ref a0), (2, .int a2), (4, .int a4), (5, .int 0)]) [1, 3, 5, 0] rfl ?_
        exact J44 _ Y20852 0 (Nat.lt_succ_self _) Iy20854 Xz20856 (by omega) (by decide)
      · have h20841 : r20838.toInt = 0 := congrArg Int32.toInt h20841
        refine g_lv (lv' := []) [] rfl ?_
        exact J23 
theorem dX11_falls_0 : decode cX11_falls 0 = .ok (.iload_n 2, 1) := by decide +kernel
theorem dX11_falls_1 : decode cX11_falls 1 = .ok (.bipush 37, 2) := by decide +kernel
theorem dX11_falls_3 : decode cX11_falls 3 = .ok (.imul, 1) := by decide +kernel
theorem dX11_falls_4 : decode cX11_falls 4 = .ok (.bipush 11, 2) := by decide +kernel
theorem dX11_falls_6 : decode cX11_falls 6 = .ok (.aload_n 1, 1) := by decide +kernel
theorem dX11_falls_7 : decode cX11_falls 7 = .ok (.getfield 394, 3) := by decide +kernel
theorem dX11_falls_10 : decode cX11_falls 10 = .ok (.imul, 1) := by decide +kernel
theorem dX11_falls_11 : decode cX11_falls 11 = .ok (.iadd, 1) := by decide +kernel
theorem dX11_falls_12 : decode cX11_falls 12 = .ok (.bipush 101, 2) := by decide +kernel
theorem dX11_falls_14 : decode cX11_falls 14 = .ok (.iload_n 3, 1) := by decide +kernel
theorem dX11_falls_15 : decode cX11_falls 15 = .ok (.imul, 1) := by decide +kernel
theorem dX11_falls_16 : decode cX11_falls 16 = .ok (.iadd, 1) := by decide +kernel
theorem dX11_falls_17 : decode cX11_falls 17 = .ok (.bipush 13, 2) := by decide +kernel
theorem dX11_falls_19 : decode cX11_falls 19 = .ok (.iadd, 1) := by decide +kernel
theorem dX11_falls_20 : decode cX11_falls 20 = .ok (.bipush 7, 2) := by decide +kernel
theorem dX11_falls_22 : decode cX11_falls 22 = .ok (.imul, 1) := by decide +kernel
theorem dX11_falls_23 : decode cX11_falls 23 = .ok (.bipush 100, 2) := by decide +kernel
theorem dX11_falls_25 : decode cX11_falls 25 = .ok (.irem, 1) := by decide +kernel
theorem dX11_falls_26 : decode cX11_falls 26 = .ok (.aload_n 0, 1) := by decide +kernel
theorem dX11_falls_27 : decode cX11_falls 27 = .ok (.getfield 28, 3) := by decide +kernel
theorem dX11_falls_30 : decode cX11_falls 30 = .ok (.iload_n 3, 1) := by decide +kernel
theorem dX11_falls_31 : decode cX11_falls 31 = .ok (.iaload, 1) := by decide +kernel
theorem dX11_falls_32 : decode cX11_falls 32 = .ok (.if_icmp .lt 7, 3) := by decide +kernel
theorem dX11_falls_35 : decode cX11_falls 35 = .ok (.iconst 1, 1) := by decide +kernel
theorem dX11_falls_36 : decode cX11_falls 36 = .ok (.goto 4, 3) := by decide +kernel
theorem dX11_falls_39 : decode cX11_falls 39 = .ok (.iconst 0, 1) := by decide +kernel
theorem dX11_falls_40 : decode cX11_falls 40 = .ok (.ireturn, 1) := by decide +kernel
set_option maxHeartbeats 4000000 in
set_option maxRecDepth 100000 in
theorem s_X11_falls {P : PP} {a0 : Nat} {a1 : Nat} {a2 : Int32} {a3 : Int32} (I : IV P) (ha0 : At P a0 11) (ha1 : At P a1 1) (ha3 : 0 ≤ a3.toInt ∧ a3.toInt ≤ 3) : CtrI yX11_falls cX11_falls 4 (some Jvm.ClassFile.FieldType.boolean) ({ frames := 1, cells := 0, slots := 0, locals := 64 } : Room) 0 0 P [.ref a0, .ref a1, .int a2, .int a3] (fun r P2 => P = P2 ∧ (0 ≤ r.toInt ∧ r.toInt ≤ 1)) := by
  refine enI (lv := [(0, .ref a0), (1, .ref a1), (2, .int a2), (3, .int a3)]) (by decide) (Nat.le_of_ble_eq_true rfl) rfl (fun E D cy C Ci0 ret => ?_)
  refine g_iload_n C dX11_falls_0 rfl 2 rfl ?_
  refine g_bipush (v := 37) C dX11_falls_1 (by decide) ?_
  refine a_imul C dX11_falls_3 (fun z20882 => ?_)
  refine g_bipush (v := 11) C dX11_falls_4 (by decide) ?_
  refine g_aload_n C dX11_falls_6 rfl 1 rfl ?_
  refine g_getI C fi_X11_394 (by decide) (ha1).1 (ha1).2 dX11_falls_7 ?_
  have h20884 := I.rg (ha1) 0 rfl
  refine s_imul C dX11_falls_10 (by show -2147483648 ≤ 11 * (pI P a1 0).toInt ∧ 11 * (pI P a1 0).toInt ≤ 2147483647; omega) (fun z20885 h20886 => ?_)
  have h20886 : z20885.toInt = 11 * (pI P a1 0).toInt := h20886
  refine a_iadd C dX11_falls_11 (fun z20887 => ?_)
  refine g_bipush (v := 101) C dX11_falls_12 (by decide) ?_
  refine g_iload_n C dX11_falls_14 rfl 3 rfl ?_
  refine s_imul C dX11_falls_15 (by show -2147483648 ≤ 101 * a3.toInt ∧ 101 * a3.toInt ≤ 2147483647; omega) (fun z20889 h20890 => ?_)
  have h20890 : z20889.toInt = 101 * a3.toInt := h20890
  refine a_iadd C dX11_falls_16 (fun z20891 => ?_)
  refine g_bipush (v := 13) C dX11_falls_17 (by decide) ?_
  refine a_iadd C dX11_falls_19 (fun z20893 => ?_)
  refine g_bipush (v := 7) C dX11_falls_20 (by decide) ?_
  refine a_imul C dX11_falls_22 (fun z20895 => ?_)
  refine g_bipush (v := 100) C dX11_falls_23 (by decide) ?_
  refine a_irem C dX11_falls_25 (by show 100 ≠ 0; omega) (fun z20897 => ?_)
  refine g_aload_n C dX11_falls_26 rfl 0 rfl ?_
  obtain ⟨b20899, e20900, h20901⟩ := I.fld (ha0) 4 13 4 rfl
  refine g_getR C fi_X11_28 rfl e20900 (ha0).1 (ha0).2 dX11_falls_27 ?_
  refine g_iload_n C dX11_falls_30 rfl 3 rfl ?_
  refine g_iald (j := (a3.toInt.toNat)) C h20901.1 h20901.2.1 (ix_in h20901.2.2 (by omega)) dX11_falls_31 ?_
  refine g_topi (fun z20902 _ => ?_)
  have u20904 := ti_rng z20897
  have u20905 := ti_rng z20902
  refine b_icmp_lt C 39 dX11_falls_32 (by decide) (fun h20903 => ?_) (fun h20903 => ?_)
  · have h20903 : z20897.toInt < z20902.toInt := h20903
    refine g_iconst (v := 0) C dX11_falls_39 (by decide) ?_
    exact ret _ _ _ _ _ _ dX11_falls_40 rfl (by decide) (by decide) ⟨rfl, (by decide)⟩
  · have h20903 : z20902.toInt ≤ z20897.toInt := h20903
    refine g_iconst (v := 1) C dX11_falls_35 (by decide) ?_
    refine g_goto C 40 dX11_falls_36 (by decide) ?_
    exact ret _ _ _ _ _ _ dX11_falls_40 rfl (by decide) (by decide) ⟨rfl, (by decide)⟩
theorem dX11_feed_0 : decode cX11_feed 0 = .ok (.aload_n 0, 1) := by decide +kernel
theorem dX11_feed_1 : decode cX11_feed 1 = .ok (.getfield 41, 3) := by decide +kernel
theorem dX11_feed_4 : decode cX11_feed 4 = .ok (.getfield 111, 3) := by decide +kernel
theorem dX11_feed_7 : decode cX11_feed 7 = .ok (.astore 7, 2) := by decide +kernel
theorem dX11_feed_9 : decode cX11_feed 9 = .ok (.aload 7, 2) := by decide +kernel
theorem dX11_feed_11 : decode cX11_feed 11 = .ok (.lload_n 1, 1) := by decide +kernel
theorem dX11_feed_12 : decode cX11_feed 12 = .ok (.invokevirtual 115, 3) := by decide +kernel
theorem dX9_takeEight_0 : decode cX9_takeEight 0 = .ok (.bipush 56, 2) := by decide +kernel
theorem dX9_takeEight_2 : decode cX9_takeEight 2 = .ok (.istore_n 3, 1) := by decide +kernel
theorem dX9_takeEight_3 : decode cX9_takeEight 3 = .ok (.iload_n 3, 1) := by decide +kernel
theorem dX9_takeEight_4 : decode cX9_takeEight 4 = .ok (.ifCond .lt 71, 3) := by decide +kernel
theorem dX9_takeEight_7 : decode cX9_takeEight 7 = .ok (.lload_n 1, 1) := by decide +kernel
theorem dX9_takeEight_8 : decode cX9_takeEight 8 = .ok (.iload_n 3, 1) := by decide +kernel
theorem dX9_takeEight_9 : decode cX9_takeEight 9 = .ok (.lushr, 1) := by decide +kernel
theorem dX9_takeEight_10 : decode cX9_takeEight 10 = .ok (.l2i, 1) := by decide +kernel
theorem dX9_takeEight_11 : decode cX9_takeEight 11 = .ok (.sipush 255, 3) := by decide +kernel
theorem dX9_takeEight_14 : decode cX9_takeEight 14 = .ok (.iand, 1) := by decide +kernel
theorem dX9_takeEight_15 : decode cX9_takeEight 15 = .ok (.istore 4, 2) := by decide +kernel
theorem dX9_takeEight_17 : decode cX9_takeEight 17 = .ok (.iload 4, 2) := by decide +kernel
theorem dX9_takeEight_19 : decode cX9_takeEight 19 = .ok (.bipush 10, 2) := by decide +kernel
theorem dX9_takeEight_21 : decode cX9_takeEight 21 = .ok (.if_icmp .eq 17, 3) := by decide +kernel
theorem dX9_takeEight_24 : decode cX9_takeEight 24 = .ok (.iload 4, 2) := by decide +kernel
theorem dX9_takeEight_26 : decode cX9_takeEight 26 = .ok (.bipush 32, 2) := by decide +kernel
theorem dX9_takeEight_28 : decode cX9_takeEight 28 = .ok (.if_icmp .lt 41, 3) := by decide +kernel
theorem dX9_takeEight_31 : decode cX9_takeEight 31 = .ok (.iload 4, 2) := by decide +kernel
theorem dX9_takeEight_33 : decode cX9_takeEight 33 = .ok (.bipush 126, 2) := by decide +kernel
theorem dX9_takeEight_35 : decode cX9_takeEight 35 = .ok (.if_icmp .gt 34, 3) := by decide +kernel
theorem dX9_takeEight_38 : decode cX9_takeEight 38 = .ok (.aload_n 0, 1) := by decide +kernel
theorem dX9_takeEight_39 : decode cX9_takeEight 39 = .ok (.getfield 15, 3) := by decide +kernel
theorem dX9_takeEight_42 : decode cX9_takeEight 42 = .ok (.sipush 1000, 3) := by decide +kernel
theorem dX9_takeEight_45 : decode cX9_takeEight 45 = .ok (.if_icmp .ge 24, 3) := by decide +kernel
theorem dX9_takeEight_48 : decode cX9_takeEight 48 = .ok (.aload_n 0, 1) := by decide +kernel
theorem dX9_takeEight_49 : decode cX9_takeEight 49 = .ok (.getfield 9, 3) := by decide +kernel
theorem dX9_takeEight_52 : decode cX9_takeEight 52 = .ok (.aload_n 0, 1) := by decide +kernel
theorem dX9_takeEight_53 : decode cX9_takeEight 53 = .ok (.getfield 15, 3) := by decide +kernel
theorem dX9_takeEight_56 : decode cX9_takeEight 56 = .ok (.iload 4, 2) := by decide +kernel
theorem dX9_takeEight_58 : decode cX9_takeEight 58 = .ok (.iastore, 1) := by decide +kernel
theorem dX9_takeEight_59 : decode cX9_takeEight 59 = .ok (.aload_n 0, 1) := by decide +kernel
theorem dX9_takeEight_60 : decode cX9_takeEight 60 = .ok (.dup, 1) := by decide +kernel
theorem dX9_takeEight_61 : decode cX9_takeEight 61 = .ok (.getfield 15, 3) := by decide +kernel
theorem dX9_takeEight_64 : decode cX9_takeEight 64 = .ok (.iconst 1, 1) := by decide +kernel
theorem dX9_takeEight_65 : decode cX9_takeEight 65 = .ok (.iadd, 1) := by decide +kernel
theorem dX9_takeEight_66 : decode cX9_takeEight 66 = .ok (.putfield 15, 3) := by decide +kernel
theorem dX9_takeEight_69 : decode cX9_takeEight 69 = .ok (.iinc 3 (-8), 3) := by decide +kernel
theorem dX9_takeEight_72 : decode cX9_takeEight 72 = .ok (.goto (-69), 3) := by decide +kernel
theorem dX9_takeEight_75 : decode cX9_takeEight 75 = .ok (.return_, 1) := by decide +kernel
set_option maxHeartbeats 4000000 in
set_option maxRecDepth 100000 in
theorem s_X9_takeEight {P : PP} {a0 : Nat} {a1 : Int64} (I : IV P) (ha0 : At P a0 9) : CtrV yX9_takeEight cX9_takeEight 5 none ({ frames := 1, cells := 0, slots := 0, locals := 64 } : Room) 0 0 P [.ref a0, .long a1] (fun P2 => IV P2 ∧ EK [9, 13] P P2) := by
  refine enV (lv := [(0, .ref a0), (1, .long a1)]) (by decide) (Nat.le_of_ble_eq_true rfl) rfl (fun E D cy C Ci0 ret => ?_)
  have J3 : ∀ (n3 : Nat) (P3 : PP) (v3_3 : Int32), (v3_3.toInt - (-8)).toNat < n3 → (IV P3) → (EK [9, 13] P P3) → (-8 ≤ v3_3.toInt ∧ v3_3.toInt ≤ 56) → G E ({ frames := 1, cells := 0, slots := 0, locals := 64 } : Room) D cy 5 P3 0 0 3 [(0, .ref a0), (1, .long a1), (3, .int v3_3)] [] := by
    intro n3
    induction n3 with
    | zero => intro P3 v3_3 hm3 I3 X3 hv3_3; omega
    | succ n3 ih3 =>
      intro P3 v3_3 hm3 I3 X3 hv3_3
      have h21141 := X3.at ha0
      have J69 : ∀ (P69 : PP), (IV P69) → (EK [9, 13] P P69) → (0 ≤ v3_3.toInt ∧ v3_3.toInt ≤ 56) → G E ({ frames := 1, cells := 0, slots := 0, locals := 64 } : Room) D cy 5 P69 0 0 69 [(0, .ref a0), (1, .long a1), (3, .int v3_3)] [] := by
        intro P69 I69 X69 hv69_3
        have h21142 := X69.at ha0
        refine s_iinc (lv0 := [(0, .ref a0), (1, .long a1)]) (m := -8) C dX9_takeEight_69 2 rfl (by decide) rfl (by decide) (by omega) (fun z21143 h21144 => ?_)
        have h21144 : z21143.toInt = v3_3.toInt + (-8) := h21144
        refine g_goto C 3 dX9_takeEight_72 (by decide) ?_
        refine g_lv (lv' := [(0, .ref a0), (1, .long a1), (3, .int z21143)]) [1, 2, 0] rfl ?_
        exact ih3 P69 z21143 (by omega) I69 X69 (by omega)
      have J38 : ∀ (v38_4 : Int32), (0 ≤ v3_3.toInt ∧ v3_3.toInt ≤ 56) → (10 ≤ v38_4.toInt ∧ v38_4.toInt ≤ 126) → G E ({ frames := 1, cells := 0, slots := 0, locals := 64 } : Room) D cy 5 P3 0 0 38 [(0, .ref a0), (1, .long a1), (3, .int v3_3), (4, .int v38_4)] [] := by
        intro v38_4 hv38_3 hv38_4
        have h21145 := X3.at ha0
        refine g_aload_n C dX9_takeEight_38 rfl 0 rfl ?_
        refine g_getI C fi_X9_15 (by decide) (h21145).1 (h21145).2 dX9_takeEight_39 ?_
        have h21146 := I3.rg (h21145) 1 rfl
        refine g_sipush (v := 1000) C dX9_takeEight_42 (by decide) ?_
        refine b_icmp_ge C 69 dX9_takeEight_45 (by decide) (fun h21147 => ?_) (fun h21147 => ?_)
        · have h21147 : 1000 ≤ (pI P3 a0 1).toInt := h21147
          refine g_lv (lv' := [(0, .ref a0), (1, .long a1), (3, .int v3_3)]) [0, 1, 2] rfl ?_
          exact J69 P3 I3 X3 (by omega)
        · have h21147 : (pI P3 a0 1).toInt < 1000 := h21147
          refine g_aload_n C dX9_takeEight_48 rfl 0 rfl ?_
          obtain ⟨b21148, e21149, h21150⟩ := I3.fld (h21145) 0 13 1000 rfl
          refine g_getR C fi_X9_9 rfl e21149 (h21145).1 (h21145).2 dX9_takeEight_49 ?_
          refine g_aload_n C dX9_takeEight_52 rfl 0 rfl ?_
          refine g_getI C fi_X9_15 (by decide) (h21145).1 (h21145).2 dX9_takeEight_53 ?_
          refine g_iload C dX9_takeEight_56 3 rfl ?_
          refine g_iast (j := ((pI P3 a0 1).toInt.toNat)) C h21150.1 h21150.2.1 (ix_in h21150.2.2 (by omega)) dX9_takeEight_58 ?_
          refine gp (ks := [13]) (I3.setA h21150 (by decide)) (EK.setI h21150.2.1 (by decide)) (fun Y21151 Iy21152 Xy21153 => ?_)
          have q21154 := Xy21153.keep h21145 (by decide) 1
          have Xz21155 : EK [9, 13] P Y21151 := X3.tr (Xy21153.mono (by decide))
          have h21156 := Xy21153.at h21145
          refine g_aload_n C dX9_takeEight_59 rfl 0 rfl ?_
          refine g_dup C dX9_takeEight_60 rfl ?_
          refine g_getI C fi_X9_15 (by decide) (h21156).1 (h21156).2 dX9_takeEight_61 ?_
          refine g_iconst (v := 1) C dX9_takeEight_64 (by decide) ?_
          refine s_iadd C dX9_takeEight_65 (by show -2147483648 ≤ (pI Y21151 a0 1).toInt + 1 ∧ (pI Y21151 a0 1).toInt + 1 ≤ 2147483647; omega) (fun z21157 h21158 => ?_)
          have h21158 : z21157.toInt = (pI Y21151 a0 1).toInt + 1 := h21158
          refine g_putI C fi_X9_15 rfl (h21156).1 (h21156).2 dX9_takeEight_66 ?_
          refine gpW (ks := [9]) (Iy21152.setI (h21156) (rgOk.of rfl (by omega))) (EK.setI (h21156).2 (by decide)) (fun Y21159 Iy21160 Xy21161 w21162 w21163 => ?_)
          have Xz21164 : EK [9, 13] P Y21159 := Xz21155.tr (Xy21161.mono (by decide))
          have h21165 := Xy21161.at h21156
          refine g_lv (lv' := [(0, .ref a0), (1, .long a1), (3, .int v3_3)]) [0, 1, 2] rfl ?_
          exact J69 Y21159 Iy21160 Xz21164 (by omega)
      refine g_iload_n C dX9_takeEight_3 rfl 2 rfl ?_
      refine b_if_lt C 75 dX9_takeEight_4 (by decide) (fun h21166 => ?_) (fun h21166 => ?_)
      · have h21166 : v3_3.toInt < 0 := h21166
        exact ret _ _ _ _ _ dX9_takeEight_75 (by decide) (by decide) ⟨I3, X3⟩
      · have h21166 : 0 ≤ v3_3.toInt := h21166
        refine g_lload_n C dX9_takeEight_7 rfl 1 rfl ?_
        refine g_iload_n C dX9_takeEight_8 rfl 2 rfl ?_
        refine a_lushr C dX9_takeEight_9 (fun l21167 => ?_)
        refine a_l2i C dX9_takeEight_10 (fun z21168 => ?_)
        refine g_sipush (v := 255) C dX9_takeEight_11 (by decide) ?_
        refine s_iand C dX9_takeEight_14 (by show 0 ≤ 255; omega) (fun z21169 h21170 => ?_)
        have h21170 : 0 ≤ z21169.toInt ∧ z21169.toInt ≤ 255 := h21170
        refine g_istore (lv' := [(4, .int z21169), (0, .ref a0), (1, .long a1), (3, .int v3_3)]) C dX9_takeEight_15 (by decide) rfl ?_
        refine g_iload C dX9_takeEight_17 0 rfl ?_
        refine g_bipush (v := 10) C dX9_takeEight_19 (by decide) ?_
        refine b_icmp_eq C 38 dX9_takeEight_21 (by decide) (fun h21171 => ?_) (fun h21171 => ?_)
        · have h21171 : z21169.toInt = 10 := congrArg Int32.toInt h21171
          refine g_lv (lv' := [(0, .ref a0), (1, .long a1), (3, .int v3_3), (4, .int z21169)]) [1, 2, 3, 0] rfl ?_
          exact J38 z21169 (by omega) (by omega)
        · have h21171 : z21169.toInt ≠ 10 := ti_ne h21171
          refine g_iload C dX9_takeEight_24 0 rfl ?_
          refine g_bipush (v := 32) C dX9_takeEight_26 (by decide) ?_
          refine b_icmp_lt C 69 dX9_takeEight_28 (by decide) (fun h21172 => ?_) (fun h21172 => ?_)
          · have h21172 : z21169.toInt < 32 := h21172
            refine g_lv (lv' := [(0, .ref a0), (1, .long a1), (3, .int v3_3)]) [1, 2, 3] rfl ?_
            exact J69 P3 I3 X3 (by omega)
          · have h21172 : 32 ≤ z21169.toInt := h21172
            refine g_iload C dX9_takeEight_31 0 rfl ?_
            refine g_bipush (v := 126) C dX9_takeEight_33 (by decide) ?_
            refine b_icmp_gt C 69 dX9_takeEight_35 (by decide) (fun h21173 => ?_) (fun h21173 => ?_)
            · have h21173 : 126 < z21169.toInt := h21173
              refine g_lv (lv' := [(0, .ref a0), (1, .long a1), (3, .int v3_3)]) [1, 2, 3] rfl ?_
              exact J69 P3 I3 X3 (by omega)
            · have h21173 : z21169.toInt ≤ 126 := h21173
              refine g_lv (lv' := [(0, .ref a0), (1, .long a1), (3, .int v3_3), (4, .int z21169)]) [1, 2, 3, 0] rfl ?_
              exact J38 z21169 (by omega) (by omega)
  refine g_bipush (v := 56) C dX9_takeEight_0 (by decide) ?_
  refine g_istore_n (lv' := [(3, .int 56), (0, .ref a0), (1, .long a1)]) C dX9_takeEight_2 rfl (by decide) rfl ?_
  refine g_lv (lv' := [(0, .ref a0), (1, .long a1), (3, .int 56)]) [1, 2, 0] rfl ?_
  exact J3 _ P 56 (Nat.lt_succ_self _) I EK.rf (by decide)
theorem dX11_feed_15 : decode cX11_feed 15 = .ok (.aload 7, 2) := by decide +kernel
theorem dX11_feed_17 : decode cX11_feed 17 = .ok (.lload_n 3, 1) := by decide +kernel
theorem dX11_feed_18 : decode cX11_feed 18 = .ok (.invokevirtual 115, 3) := by decide +kernel
theorem dX11_feed_21 : decode cX11_feed 21 = .ok (.aload 7, 2) := by decide +kernel
theorem dX11_feed_23 : decode cX11_feed 23 = .ok (.lload 5, 2) := by decide +kernel
theorem dX11_feed_25 : decode cX11_feed 25 = .ok (.invokevirtual 115, 3) := by decide +kernel
theorem dX11_feed_28 : decode cX11_feed 28 = .ok (.aload 7, 2) := by decide +kernel
theorem dX11_feed_30 : decode cX11_feed 30 = .ok (.getfield 121, 3) := by decide +kernel
theorem dX11_feed_33 : decode cX11_feed 33 = .ok (.ireturn, 1) := by decide +kernel
set_option maxHeartbeats 4000000 in
set_option maxRecDepth 100000 in
theorem s_X11_feed {P : PP} {a0 : Nat} {a1 : Int64} {a2 : Int64} {a3 : Int64} (I : IV P) (ha0 : At P a0 11) : CtrI yX11_feed cX11_feed 8 (some Jvm.ClassFile.FieldType.int) ({ frames := 2, cells := 0, slots := 0, locals := 128 } : Room) 0 0 P [.ref a0, .long a1, .long a2, .long a3] (fun r P2 => IV P2 ∧ EK [9, 13] P P2 ∧ (0 ≤ r.toInt ∧ r.toInt ≤ 1000)) := by
  refine enI (lv := [(0, .ref a0), (1, .long a1), (3, .long a2), (5, .long a3)]) (by decide) (Nat.le_of_ble_eq_true rfl) rfl (fun E D cy C Ci0 ret => ?_)
  refine g_aload_n C dX11_feed_0 rfl 0 rfl ?_
  obtain ⟨b21205, e21206, h21207⟩ := I.fld (ha0) 7 4 0 rfl
  refine g_getR C fi_X11_41 rfl e21206 (ha0).1 (ha0).2 dX11_feed_1 ?_
  obtain ⟨b21208, e21209, h21210⟩ := I.fld (h21207.at) 0 9 0 rfl
  refine g_getR C fi_X11_111 rfl e21209 (h21207.at).1 (h21207.at).2 dX11_feed_4 ?_
  refine g_astore (lv' := [(7, .ref b21208), (0, .ref a0), (1, .long a1), (3, .long a2), (5, .long a3)]) C dX11_feed_7 (by decide) rfl ?_
  refine g_aload C dX11_feed_9 0 rfl ?_
  refine g_lload_n C dX11_feed_11 rfl 2 rfl ?_
  refine g_callVV (rest := []) C mv_X11_115 [.long a1] (s_X9_takeEight I h21210.at) (h21210.at).1 (h21210.at).2 rfl rfl (by decide) (Nat.le_of_ble_eq_true rfl) (by decide) dX11_feed_12 (fun Y21212 h21213 => ?_)
  obtain ⟨Iy21214, Xy21215⟩ := h21213
  have Xz21216 : EK [9, 13] P Y21212 := Xy21215.mono (by decide)
  have h21217 := Xy21215.at ha0
  have h21218 := Xy21215.ar h21210
  refine g_aload C dX11_feed_15 0 rfl ?_
  refine g_lload_n C dX11_feed_17 rfl 3 rfl ?_
  refine g_callVV (rest := []) C mv_X11_115 [.long a2] (s_X9_takeEight Iy21214 h21218.at) (h21218.at).1 (h21218.at).2 rfl rfl (by decide) (Nat.le_of_ble_eq_true rfl) (by decide) dX11_feed_18 (fun Y21220 h21221 => ?_)
  obtain ⟨Iy21222, Xy21223⟩ := h21221
  have Xz21224 : EK [9, 13] P Y21220 := Xz21216.tr (Xy21223.mono (by decide))
  have h21225 := Xy21223.at h21217
  have h21226 := Xy21223.ar h21218
  refine g_aload C dX11_feed_21 0 rfl ?_
  refine g_lload C dX11_feed_23 4 rfl ?_
  refine g_callVV (rest := []) C mv_X11_115 [.long a3] (s_X9_takeEight Iy21222 h21226.at) (h21226.at).1 (h21226.at).2 rfl rfl (by decide) (Nat.le_of_ble_eq_true rfl) (by decide) dX11_feed_25 (fun Y21228 h21229 => ?_)
  obtain ⟨Iy21230, Xy21231⟩ := h21229
  have Xz21232 : EK [9, 13] P Y21228 := Xz21224.tr (Xy21231.mono (by decide))
  have h21233 := Xy21231.at h21225
  have h21234 := Xy21231.ar h21226
  refine g_aload C dX11_feed_28 0 rfl ?_
  refine g_getI C fi_X11_121 (by decide) (h21234.at).1 (h21234.at).2 dX11_feed_30 ?_
  have h21235 := Iy21230.rg (h21234.at) 1 rfl
  exact ret _ _ _ _ _ _ dX11_feed_33 rfl (by decide) (by decide) ⟨Iy21230, Xz21232, (by omega)⟩
theorem dX11_forged_0 : decode cX11_forged 0 = .ok (.iload_n 1, 1) := by decide +kernel
theorem dX11_forged_1 : decode cX11_forged 1 = .ok (.invokestatic 158, 3) := by decide +kernel
theorem dX11_forged_4 : decode cX11_forged 4 = .ok (.ifCond .eq 12, 3) := by decide +kernel
theorem dX11_forged_7 : decode cX11_forged 7 = .ok (.aload_n 0, 1) := by decide +kernel
theorem dX11_forged_8 : decode cX11_forged 8 = .ok (.iload_n 2, 1) := by decide +kernel
theorem dX11_forged_9 : decode cX11_forged 9 = .ok (.iload_n 3, 1) := by decide +kernel
theorem dX11_forged_10 : decode cX11_forged 10 = .ok (.invokevirtual 136, 3) := by decide +kernel
theorem dX11_forged_13 : decode cX11_forged 13 = .ok (.ifCond .ne 5, 3) := by decide +kernel
theorem dX11_forged_18 : decode cX11_forged 18 = .ok (.iload 4, 2) := by decide +kernel
theorem dX11_forged_20 : decode cX11_forged 20 = .ok (.ifCond .lt 23, 3) := by decide +kernel
theorem dX11_forged_23 : decode cX11_forged 23 = .ok (.iload 4, 2) := by decide +kernel
theorem dX11_forged_25 : decode cX11_forged 25 = .ok (.ldc 104, 2) := by decide +kernel
theorem dX11_forged_27 : decode cX11_forged 27 = .ok (.if_icmp .gt 16, 3) := by decide +kernel
theorem dX11_forged_30 : decode cX11_forged 30 = .ok (.iload 5, 2) := by decide +kernel
theorem dX11_forged_32 : decode cX11_forged 32 = .ok (.ifCond .lt 11, 3) := by decide +kernel
theorem dX11_forged_35 : decode cX11_forged 35 = .ok (.iload 5, 2) := by decide +kernel
theorem dX11_forged_37 : decode cX11_forged 37 = .ok (.sipush 997, 3) := by decide +kernel
theorem dX11_forged_40 : decode cX11_forged 40 = .ok (.if_icmp .lt 5, 3) := by decide +kernel
theorem dX11_forged_45 : decode cX11_forged 45 = .ok (.aload_n 0, 1) := by decide +kernel
theorem dX11_forged_46 : decode cX11_forged 46 = .ok (.iload_n 1, 1) := by decide +kernel
theorem dX11_forged_47 : decode cX11_forged 47 = .ok (.aload_n 0, 1) := by decide +kernel
theorem dX11_forged_48 : decode cX11_forged 48 = .ok (.getfield 11, 3) := by decide +kernel
theorem dX11_forged_51 : decode cX11_forged 51 = .ok (.iload_n 2, 1) := by decide +kernel
theorem dX11_forged_52 : decode cX11_forged 52 = .ok (.aaload, 1) := by decide +kernel
theorem dX11_forged_53 : decode cX11_forged 53 = .ok (.iload_n 3, 1) := by decide +kernel
theorem dX11_forged_54 : decode cX11_forged 54 = .ok (.iload 4, 2) := by decide +kernel
theorem dX11_forged_56 : decode cX11_forged 56 = .ok (.iload 5, 2) := by decide +kernel
theorem dX11_forged_58 : decode cX11_forged 58 = .ok (.invokevirtual 169, 3) := by decide +kernel
theorem dX11_send_0 : decode cX11_send 0 = .ok (.aload_n 2, 1) := by decide +kernel
theorem dX11_send_1 : decode cX11_send 1 = .ok (.getfield 354, 3) := by decide +kernel
theorem dX11_send_4 : decode cX11_send 4 = .ok (.getfield 357, 3) := by decide +kernel
theorem dX11_send_7 : decode cX11_send 7 = .ok (.ifCond .eq 27, 3) := by decide +kernel
theorem dX11_send_10 : decode cX11_send 10 = .ok (.iload 5, 2) := by decide +kernel
theorem dX11_send_12 : decode cX11_send 12 = .ok (.aload_n 2, 1) := by decide +kernel
theorem dX11_send_13 : decode cX11_send 13 = .ok (.iload_n 3, 1) := by decide +kernel
theorem dX11_send_14 : decode cX11_send 14 = .ok (.iload 4, 2) := by decide +kernel
theorem dX11_send_16 : decode cX11_send 16 = .ok (.invokevirtual 146, 3) := by decide +kernel
theorem dX11_send_19 : decode cX11_send 19 = .ok (.if_icmp .eq 15, 3) := by decide +kernel
theorem dX11_send_22 : decode cX11_send 22 = .ok (.aload_n 0, 1) := by decide +kernel
theorem dX11_send_23 : decode cX11_send 23 = .ok (.dup, 1) := by decide +kernel
theorem dX11_send_24 : decode cX11_send 24 = .ok (.getfield 348, 3) := by decide +kernel
theorem dX11_send_27 : decode cX11_send 27 = .ok (.iconst 1, 1) := by decide +kernel
theorem dX11_send_28 : decode cX11_send 28 = .ok (.iadd, 1) := by decide +kernel
theorem dX11_send_29 : decode cX11_send 29 = .ok (.putfield 348, 3) := by decide +kernel
theorem dX11_send_32 : decode cX11_send 32 = .ok (.iconst (-1), 1) := by decide +kernel
theorem dX11_send_33 : decode cX11_send 33 = .ok (.ireturn, 1) := by decide +kernel
theorem dX11_send_34 : decode cX11_send 34 = .ok (.aload_n 0, 1) := by decide +kernel
theorem dX11_send_35 : decode cX11_send 35 = .ok (.getfield 17, 3) := by decide +kernel
theorem dX11_send_38 : decode cX11_send 38 = .ok (.iload_n 1, 1) := by decide +kernel
theorem dX11_send_39 : decode cX11_send 39 = .ok (.aaload, 1) := by decide +kernel
theorem dX11_send_40 : decode cX11_send 40 = .ok (.aload_n 2, 1) := by decide +kernel
theorem dX11_send_41 : decode cX11_send 41 = .ok (.iload_n 3, 1) := by decide +kernel
theorem dX11_send_42 : decode cX11_send 42 = .ok (.aload_n 2, 1) := by decide +kernel
theorem dX11_send_43 : decode cX11_send 43 = .ok (.iload_n 3, 1) := by decide +kernel
theorem dX11_send_44 : decode cX11_send 44 = .ok (.invokevirtual 140, 3) := by decide +kernel
theorem dX11_send_47 : decode cX11_send 47 = .ok (.iload 4, 2) := by decide +kernel
theorem dX11_send_49 : decode cX11_send 49 = .ok (.iconst 3, 1) := by decide +kernel
theorem dX11_send_50 : decode cX11_send 50 = .ok (.iload 5, 2) := by decide +kernel
theorem dX11_send_52 : decode cX11_send 52 = .ok (.invokevirtual 360, 3) := by decide +kernel
theorem dX11_send_55 : decode cX11_send 55 = .ok (.invokevirtual 165, 3) := by decide +kernel
theorem dX11_send_58 : decode cX11_send 58 = .ok (.ireturn, 1) := by decide +kernel
set_option maxHeartbeats 4000000 in
set_option maxRecDepth 100000 in
theorem s_X11_send {P : PP} {a0 : Nat} {a1 : Int32} {a2 : Nat} {a3 : Int32} {a4 : Int32} {a5 : Int32} (I : IV P) (ha0 : At P a0 11) (ha1 : 0 ≤ a1.toInt ∧ a1.toInt ≤ 3) (ha2 : At P a2 1) : CtrI yX11_send cX11_send 6 (some Jvm.ClassFile.FieldType.int) ({ frames := 5, cells := 1, slots := 7, locals := 320 } : Room) 1 7 P [.ref a0, .int a1, .ref a2, .int a3, .int a4, .int a5] (fun r P2 => IV P2 ∧ EK [1, 6, 7, 11, 13] P P2 ∧ (-1 ≤ r.toInt ∧ r.toInt ≤ 39)) := by
  refine enI (lv := [(0, .ref a0), (1, .int a1), (2, .ref a2), (3, .int a3), (4, .int a4), (5, .int a5)]) (by decide) (Nat.le_of_ble_eq_true rfl) rfl (fun E D cy C Ci0 ret => ?_)
  have J34 : G E ({ frames := 5, cells := 1, slots := 7, locals := 320 } : Room) D cy 6 P 0 0 34 [(0, .ref a0), (1, .int a1), (2, .ref a2), (3, .int a3), (4, .int a4), (5, .int a5)] [] := by
    refine g_aload_n C dX11_send_34 rfl 0 rfl ?_
    obtain ⟨b21315, e21316, h21317⟩ := I.fld (ha0) 1 19 4 rfl
    refine g_getR C fi_X11_17 rfl e21316 (ha0).1 (ha0).2 dX11_send_35 ?_
    refine g_iload_n C dX11_send_38 rfl 1 rfl ?_
    obtain ⟨b21318, e21319, h21320⟩ := I.elm h21317 (by decide) (a1.toInt.toNat) (by omega)
    refine g_aldR C h21317.1 h21317.2.1 (by decide) (ix_in h21317.2.2 (by omega)) e21319 dX11_send_39 ?_
    refine g_aload_n C dX11_send_40 rfl 2 rfl ?_
    refine g_iload_n C dX11_send_41 rfl 3 rfl ?_
    refine g_aload_n C dX11_send_42 rfl 2 rfl ?_
    refine g_iload_n C dX11_send_43 rfl 3 rfl ?_
    refine g_callVI (rest := [.int a3, .ref a2, .ref b21318]) C mv_X11_140 [.int a3] (s_X1_pagesOf I ha2) (ha2).1 (ha2).2 rfl rfl (by decide) (Nat.le_of_ble_eq_true rfl) (by decide) dX11_send_44 (fun r21321 Y21322 h21323 => ?_)
    obtain ⟨Iy21324, Xy21325, h21323⟩ := h21323
    have Xz21326 : EK [1, 6, 7, 11, 13] P Y21322 := Xy21325.mono (by decide)
    have h21327 := Xy21325.at ha0
    have h21328 := Xy21325.at ha2
    have h21329 := Xy21325.at h21320
    have h21323 : True := h21323
    refine g_iload C dX11_send_47 4 rfl ?_
    refine g_iconst (v := 3) C dX11_send_49 (by decide) ?_
    refine g_iload C dX11_send_50 5 rfl ?_
    refine g_callVQ (rest := [.ref b21318]) C mv_X11_360 [.int a3, .int r21321, .int a4, .int 3, .int a5] (s_X1_paperOf Iy21324 h21328) (h21328).1 (h21328).2 rfl rfl (by decide) (Nat.le_of_ble_eq_true rfl) (by decide) dX11_send_52 (fun r21330 Y21331 h21332 => ?_)
    obtain ⟨Iy21333, Xy21334, h21332⟩ := h21332
    have Xz21335 : EK [1, 6, 7, 11, 13] P Y21331 := Xz21326.tr (Xy21334.mono (by decide))
    have h21336 := Xy21334.at h21327
    have h21337 := Xy21334.at h21328
    have h21338 := Xy21334.at h21329
    obtain ⟨b21340, rfl, h21332⟩ := h21332
    show G _ _ _ _ _ _ _ _ _ _ (.ref b21340 :: _)
    refine g_callVI (rest := []) C mv_X11_165 [.ref b21340] (s_X6_put Iy21333 h21338 h21332) (h21338).1 (h21338).2 rfl rfl (by decide) (Nat.le_of_ble_eq_true rfl) (by decide) dX11_send_55 (fun r21341 Y21342 h21343 => ?_)
    obtain ⟨Iy21344, Xy21345, h21343⟩ := h21343
    have Xz21346 : EK [1, 6, 7, 11, 13] P Y21342 := Xz21335.tr (Xy21345.mono (by decide))
    have h21347 := Xy21345.at h21336
    have h21348 := Xy21345.at h21337
    have h21343 : -1 ≤ r21341.toInt ∧ r21341.toInt ≤ 39 := h21343
    exact ret _ _ _ _ _ _ dX11_send_58 rfl (by decide) (by decide) ⟨Iy21344, Xz21346, (by omega)⟩
  refine g_aload_n C dX11_send_0 rfl 2 rfl ?_
  obtain ⟨b21349, e21350, h21351⟩ := I.fld (ha2) 2 3 0 rfl
  refine g_getR C fi_X11_354 rfl e21350 (ha2).1 (ha2).2 dX11_send_1 ?_
  refine g_getI C fi_X11_357 (by decide) (h21351.at).1 (h21351.at).2 dX11_send_4 ?_
  have u21353 := ti_rng (pI P b21349 5)
  refine b_if_eq C 34 dX11_send_7 (by decide) (fun h21352 => ?_) (fun h21352 => ?_)
  · have h21352 : (pI P b21349 5).toInt = 0 := congrArg Int32.toInt h21352
    exact J34 
  · have h21352 : (pI P b21349 5).toInt ≠ 0 := ti_ne h21352
    refine g_iload C dX11_send_10 5 rfl ?_
    refine g_aload_n C dX11_send_12 rfl 2 rfl ?_
    refine g_iload_n C dX11_send_13 rfl 3 rfl ?_
    refine g_iload C dX11_send_14 4 rfl ?_
    refine g_callVI (rest := [.int a5]) C mv_X11_146 [.int a3, .int a4] (s_X1_sealOf I ha2) (ha2).1 (ha2).2 rfl rfl (by decide) (Nat.le_of_ble_eq_true rfl) (by decide) dX11_send_16 (fun r21354 Y21355 h21356 => ?_)
    obtain ⟨rfl, h21356⟩ := h21356
    have h21356 : True := h21356
    have u21358 := ti_rng a5
    have u21359 := ti_rng r21354
    refine b_icmp_eq C 34 dX11_send_19 (by decide) (fun h21357 => ?_) (fun h21357 => ?_)
    · have h21357 : a5.toInt = r21354.toInt := congrArg Int32.toInt h21357
      exact J34 
    · have h21357 : a5.toInt ≠ r21354.toInt := ti_ne h21357
      refine g_aload_n C dX11_send_22 rfl 0 rfl ?_
      refine g_dup C dX11_send_23 rfl ?_
      refine g_getI C fi_X11_348 (by decide) (ha0).1 (ha0).2 dX11_send_24 ?_
      refine g_iconst (v := 1) C dX11_send_27 (by decide) ?_
      refine a_iadd C dX11_send_28 (fun z21360 => ?_)
      refine g_putI C fi_X11_348 rfl (ha0).1 (ha0).2 dX11_send_29 ?_
      refine gpW (ks := [11]) (I.setI (ha0) (rgOk.none rfl)) (EK.setI (ha0).2 (by decide)) (fun Y21362 Iy21363 Xy21364 w21365 w21366 => ?_)
      have Xz21367 : EK [1, 6, 7, 11, 13] P Y21362 := Xy21364.mono (by decide)
      have h21368 := Xy21364.at ha0
      have h21369 := Xy21364.at ha2
      refine g_iconst (v := (-1)) C dX11_send_32 (by decide) ?_
      exact ret _ _ _ _ _ _ dX11_send_33 rfl (by decide) (by decide) ⟨Iy21363, Xz21367, (by decide)⟩
theorem dX11_forged_16 : decode cX11_forged 16 = .ok (.iconst (-1), 1) := by decide +kernel
theorem dX11_forged_17 : decode cX11_forged 17 = .ok (.ireturn, 1) := by decide +kernel
theorem dX11_forged_43 : decode cX11_forged 43 = .ok (.iconst (-1), 1) := by decide +kernel
theorem dX11_forged_44 : decode cX11_forged 44 = .ok (.ireturn, 1) := by decide +kernel
theorem dX11_forged_61 : decode cX11_forged 61 = .ok (.ireturn, 1) := by decide +kernel
set_option maxHeartbeats 4000000 in
set_option maxRecDepth 100000 in
theorem s_X11_forged {P : PP} {a0 : Nat} {a1 : Int32} {a2 : Int32} {a3 : Int32} {a4 : Int32} {a5 : Int32} (I : IV P) (ha0 : At P a0 11) : CtrI yX11_forged cX11_forged 6 (some Jvm.ClassFile.FieldType.int) ({ frames := 6, cells := 1, slots := 7, locals := 384 } : Room) 1 7 P [.ref a0, .int a1, .int a2, .int a3, .int a4, .int a5] (fun r P2 => IV P2 ∧ EK [1, 6, 7, 11, 13] P P2 ∧ (-1 ≤ r.toInt ∧ r.toInt ≤ 39)) := by
  refine enI (lv := [(0, .ref a0), (1, .int a1), (2, .int a2), (3, .int a3), (4, .int a4), (5, .int a5)]) (by decide) (Nat.le_of_ble_eq_true rfl) rfl (fun E D cy C Ci0 ret => ?_)
  have J43 : G E ({ frames := 6, cells := 1, slots := 7, locals := 384 } : Room) D cy 6 P 0 0 43 [] [] := by
    refine g_iconst (v := (-1)) C dX11_forged_43 (by decide) ?_
    exact ret _ _ _ _ _ _ dX11_forged_44 rfl (by decide) (by decide) ⟨I, EK.rf, (by decide)⟩
  have J16 : G E ({ frames := 6, cells := 1, slots := 7, locals := 384 } : Room) D cy 6 P 0 0 16 [] [] := by
    refine g_iconst (v := (-1)) C dX11_forged_16 (by decide) ?_
    exact ret _ _ _ _ _ _ dX11_forged_17 rfl (by decide) (by decide) ⟨I, EK.rf, (by decide)⟩
  refine g_iload_n C dX11_forged_0 rfl 1 rfl ?_
  refine g_callSI (b := 0) (ci := 0) (rest := []) C ms_X11_158 [.int a1] (s_X11_isQuarter I) rfl rfl (by decide) (Nat.le_of_ble_eq_true rfl) (by decide) dX11_forged_1 (fun r21401 Y21402 h21403 => ?_)
  obtain ⟨rfl, h21403⟩ := h21403
  obtain ⟨h21403, hi21404⟩ := h21403
  have hi21404 : r21401.toInt = 0 ∨ (((0 : Int) ≤ a1.toInt ∧ a1.toInt ≤ (3 : Int))) := hi21404
  have h21403 : 0 ≤ r21401.toInt ∧ r21401.toInt ≤ 1 := h21403
  refine b_if_eq C 16 dX11_forged_4 (by decide) (fun h21405 => ?_) (fun h21405 => ?_)
  · have h21405 : r21401.toInt = 0 := congrArg Int32.toInt h21405
    clear hi21404
    refine g_lv (lv' := []) [] rfl ?_
    exact J16 
  · have h21405 : r21401.toInt ≠ 0 := ti_ne h21405
    replace hi21404 := hi21404.resolve_left (by omega)
    refine g_aload_n C dX11_forged_7 rfl 0 rfl ?_
    refine g_iload_n C dX11_forged_8 rfl 2 rfl ?_
    refine g_iload_n C dX11_forged_9 rfl 3 rfl ?_
    refine g_callVI (rest := []) C mv_X11_136 [.int a2, .int a3] (s_X11_isLeaflet I ha0) (ha0).1 (ha0).2 rfl rfl (by decide) (Nat.le_of_ble_eq_true rfl) (by decide) dX11_forged_10 (fun r21406 Y21407 h21408 => ?_)
    obtain ⟨rfl, h21408⟩ := h21408
    obtain ⟨h21408, hi21409⟩ := h21408
    have hi21409 : r21406.toInt = 0 ∨ (((0 : Int) ≤ a2.toInt ∧ a2.toInt ≤ (1 : Int)) ∧ ((0 : Int) ≤ a3.toInt ∧ a3.toInt ≤ (9999 : Int))) := hi21409
    have h21408 : 0 ≤ r21406.toInt ∧ r21406.toInt ≤ 1 := h21408
    refine b_if_ne C 18 dX11_forged_13 (by decide) (fun h21410 => ?_) (fun h21410 => ?_)
    · have h21410 : r21406.toInt ≠ 0 := ti_ne h21410
      replace hi21409 := hi21409.resolve_left (by omega)
      refine g_iload C dX11_forged_18 4 rfl ?_
      have u21412 := ti_rng a4
      refine b_if_lt C 43 dX11_forged_20 (by decide) (fun h21411 => ?_) (fun h21411 => ?_)
      · have h21411 : a4.toInt < 0 := h21411
        refine g_lv (lv' := []) [] rfl ?_
        exact J43 
      · have h21411 : 0 ≤ a4.toInt := h21411
        refine g_iload C dX11_forged_23 4 rfl ?_
        refine g_ldc (v := 65535) C kc_X11_104 dX11_forged_25 ?_
        have u21414 := ti_rng a4
        refine b_icmp_gt C 43 dX11_forged_27 (by decide) (fun h21413 => ?_) (fun h21413 => ?_)
        · have h21413 : 65535 < a4.toInt := h21413
          refine g_lv (lv' := []) [] rfl ?_
          exact J43 
        · have h21413 : a4.toInt ≤ 65535 := h21413
          refine g_iload C dX11_forged_30 5 rfl ?_
          have u21416 := ti_rng a5
          refine b_if_lt C 43 dX11_forged_32 (by decide) (fun h21415 => ?_) (fun h21415 => ?_)
          · have h21415 : a5.toInt < 0 := h21415
            refine g_lv (lv' := []) [] rfl ?_
            exact J43 
          · have h21415 : 0 ≤ a5.toInt := h21415
            refine g_iload C dX11_forged_35 5 rfl ?_
            refine g_sipush (v := 997) C dX11_forged_37 (by decide) ?_
            have u21418 := ti_rng a5
            refine b_icmp_lt C 45 dX11_forged_40 (by decide) (fun h21417 => ?_) (fun h21417 => ?_)
            · have h21417 : a5.toInt < 997 := h21417
              refine g_aload_n C dX11_forged_45 rfl 0 rfl ?_
              refine g_iload_n C dX11_forged_46 rfl 1 rfl ?_
              refine g_aload_n C dX11_forged_47 rfl 0 rfl ?_
              obtain ⟨b21419, e21420, h21421⟩ := I.fld (ha0) 0 17 2 rfl
              refine g_getR C fi_X11_11 rfl e21420 (ha0).1 (ha0).2 dX11_forged_48 ?_
              refine g_iload_n C dX11_forged_51 rfl 2 rfl ?_
              obtain ⟨b21422, e21423, h21424⟩ := I.elm h21421 (by decide) (a2.toInt.toNat) (by omega)
              refine g_aldR C h21421.1 h21421.2.1 (by decide) (ix_in h21421.2.2 (by omega)) e21423 dX11_forged_52 ?_
              refine g_iload_n C dX11_forged_53 rfl 3 rfl ?_
              refine g_iload C dX11_forged_54 4 rfl ?_
              refine g_iload C dX11_forged_56 5 rfl ?_
              refine g_callVI (rest := []) C mv_X11_169 [.int a1, .ref b21422, .int a3, .int a4, .int a5] (s_X11_send I ha0 (by omega) h21424) (ha0).1 (ha0).2 rfl rfl (by decide) (Nat.le_of_ble_eq_true rfl) (by decide) dX11_forged_58 (fun r21425 Y21426 h21427 => ?_)
              obtain ⟨Iy21428, Xy21429, h21427⟩ := h21427
              have Xz21430 : EK [1, 6, 7, 11, 13] P Y21426 := Xy21429.mono (by decide)
              have h21431 := Xy21429.at ha0
              have h21427 : -1 ≤ r21425.toInt ∧ r21425.toInt ≤ 39 := h21427
              exact ret _ _ _ _ _ _ dX11_forged_61 rfl (by decide) (by decide) ⟨Iy21428, Xz21430, (by omega)⟩
            · have h21417 : 997 ≤ a5.toInt := h21417
              refine g_lv (lv' := []) [] rfl ?_
              exact J43 
    · have h21410 : r21406.toInt = 0 := congrArg Int32.toInt h21410
      clear hi21409
      refine g_lv (lv' := []) [] rfl ?_
      exact J16 
theorem dX11_guard_0 : decode cX11_guard 0 = .ok (.iload_n 1, 1) := by decide +kernel
theorem dX11_guard_1 : decode cX11_guard 1 = .ok (.invokestatic 158, 3) := by decide +kernel
theorem dX11_guard_4 : decode cX11_guard 4 = .ok (.ifCond .eq 20, 3) := by decide +kernel
theorem dX11_guard_7 : decode cX11_guard 7 = .ok (.aload_n 0, 1) := by decide +kernel
theorem dX11_guard_8 : decode cX11_guard 8 = .ok (.iload_n 2, 1) := by decide +kernel
theorem dX11_guard_9 : decode cX11_guard 9 = .ok (.iload 4, 2) := by decide +kernel
theorem dX11_guard_11 : decode cX11_guard 11 = .ok (.invokevirtual 155, 3) := by decide +kernel
theorem dX11_isPageOf_0 : decode cX11_isPageOf 0 = .ok (.aload_n 0, 1) := by decide +kernel
theorem dX11_isPageOf_1 : decode cX11_isPageOf 1 = .ok (.iload_n 1, 1) := by decide +kernel
theorem dX11_isPageOf_2 : decode cX11_isPageOf 2 = .ok (.invokevirtual 97, 3) := by decide +kernel
theorem dX11_isPageOf_5 : decode cX11_isPageOf 5 = .ok (.ifCond .eq 24, 3) := by decide +kernel
theorem dX11_isPageOf_8 : decode cX11_isPageOf 8 = .ok (.iload_n 2, 1) := by decide +kernel
theorem dX11_isPageOf_9 : decode cX11_isPageOf 9 = .ok (.ifCond .lt 20, 3) := by decide +kernel
theorem dX11_isPageOf_12 : decode cX11_isPageOf 12 = .ok (.iload_n 2, 1) := by decide +kernel
theorem dX11_isPageOf_13 : decode cX11_isPageOf 13 = .ok (.aload_n 0, 1) := by decide +kernel
theorem dX11_isPageOf_14 : decode cX11_isPageOf 14 = .ok (.getfield 11, 3) := by decide +kernel
theorem dX11_isPageOf_17 : decode cX11_isPageOf 17 = .ok (.iload_n 1, 1) := by decide +kernel
theorem dX11_isPageOf_18 : decode cX11_isPageOf 18 = .ok (.aaload, 1) := by decide +kernel
theorem dX11_isPageOf_19 : decode cX11_isPageOf 19 = .ok (.invokevirtual 233, 3) := by decide +kernel
theorem dX11_isPageOf_22 : decode cX11_isPageOf 22 = .ok (.if_icmp .ge 7, 3) := by decide +kernel
theorem dX11_isPageOf_25 : decode cX11_isPageOf 25 = .ok (.iconst 1, 1) := by decide +kernel
theorem dX11_isPageOf_26 : decode cX11_isPageOf 26 = .ok (.goto 4, 3) := by decide +kernel
theorem dX11_isPageOf_29 : decode cX11_isPageOf 29 = .ok (.iconst 0, 1) := by decide +kernel
theorem dX11_isPageOf_30 : decode cX11_isPageOf 30 = .ok (.ireturn, 1) := by decide +kernel
set_option maxHeartbeats 4000000 in
set_option maxRecDepth 100000 in
theorem s_X11_isPageOf {P : PP} {a0 : Nat} {a1 : Int32} {a2 : Int32} (I : IV P) (ha0 : At P a0 11) : CtrI yX11_isPageOf cX11_isPageOf 3 (some Jvm.ClassFile.FieldType.boolean) ({ frames := 3, cells := 0, slots := 0, locals := 192 } : Room) 0 0 P [.ref a0, .int a1, .int a2] (fun r P2 => P = P2 ∧ (0 ≤ r.toInt ∧ r.toInt ≤ 1) ∧ (r.toInt = 0 ∨ (((0 : Int) ≤ a1.toInt ∧ a1.toInt ≤ (1 : Int)) ∧ ((0 : Int) ≤ a2.toInt ∧ a2.toInt ≤ (19 : Int))))) := by
  refine enI (lv := [(0, .ref a0), (1, .int a1), (2, .int a2)]) (by decide) (Nat.le_of_ble_eq_true rfl) rfl (fun E D cy C Ci0 ret => ?_)
  have J29 : G E ({ frames := 3, cells := 0, slots := 0, locals := 192 } : Room) D cy 3 P 0 0 29 [] [] := by
    refine g_iconst (v := 0) C dX11_isPageOf_29 (by decide) ?_
    exact ret _ _ _ _ _ _ dX11_isPageOf_30 rfl (by decide) (by decide) ⟨rfl, (by decide), Or.inl rfl⟩
  refine g_aload_n C dX11_isPageOf_0 rfl 0 rfl ?_
  refine g_iload_n C dX11_isPageOf_1 rfl 1 rfl ?_
  refine g_callVI (rest := []) C mv_X11_97 [.int a1] (s_X11_isTold I ha0) (ha0).1 (ha0).2 rfl rfl (by decide) (Nat.le_of_ble_eq_true rfl) (by decide) dX11_isPageOf_2 (fun r21455 Y21456 h21457 => ?_)
  obtain ⟨rfl, h21457⟩ := h21457
  obtain ⟨h21457, hi21458⟩ := h21457
  have hi21458 : r21455.toInt = 0 ∨ (((0 : Int) ≤ a1.toInt ∧ a1.toInt ≤ (1 : Int))) := hi21458
  have h21457 : 0 ≤ r21455.toInt ∧ r21455.toInt ≤ 1 := h21457
  refine b_if_eq C 29 dX11_isPageOf_5 (by decide) (fun h21459 => ?_) (fun h21459 => ?_)
  · have h21459 : r21455.toInt = 0 := congrArg Int32.toInt h21459
    clear hi21458
    refine g_lv (lv' := []) [] rfl ?_
    exact J29 
  · have h21459 : r21455.toInt ≠ 0 := ti_ne h21459
    replace hi21458 := hi21458.resolve_left (by omega)
    refine g_iload_n C dX11_isPageOf_8 rfl 2 rfl ?_
    have u21461 := ti_rng a2
    refine b_if_lt C 29 dX11_isPageOf_9 (by decide) (fun h21460 => ?_) (fun h21460 => ?_)
    · have h21460 : a2.toInt < 0 := h21460
      refine g_lv (lv' := []) [] rfl ?_
      exact J29 
    · have h21460 : 0 ≤ a2.toInt := h21460
      refine g_iload_n C dX11_isPageOf_12 rfl 2 rfl ?_
      refine g_aload_n C dX11_isPageOf_13 rfl 0 rfl ?_
      obtain ⟨b21462, e21463, h21464⟩ := I.fld (ha0) 0 17 2 rfl
      refine g_getR C fi_X11_11 rfl e21463 (ha0).1 (ha0).2 dX11_isPageOf_14 ?_
      refine g_iload_n C dX11_isPageOf_17 rfl 1 rfl ?_
      obtain ⟨b21465, e21466, h21467⟩ := I.elm h21464 (by decide) (a1.toInt.toNat) (by omega)
      refine g_aldR C h21464.1 h21464.2.1 (by decide) (ix_in h21464.2.2 (by omega)) e21466 dX11_isPageOf_18 ?_
      refine g_callVI (rest := [.int a2]) C mv_X11_233 [] (s_X1_all I h21467) (h21467).1 (h21467).2 rfl rfl (by decide) (Nat.le_of_ble_eq_true rfl) (by decide) dX11_isPageOf_19 (fun r21468 Y21469 h21470 => ?_)
      obtain ⟨rfl, h21470⟩ := h21470
      have h21470 : 0 ≤ r21468.toInt ∧ r21468.toInt ≤ 20 := h21470
      have u21472 := ti_rng a2
      refine b_icmp_ge C 29 dX11_isPageOf_22 (by decide) (fun h21471 => ?_) (fun h21471 => ?_)
      · have h21471 : r21468.toInt ≤ a2.toInt := h21471
        refine g_lv (lv' := []) [] rfl ?_
        exact J29 
      · have h21471 : a2.toInt < r21468.toInt := h21471
        refine g_iconst (v := 1) C dX11_isPageOf_25 (by decide) ?_
        refine g_goto C 30 dX11_isPageOf_26 (by decide) ?_
        exact ret _ _ _ _ _ _ dX11_isPageOf_30 rfl (by decide) (by decide) ⟨rfl, (by decide), Or.inr (by omega)⟩
theorem dX11_guard_14 : decode cX11_guard 14 = .ok (.ifCond .eq 10, 3) := by decide +kernel
theorem dX11_guard_17 : decode cX11_guard 17 = .ok (.iload_n 3, 1) := by decide +kernel
theorem dX11_guard_18 : decode cX11_guard 18 = .ok (.invokestatic 213, 3) := by decide +kernel
theorem dX11_guard_21 : decode cX11_guard 21 = .ok (.ifCond .ne 5, 3) := by decide +kernel
theorem dX11_guard_26 : decode cX11_guard 26 = .ok (.aload_n 0, 1) := by decide +kernel
theorem dX11_guard_27 : decode cX11_guard 27 = .ok (.iload_n 1, 1) := by decide +kernel
theorem dX11_guard_28 : decode cX11_guard 28 = .ok (.iload_n 2, 1) := by decide +kernel
theorem dX11_guard_29 : decode cX11_guard 29 = .ok (.iload_n 3, 1) := by decide +kernel
theorem dX11_guard_30 : decode cX11_guard 30 = .ok (.invokevirtual 216, 3) := by decide +kernel
theorem dX11_guard_33 : decode cX11_guard 33 = .ok (.astore 5, 2) := by decide +kernel
theorem dX11_guard_35 : decode cX11_guard 35 = .ok (.aload_n 0, 1) := by decide +kernel
theorem dX11_guard_36 : decode cX11_guard 36 = .ok (.getfield 53, 3) := by decide +kernel
theorem dX11_guard_39 : decode cX11_guard 39 = .ok (.iconst 0, 1) := by decide +kernel
theorem dX11_guard_40 : decode cX11_guard 40 = .ok (.aaload, 1) := by decide +kernel
theorem dX11_guard_41 : decode cX11_guard 41 = .ok (.astore 6, 2) := by decide +kernel
theorem dX11_guard_43 : decode cX11_guard 43 = .ok (.aload 6, 2) := by decide +kernel
theorem dX11_guard_45 : decode cX11_guard 45 = .ok (.aload 5, 2) := by decide +kernel
theorem dX11_guard_47 : decode cX11_guard 47 = .ok (.iconst (-1), 1) := by decide +kernel
theorem dX11_guard_48 : decode cX11_guard 48 = .ok (.invokevirtual 236, 3) := by decide +kernel
theorem dX11_guard_51 : decode cX11_guard 51 = .ok (.aload 6, 2) := by decide +kernel
theorem dX11_guard_53 : decode cX11_guard 53 = .ok (.iload 4, 2) := by decide +kernel
theorem dX11_guard_55 : decode cX11_guard 55 = .ok (.invokevirtual 272, 3) := by decide +kernel
theorem dX11_guard_58 : decode cX11_guard 58 = .ok (.iconst (-1), 1) := by decide +kernel
theorem dX11_guard_59 : decode cX11_guard 59 = .ok (.if_icmp .ne 5, 3) := by decide +kernel
theorem dX11_guard_64 : decode cX11_guard 64 = .ok (.aload 5, 2) := by decide +kernel
theorem dX11_guard_66 : decode cX11_guard 66 = .ok (.aload_n 0, 1) := by decide +kernel
theorem dX11_guard_67 : decode cX11_guard 67 = .ok (.getfield 11, 3) := by decide +kernel
theorem dX11_guard_70 : decode cX11_guard 70 = .ok (.iload_n 2, 1) := by decide +kernel
theorem dX11_guard_71 : decode cX11_guard 71 = .ok (.aaload, 1) := by decide +kernel
theorem dX11_guard_72 : decode cX11_guard 72 = .ok (.iload 4, 2) := by decide +kernel
theorem dX11_guard_74 : decode cX11_guard 74 = .ok (.invokevirtual 275, 3) := by decide +kernel
theorem dX5_fewestGuarding_0 : decode cX5_fewestGuarding 0 = .ok (.aload_n 0, 1) := by decide +kernel
theorem dX5_fewestGuarding_1 : decode cX5_fewestGuarding 1 = .ok (.aload_n 1, 1) := by decide +kernel
theorem dX5_fewestGuarding_2 : decode cX5_fewestGuarding 2 = .ok (.invokevirtual 73, 3) := by decide +kernel
theorem dX5_touchPapers_0 : decode cX5_touchPapers 0 = .ok (.iconst 0, 1) := by decide +kernel
theorem dX5_touchPapers_1 : decode cX5_touchPapers 1 = .ok (.istore_n 2, 1) := by decide +kernel
theorem dX5_touchPapers_2 : decode cX5_touchPapers 2 = .ok (.iload_n 2, 1) := by decide +kernel
theorem dX5_touchPapers_3 : decode cX5_touchPapers 3 = .ok (.bipush 16, 2) := by decide +kernel
theorem dX5_touchPapers_5 : decode cX5_touchPapers 5 = .ok (.if_icmp .ge 16, 3) := by decide +kernel
theorem dX5_touchPapers_8 : decode cX5_touchPapers 8 = .ok (.aload_n 0, 1) := by decide +kernel
theorem dX5_touchPapers_9 : decode cX5_touchPapers 9 = .ok (.getfield 21, 3) := by decide +kernel
theorem dX5_touchPapers_12 : decode cX5_touchPapers 12 = .ok (.iload_n 2, 1) := by decide +kernel
theorem dX5_touchPapers_13 : decode cX5_touchPapers 13 = .ok (.lconst 0, 1) := by decide +kernel
theorem dX5_touchPapers_14 : decode cX5_touchPapers 14 = .ok (.lastore, 1) := by decide +kernel
theorem dX5_touchPapers_15 : decode cX5_touchPapers 15 = .ok (.iinc 2 1, 3) := by decide +kernel
theorem dX5_touchPapers_18 : decode cX5_touchPapers 18 = .ok (.goto (-16), 3) := by decide +kernel
theorem dX5_touchPapers_21 : decode cX5_touchPapers 21 = .ok (.aload_n 0, 1) := by decide +kernel
theorem dX5_touchPapers_22 : decode cX5_touchPapers 22 = .ok (.getfield 50, 3) := by decide +kernel
theorem dX5_touchPapers_25 : decode cX5_touchPapers 25 = .ok (.istore_n 2, 1) := by decide +kernel
theorem dX5_touchPapers_26 : decode cX5_touchPapers 26 = .ok (.iload_n 2, 1) := by decide +kernel
theorem dX5_touchPapers_27 : decode cX5_touchPapers 27 = .ok (.aload_n 0, 1) := by decide +kernel
theorem dX5_touchPapers_28 : decode cX5_touchPapers 28 = .ok (.getfield 25, 3) := by decide +kernel
theorem dX5_touchPapers_31 : decode cX5_touchPapers 31 = .ok (.if_icmp .ge 68, 3) := by decide +kernel
theorem dX5_touchPapers_34 : decode cX5_touchPapers 34 = .ok (.aload_n 1, 1) := by decide +kernel
theorem dX5_touchPapers_35 : decode cX5_touchPapers 35 = .ok (.aload_n 0, 1) := by decide +kernel
theorem dX5_touchPapers_36 : decode cX5_touchPapers 36 = .ok (.getfield 9, 3) := by decide +kernel
theorem dX5_touchPapers_39 : decode cX5_touchPapers 39 = .ok (.iload_n 2, 1) := by decide +kernel
theorem dX5_touchPapers_40 : decode cX5_touchPapers 40 = .ok (.iaload, 1) := by decide +kernel
theorem dX5_touchPapers_41 : decode cX5_touchPapers 41 = .ok (.ldc 53, 2) := by decide +kernel
theorem dX5_touchPapers_43 : decode cX5_touchPapers 43 = .ok (.iand, 1) := by decide +kernel
theorem dX5_touchPapers_44 : decode cX5_touchPapers 44 = .ok (.invokevirtual 77, 3) := by decide +kernel
theorem dX5_touchPapers_47 : decode cX5_touchPapers 47 = .ok (.istore_n 3, 1) := by decide +kernel
theorem dX5_touchPapers_48 : decode cX5_touchPapers 48 = .ok (.iconst 0, 1) := by decide +kernel
theorem dX5_touchPapers_49 : decode cX5_touchPapers 49 = .ok (.istore 4, 2) := by decide +kernel
theorem dX5_touchPapers_51 : decode cX5_touchPapers 51 = .ok (.iload 4, 2) := by decide +kernel
theorem dX5_touchPapers_53 : decode cX5_touchPapers 53 = .ok (.aload_n 1, 1) := by decide +kernel
theorem dX5_touchPapers_54 : decode cX5_touchPapers 54 = .ok (.getfield 43, 3) := by decide +kernel
theorem dX5_touchPapers_57 : decode cX5_touchPapers 57 = .ok (.if_icmp .ge 36, 3) := by decide +kernel
theorem dX5_touchPapers_60 : decode cX5_touchPapers 60 = .ok (.iload_n 3, 1) := by decide +kernel
theorem dX5_touchPapers_61 : decode cX5_touchPapers 61 = .ok (.iload 4, 2) := by decide +kernel
theorem dX5_touchPapers_63 : decode cX5_touchPapers 63 = .ok (.ishr, 1) := by decide +kernel
theorem dX5_touchPapers_64 : decode cX5_touchPapers 64 = .ok (.iconst 1, 1) := by decide +kernel
theorem dX5_touchPapers_65 : decode cX5_touchPapers 65 = .ok (.iand, 1) := by decide +kernel
theorem dX5_touchPapers_66 : decode cX5_touchPapers 66 = .ok (.ifCond .eq 21, 3) := by decide +kernel
theorem dX5_touchPapers_69 : decode cX5_touchPapers 69 = .ok (.aload_n 0, 1) := by decide +kernel
theorem dX5_touchPapers_70 : decode cX5_touchPapers 70 = .ok (.getfield 21, 3) := by decide +kernel
theorem dX5_touchPapers_73 : decode cX5_touchPapers 73 = .ok (.iload 4, 2) := by decide +kernel
theorem dX5_touchPapers_75 : decode cX5_touchPapers 75 = .ok (.dup2, 1) := by decide +kernel
theorem dX5_touchPapers_76 : decode cX5_touchPapers 76 = .ok (.laload, 1) := by decide +kernel
theorem dX5_touchPapers_77 : decode cX5_touchPapers 77 = .ok (.lconst 1, 1) := by decide +kernel
theorem dX5_touchPapers_78 : decode cX5_touchPapers 78 = .ok (.iload_n 2, 1) := by decide +kernel
theorem dX5_touchPapers_79 : decode cX5_touchPapers 79 = .ok (.aload_n 0, 1) := by decide +kernel
theorem dX5_touchPapers_80 : decode cX5_touchPapers 80 = .ok (.getfield 50, 3) := by decide +kernel
theorem dX5_touchPapers_83 : decode cX5_touchPapers 83 = .ok (.isub, 1) := by decide +kernel
theorem dX5_touchPapers_84 : decode cX5_touchPapers 84 = .ok (.lshl, 1) := by decide +kernel
theorem dX5_touchPapers_85 : decode cX5_touchPapers 85 = .ok (.lor, 1) := by decide +kernel
theorem dX5_touchPapers_86 : decode cX5_touchPapers 86 = .ok (.lastore, 1) := by decide +kernel
theorem dX5_touchPapers_87 : decode cX5_touchPapers 87 = .ok (.iinc 4 1, 3) := by decide +kernel
theorem dX5_touchPapers_90 : decode cX5_touchPapers 90 = .ok (.goto (-39), 3) := by decide +kernel
theorem dX5_touchPapers_93 : decode cX5_touchPapers 93 = .ok (.iinc 2 1, 3) := by decide +kernel
theorem dX5_touchPapers_96 : decode cX5_touchPapers 96 = .ok (.goto (-70), 3) := by decide +kernel
theorem dX5_touchPapers_99 : decode cX5_touchPapers 99 = .ok (.return_, 1) := by decide +kernel
set_option maxHeartbeats 4000000 in
set_option maxRecDepth 100000 in
theorem s_X5_touchPapers {P : PP} {a0 : Nat} {a1 : Nat} (I : IV P) (ha0 : At P a0 5) (ha1 : At P a1 1) : CtrV yX5_touchPapers cX5_touchPapers 5 none ({ frames := 2, cells := 0, slots := 0, locals := 128 } : Room) 0 0 P [.ref a0, .ref a1] (fun P2 => IV P2 ∧ EK [] P P2) := by
  refine enV (lv := [(0, .ref a0), (1, .ref a1)]) (by decide) (Nat.le_of_ble_eq_true rfl) rfl (fun E D cy C Ci0 ret => ?_)
  have J26 : ∀ (n26 : Nat) (P26 : PP) (v26_2 : Int32), (44 - v26_2.toInt).toNat < n26 → (IV P26) → (EK [] P P26) → (0 ≤ v26_2.toInt ∧ v26_2.toInt ≤ 44) → G E ({ frames := 2, cells := 0, slots := 0, locals := 128 } : Room) D cy 5 P26 0 0 26 [(0, .ref a0), (1, .ref a1), (2, .int v26_2)] [] := by
    intro n26
    induction n26 with
    | zero => intro P26 v26_2 hm26 I26 X26 hv26_2; omega
    | succ n26 ih26 =>
      intro P26 v26_2 hm26 I26 X26 hv26_2
      have h22054 := X26.at ha0
      have h22055 := X26.at ha1
      have J51 : ∀ (n51 : Nat) (P51 : PP) (v51_3 : Int32) (v51_4 : Int32), (16 - v51_4.toInt).toNat < n51 → (IV P51) → (EK [] P P51) → (0 ≤ v26_2.toInt ∧ v26_2.toInt ≤ 43) → (0 ≤ v51_4.toInt ∧ v51_4.toInt ≤ 16) → (1 ≤ (pI P51 a0 4).toInt ∧ (pI P51 a0 4).toInt ≤ 44) → G E ({ frames := 2, cells := 0, slots := 0, locals := 128 } : Room) D cy 5 P51 0 0 51 [(0, .ref a0), (1, .ref a1), (2, .int v26_2), (3, .int v51_3), (4, .int v51_4)] [] := by
        intro n51
        induction n51 with
        | zero => intro P51 v51_3 v51_4 hm51 I51 X51 hv51_2 hv51_4 hq51_0; omega
        | succ n51 ih51 =>
          intro P51 v51_3 v51_4 hm51 I51 X51 hv51_2 hv51_4 hq51_0
          have h22056 := X51.at ha0
          have h22057 := X51.at ha1
          have J87 : ∀ (P87 : PP), (IV P87) → (EK [] P P87) → (0 ≤ v26_2.toInt ∧ v26_2.toInt ≤ 43) → (0 ≤ v51_4.toInt ∧ v51_4.toInt ≤ 15) → (1 ≤ (pI P87 a0 4).toInt ∧ (pI P87 a0 4).toInt ≤ 44) → (1 ≤ (pI P87 a1 5).toInt ∧ (pI P87 a1 5).toInt ≤ 16) → G E ({ frames := 2, cells := 0, slots := 0, locals := 128 } : Room) D cy 5 P87 0 0 87 [(0, .ref a0), (1, .ref a1), (2, .int v26_2), (3, .int v51_3), (4, .int v51_4)] [] := by
            intro P87 I87 X87 hv87_2 hv87_4 hq87_0 hq87_1
            have h22058 := X87.at ha0
            have h22059 := X87.at ha1
            refine s_iinc (lv0 := [(0, .ref a0), (1, .ref a1), (2, .int v26_2), (3, .int v51_3)]) (m := 1) C dX5_touchPapers_87 4 rfl (by decide) rfl (by decide) (by omega) (fun z22060 h22061 => ?_)
            have h22061 : z22060.toInt = v51_4.toInt + 1 := h22061
            refine g_goto C 51 dX5_touchPapers_90 (by decide) ?_
            refine g_lv (lv' := [(0, .ref a0), (1, .ref a1), (2, .int v26_2), (3, .int v51_3), (4, .int z22060)]) [1, 2, 3, 4, 0] rfl ?_
            exact ih51 P87 v51_3 z22060 (by omega) I87 X87 (by omega) (by omega) (by omega)
          refine g_iload C dX5_touchPapers_51 4 rfl ?_
          refine g_aload_n C dX5_touchPapers_53 rfl 1 rfl ?_
          refine g_getI C fi_X5_43 (by decide) (h22057).1 (h22057).2 dX5_touchPapers_54 ?_
          have h22062 := I51.rg (h22057) 5 rfl
          refine b_icmp_ge C 93 dX5_touchPapers_57 (by decide) (fun h22063 => ?_) (fun h22063 => ?_)
          · have h22063 : (pI P51 a1 5).toInt ≤ v51_4.toInt := h22063
            refine s_iinc (lv0 := [(0, .ref a0), (1, .ref a1), (3, .int v51_3), (4, .int v51_4)]) (m := 1) C dX5_touchPapers_93 2 rfl (by decide) rfl (by decide) (by omega) (fun z22064 h22065 => ?_)
            have h22065 : z22064.toInt = v26_2.toInt + 1 := h22065
            refine g_goto C 26 dX5_touchPapers_96 (by decide) ?_
            refine g_lv (lv' := [(0, .ref a0), (1, .ref a1), (2, .int z22064)]) [1, 2, 0] rfl ?_
            exact ih26 P51 z22064 (by omega) I51 X51 (by omega)
          · have h22063 : v51_4.toInt < (pI P51 a1 5).toInt := h22063
            refine g_iload_n C dX5_touchPapers_60 rfl 3 rfl ?_
            refine g_iload C dX5_touchPapers_61 4 rfl ?_
            refine a_ishr C dX5_touchPapers_63 (fun z22066 => ?_)
            refine g_iconst (v := 1) C dX5_touchPapers_64 (by decide) ?_
            refine s_iand C dX5_touchPapers_65 (by show 0 ≤ 1; omega) (fun z22068 h22069 => ?_)
            have h22069 : 0 ≤ z22068.toInt ∧ z22068.toInt ≤ 1 := h22069
            refine b_if_eq C 87 dX5_touchPapers_66 (by decide) (fun h22070 => ?_) (fun h22070 => ?_)
            · have h22070 : z22068.toInt = 0 := congrArg Int32.toInt h22070
              exact J87 P51 I51 X51 (by omega) (by omega) (by omega) (by omega)
            · have h22070 : z22068.toInt ≠ 0 := ti_ne h22070
              refine g_aload_n C dX5_touchPapers_69 rfl 0 rfl ?_
              obtain ⟨b22071, e22072, h22073⟩ := I51.fld (h22056) 3 14 16 rfl
              refine g_getR C fi_X5_21 rfl e22072 (h22056).1 (h22056).2 dX5_touchPapers_70 ?_
              refine g_iload C dX5_touchPapers_73 4 rfl ?_
              refine g_dup2_11 C dX5_touchPapers_75 rfl rfl ?_
              refine g_lald (j := (v51_4.toInt.toNat)) C h22073.1 h22073.2.1 (ix_in h22073.2.2 (by omega)) dX5_touchPapers_76 ?_
              refine g_topl (fun l22074 _ => ?_)
              refine g_lconst (v := 1) C dX5_touchPapers_77 (by decide) ?_
              refine g_iload_n C dX5_touchPapers_78 rfl 2 rfl ?_
              refine g_aload_n C dX5_touchPapers_79 rfl 0 rfl ?_
              refine g_getI C fi_X5_50 (by decide) (h22056).1 (h22056).2 dX5_touchPapers_80 ?_
              have h22075 := I51.rg (h22056) 5 rfl
              refine s_isub C dX5_touchPapers_83 (by show -2147483648 ≤ v26_2.toInt - (pI P51 a0 5).toInt ∧ v26_2.toInt - (pI P51 a0 5).toInt ≤ 2147483647; omega) (fun z22076 h22077 => ?_)
              have h22077 : z22076.toInt = v26_2.toInt - (pI P51 a0 5).toInt := h22077
              refine a_lshl C dX5_touchPapers_84 (fun l22078 => ?_)
              refine a_lor C dX5_touchPapers_85 (fun l22079 => ?_)
              refine g_last (j := (v51_4.toInt.toNat)) C h22073.1 h22073.2.1 (ix_in h22073.2.2 (by omega)) dX5_touchPapers_86 ?_
              refine gp (ks := []) (I51.setJ) (EK.setJ) (fun Y22080 Iy22081 Xy22082 => ?_)
              have q22083 := Xy22082.keep h22056 (by decide) 4
              have q22084 := Xy22082.keep h22057 (by decide) 5
              have q22085 := Xy22082.keep h22056 (by decide) 5
              have Xz22086 : EK [] P Y22080 := X51.tr (Xy22082.mono (by decide))
              have h22087 := Xy22082.at h22056
              have h22088 := Xy22082.at h22057
              exact J87 Y22080 Iy22081 Xz22086 (by omega) (by omega) (by omega) (by omega)
      refine g_iload_n C dX5_touchPapers_26 rfl 2 rfl ?_
      refine g_aload_n C dX5_touchPapers_27 rfl 0 rfl ?_
      refine g_getI C fi_X5_25 (by decide) (h22054).1 (h22054).2 dX5_touchPapers_28 ?_
      have h22089 := I26.rg (h22054) 4 rfl
      refine b_icmp_ge C 99 dX5_touchPapers_31 (by decide) (fun h22090 => ?_) (fun h22090 => ?_)
      · have h22090 : (pI P26 a0 4).toInt ≤ v26_2.toInt := h22090
        exact ret _ _ _ _ _ dX5_touchPapers_99 (by decide) (by decide) ⟨I26, X26⟩
      · have h22090 : v26_2.toInt < (pI P26 a0 4).toInt := h22090
        refine g_aload_n C dX5_touchPapers_34 rfl 1 rfl ?_
        refine g_aload_n C dX5_touchPapers_35 rfl 0 rfl ?_
        obtain ⟨b22091, e22092, h22093⟩ := I26.fld (h22054) 0 13 44 rfl
        refine g_getR C fi_X5_9 rfl e22092 (h22054).1 (h22054).2 dX5_touchPapers_36 ?_
        refine g_iload_n C dX5_touchPapers_39 rfl 2 rfl ?_
        refine g_iald (j := (v26_2.toInt.toNat)) C h22093.1 h22093.2.1 (ix_in h22093.2.2 (by omega)) dX5_touchPapers_40 ?_
        refine g_topi (fun z22094 _ => ?_)
        refine g_ldc (v := 1048575) C kc_X5_53 dX5_touchPapers_41 ?_
        refine s_iand C dX5_touchPapers_43 (by show 0 ≤ 1048575; omega) (fun z22095 h22096 => ?_)
        have h22096 : 0 ≤ z22095.toInt ∧ z22095.toInt ≤ 1048575 := h22096
        refine g_callVI (rest := []) C mv_X5_77 [.int z22095] (s_X1_withoutHidden I26 h22055) (h22055).1 (h22055).2 rfl rfl (by decide) (Nat.le_of_ble_eq_true rfl) (by decide) dX5_touchPapers_44 (fun r22097 Y22098 h22099 => ?_)
        obtain ⟨rfl, h22099⟩ := h22099
        have h22099 : True := h22099
        refine g_istore_n (lv' := [(3, .int r22097), (0, .ref a0), (1, .ref a1), (2, .int v26_2)]) C dX5_touchPapers_47 rfl (by decide) rfl ?_
        refine g_iconst (v := 0) C dX5_touchPapers_48 (by decide) ?_
        refine g_istore (lv' := [(4, .int 0), (3, .int r22097), (0, .ref a0), (1, .ref a1), (2, .int v26_2)]) C dX5_touchPapers_49 (by decide) rfl ?_
        refine g_lv (lv' := [(0, .ref a0), (1, .ref a1), (2, .int v26_2), (3, .int r22097), (4, .int 0)]) [2, 3, 4, 1, 0] rfl ?_
        exact J51 _ P26 r22097 0 (Nat.lt_succ_self _) I26 X26 (by omega) (by decide) (by omega)
  have J2 : ∀ (n2 : Nat) (P2 : PP) (v2_2 : Int32), (16 - v2_2.toInt).toNat < n2 → (IV P2) → (EK [] P P2) → (0 ≤ v2_2.toInt ∧ v2_2.toInt ≤ 16) → G E ({ frames := 2, cells := 0, slots := 0, locals := 128 } : Room) D cy 5 P2 0 0 2 [(0, .ref a0), (1, .ref a1), (2, .int v2_2)] [] := by
    intro n2
    induction n2 with
    | zero => intro P2 v2_2 hm2 I2 X2 hv2_2; omega
    | succ n2 ih2 =>
      intro P2 v2_2 hm2 I2 X2 hv2_2
      have h22100 := X2.at ha0
      have h22101 := X2.at ha1
      refine g_iload_n C dX5_touchPapers_2 rfl 2 rfl ?_
      refine g_bipush (v := 16) C dX5_touchPapers_3 (by decide) ?_
      refine b_icmp_ge C 21 dX5_touchPapers_5 (by decide) (fun h22102 => ?_) (fun h22102 => ?_)
      · have h22102 : 16 ≤ v2_2.toInt := h22102
        refine g_aload_n C dX5_touchPapers_21 rfl 0 rfl ?_
        refine g_getI C fi_X5_50 (by decide) (h22100).1 (h22100).2 dX5_touchPapers_22 ?_
        have h22103 := I2.rg (h22100) 5 rfl
        refine g_topi (fun z22104 h22105 => ?_)
        have h22105 : z22104.toInt = (pI P2 a0 5).toInt := congrArg Int32.toInt h22105
        refine g_istore_n (lv' := [(2, .int z22104), (0, .ref a0), (1, .ref a1)]) C dX5_touchPapers_25 rfl (by decide) rfl ?_
        refine g_lv (lv' := [(0, .ref a0), (1, .ref a1), (2, .int z22104)]) [1, 2, 0] rfl ?_
        exact J26 _ P2 z22104 (Nat.lt_succ_self _) I2 X2 (by omega)
      · have h22102 : v2_2.toInt < 16 := h22102
        refine g_aload_n C dX5_touchPapers_8 rfl 0 rfl ?_
        obtain ⟨b22106, e22107, h22108⟩ := I2.fld (h22100) 3 14 16 rfl
        refine g_getR C fi_X5_21 rfl e22107 (h22100).1 (h22100).2 dX5_touchPapers_9 ?_
        refine g_iload_n C dX5_touchPapers_12 rfl 2 rfl ?_
        refine g_lconst (v := 0) C dX5_touchPapers_13 (by decide) ?_
        refine g_last (j := (v2_2.toInt.toNat)) C h22108.1 h22108.2.1 (ix_in h22108.2.2 (by omega)) dX5_touchPapers_14 ?_
        refine gp (ks := []) (I2.setJ) (EK.setJ) (fun Y22109 Iy22110 Xy22111 => ?_)
        have Xz22112 : EK [] P Y22109 := X2.tr (Xy22111.mono (by decide))
        have h22113 := Xy22111.at h22100
        have h22114 := Xy22111.at h22101
        refine s_iinc (lv0 := [(0, .ref a0), (1, .ref a1)]) (m := 1) C dX5_touchPapers_15 2 rfl (by decide) rfl (by decide) (by omega) (fun z22115 h22116 => ?_)
        have h22116 : z22115.toInt = v2_2.toInt + 1 := h22116
        refine g_goto C 2 dX5_touchPapers_18 (by decide) ?_
        refine g_lv (lv' := [(0, .ref a0), (1, .ref a1), (2, .int z22115)]) [1, 2, 0] rfl ?_
        exact ih2 Y22109 z22115 (by omega) Iy22110 Xz22112 (by omega)
  refine g_iconst (v := 0) C dX5_touchPapers_0 (by decide) ?_
  refine g_istore_n (lv' := [(2, .int 0), (0, .ref a0), (1, .ref a1)]) C dX5_touchPapers_1 rfl (by decide) rfl ?_
  refine g_lv (lv' := [(0, .ref a0), (1, .ref a1), (2, .int 0)]) [1, 2, 0] rfl ?_
  exact J2 _ P 0 (Nat.lt_succ_self _) I EK.rf (by decide)
theorem dX5_fewestGuarding_5 : decode cX5_fewestGuarding 5 = .ok (.aload_n 1, 1) := by decide +kernel
theorem dX5_fewestGuarding_6 : decode cX5_fewestGuarding 6 = .ok (.iconst 1, 1) := by decide +kernel
theorem dX5_fewestGuarding_7 : decode cX5_fewestGuarding 7 = .ok (.iload_n 2, 1) := by decide +kernel
theorem dX5_fewestGuarding_8 : decode cX5_fewestGuarding 8 = .ok (.ishl, 1) := by decide +kernel
theorem dX5_fewestGuarding_9 : decode cX5_fewestGuarding 9 = .ok (.invokevirtual 77, 3) := by decide +kernel
theorem dX5_fewestGuarding_12 : decode cX5_fewestGuarding 12 = .ok (.istore_n 3, 1) := by decide +kernel
theorem dX5_fewestGuarding_13 : decode cX5_fewestGuarding 13 = .ok (.iload_n 3, 1) := by decide +kernel
theorem dX5_fewestGuarding_14 : decode cX5_fewestGuarding 14 = .ok (.invokestatic 62, 3) := by decide +kernel
theorem dX11_lowestPlace_0 : decode cX11_lowestPlace 0 = .ok (.iload_n 0, 1) := by decide +kernel
theorem dX11_lowestPlace_1 : decode cX11_lowestPlace 1 = .ok (.iload_n 0, 1) := by decide +kernel
theorem dX11_lowestPlace_2 : decode cX11_lowestPlace 2 = .ok (.ineg, 1) := by decide +kernel
theorem dX11_lowestPlace_3 : decode cX11_lowestPlace 3 = .ok (.iand, 1) := by decide +kernel
theorem dX11_lowestPlace_4 : decode cX11_lowestPlace 4 = .ok (.iconst 1, 1) := by decide +kernel
theorem dX11_lowestPlace_5 : decode cX11_lowestPlace 5 = .ok (.isub, 1) := by decide +kernel
theorem dX11_lowestPlace_6 : decode cX11_lowestPlace 6 = .ok (.invokestatic 150, 3) := by decide +kernel
theorem dJ6_bitCount_0f7a4_0 : decode cJ6_bitCount_0f7a4 0 = .ok (.iload_n 0, 1) := by decide +kernel
theorem dJ6_bitCount_0f7a4_1 : decode cJ6_bitCount_0f7a4 1 = .ok (.iload_n 0, 1) := by decide +kernel
theorem dJ6_bitCount_0f7a4_2 : decode cJ6_bitCount_0f7a4 2 = .ok (.iconst 1, 1) := by decide +kernel
theorem dJ6_bitCount_0f7a4_3 : decode cJ6_bitCount_0f7a4 3 = .ok (.iushr, 1) := by decide +kernel
theorem dJ6_bitCount_0f7a4_4 : decode cJ6_bitCount_0f7a4 4 = .ok (.ldc_w 265, 3) := by decide +kernel
theorem dJ6_bitCount_0f7a4_7 : decode cJ6_bitCount_0f7a4 7 = .ok (.iand, 1) := by decide +kernel
theorem dJ6_bitCount_0f7a4_8 : decode cJ6_bitCount_0f7a4 8 = .ok (.isub, 1) := by decide +kernel
theorem dJ6_bitCount_0f7a4_9 : decode cJ6_bitCount_0f7a4 9 = .ok (.istore_n 0, 1) := by decide +kernel
theorem dJ6_bitCount_0f7a4_10 : decode cJ6_bitCount_0f7a4 10 = .ok (.iload_n 0, 1) := by decide +kernel
theorem dJ6_bitCount_0f7a4_11 : decode cJ6_bitCount_0f7a4 11 = .ok (.ldc_w 266, 3) := by decide +kernel
theorem dJ6_bitCount_0f7a4_14 : decode cJ6_bitCount_0f7a4 14 = .ok (.iand, 1) := by decide +kernel
theorem dJ6_bitCount_0f7a4_15 : decode cJ6_bitCount_0f7a4 15 = .ok (.iload_n 0, 1) := by decide +kernel
theorem dJ6_bitCount_0f7a4_16 : decode cJ6_bitCount_0f7a4 16 = .ok (.iconst 2, 1) := by decide +kernel
theorem dJ6_bitCount_0f7a4_17 : decode cJ6_bitCount_0f7a4 17 = .ok (.iushr, 1) := by decide +kernel
theorem dJ6_bitCount_0f7a4_18 : decode cJ6_bitCount_0f7a4 18 = .ok (.ldc_w 266, 3) := by decide +kernel
theorem dJ6_bitCount_0f7a4_21 : decode cJ6_bitCount_0f7a4 21 = .ok (.iand, 1) := by decide +kernel
theorem dJ6_bitCount_0f7a4_22 : decode cJ6_bitCount_0f7a4 22 = .ok (.iadd, 1) := by decide +kernel
theorem dJ6_bitCount_0f7a4_23 : decode cJ6_bitCount_0f7a4 23 = .ok (.istore_n 0, 1) := by decide +kernel
theorem dJ6_bitCount_0f7a4_24 : decode cJ6_bitCount_0f7a4 24 = .ok (.iload_n 0, 1) := by decide +kernel
theorem dJ6_bitCount_0f7a4_25 : decode cJ6_bitCount_0f7a4 25 = .ok (.iload_n 0, 1) := by decide +kernel
theorem dJ6_bitCount_0f7a4_26 : decode cJ6_bitCount_0f7a4 26 = .ok (.iconst 4, 1) := by decide +kernel
theorem dJ6_bitCount_0f7a4_27 : decode cJ6_bitCount_0f7a4 27 = .ok (.iushr, 1) := by decide +kernel
theorem dJ6_bitCount_0f7a4_28 : decode cJ6_bitCount_0f7a4 28 = .ok (.iadd, 1) := by decide +kernel
theorem dJ6_bitCount_0f7a4_29 : decode cJ6_bitCount_0f7a4 29 = .ok (.ldc_w 267, 3) := by decide +kernel
theorem dJ6_bitCount_0f7a4_32 : decode cJ6_bitCount_0f7a4 32 = .ok (.iand, 1) := by decide +kernel
theorem dJ6_bitCount_0f7a4_33 : decode cJ6_bitCount_0f7a4 33 = .ok (.istore_n 0, 1) := by decide +kernel
theorem dJ6_bitCount_0f7a4_34 : decode cJ6_bitCount_0f7a4 34 = .ok (.iload_n 0, 1) := by decide +kernel
theorem dJ6_bitCount_0f7a4_35 : decode cJ6_bitCount_0f7a4 35 = .ok (.iload_n 0, 1) := by decide +kernel
theorem dJ6_bitCount_0f7a4_36 : decode cJ6_bitCount_0f7a4 36 = .ok (.bipush 8, 2) := by decide +kernel
theorem dJ6_bitCount_0f7a4_38 : decode cJ6_bitCount_0f7a4 38 = .ok (.iushr, 1) := by decide +kernel
theorem dJ6_bitCount_0f7a4_39 : decode cJ6_bitCount_0f7a4 39 = .ok (.iadd, 1) := by decide +kernel
theorem dJ6_bitCount_0f7a4_40 : decode cJ6_bitCount_0f7a4 40 = .ok (.istore_n 0, 1) := by decide +kernel
theorem dJ6_bitCount_0f7a4_41 : decode cJ6_bitCount_0f7a4 41 = .ok (.iload_n 0, 1) := by decide +kernel
theorem dJ6_bitCount_0f7a4_42 : decode cJ6_bitCount_0f7a4 42 = .ok (.iload_n 0, 1) := by decide +kernel
theorem dJ6_bitCount_0f7a4_43 : decode cJ6_bitCount_0f7a4 43 = .ok (.bipush 16, 2) := by decide +kernel
theorem dJ6_bitCount_0f7a4_45 : decode cJ6_bitCount_0f7a4 45 = .ok (.iushr, 1) := by decide +kernel
theorem dJ6_bitCount_0f7a4_46 : decode cJ6_bitCount_0f7a4 46 = .ok (.iadd, 1) := by decide +kernel
theorem dJ6_bitCount_0f7a4_47 : decode cJ6_bitCount_0f7a4 47 = .ok (.istore_n 0, 1) := by decide +kernel
theorem dJ6_bitCount_0f7a4_48 : decode cJ6_bitCount_0f7a4 48 = .ok (.iload_n 0, 1) := by decide +kernel
theorem dJ6_bitCount_0f7a4_49 : decode cJ6_bitCount_0f7a4 49 = .ok (.bipush 63, 2) := by decide +kernel
theorem dJ6_bitCount_0f7a4_51 : decode cJ6_bitCount_0f7a4 51 = .ok (.iand, 1) := by decide +kernel
theorem dJ6_bitCount_0f7a4_52 : decode cJ6_bitCount_0f7a4 52 = .ok (.ireturn, 1) := by decide +kernel
set_option maxHeartbeats 4000000 in
set_option maxRecDepth 100000 in
theorem s_J6_bitCount_0f7a4 {P : PP} {a0 : Int32} (I : IV P) : CtrI yJ6_bitCount_0f7a4 cJ6_bitCount_0f7a4 1 (some Jvm.ClassFile.FieldType.int) ({ frames := 1, cells := 0, slots := 0, locals := 64 } : Room) 0 0 P [.int a0] (fun r P2 => P = P2 ∧ (0 ≤ r.toInt ∧ r.toInt ≤ 63)) := by
  refine enI (lv := [(0, .int a0)]) (by decide) (Nat.le_of_ble_eq_true rfl) rfl (fun E D cy C Ci0 ret => ?_)
  refine g_iload_n C dJ6_bitCount_0f7a4_0 rfl 0 rfl ?_
  refine g_iload_n C dJ6_bitCount_0f7a4_1 rfl 0 rfl ?_
  refine g_iconst (v := 1) C dJ6_bitCount_0f7a4_2 (by decide) ?_
  refine a_iushr C dJ6_bitCount_0f7a4_3 (fun z22165 => ?_)
  refine g_ldcw (v := 1431655765) C kc_J6_265 dJ6_bitCount_0f7a4_4 ?_
  refine s_iand C dJ6_bitCount_0f7a4_7 (by show 0 ≤ 1431655765; omega) (fun z22167 h22168 => ?_)
  have h22168 : 0 ≤ z22167.toInt ∧ z22167.toInt ≤ 1431655765 := h22168
  refine a_isub C dJ6_bitCount_0f7a4_8 (fun z22169 => ?_)
  refine g_istore_n (lv' := [(0, .int z22169)]) C dJ6_bitCount_0f7a4_9 rfl (by decide) rfl ?_
  refine g_iload_n C dJ6_bitCount_0f7a4_10 rfl 0 rfl ?_
  refine g_ldcw (v := 858993459) C kc_J6_266 dJ6_bitCount_0f7a4_11 ?_
  refine s_iand C dJ6_bitCount_0f7a4_14 (by show 0 ≤ 858993459; omega) (fun z22171 h22172 => ?_)
  have h22172 : 0 ≤ z22171.toInt ∧ z22171.toInt ≤ 858993459 := h22172
  refine g_iload_n C dJ6_bitCount_0f7a4_15 rfl 0 rfl ?_
  refine g_iconst (v := 2) C dJ6_bitCount_0f7a4_16 (by decide) ?_
  refine a_iushr C dJ6_bitCount_0f7a4_17 (fun z22173 => ?_)
  refine g_ldcw (v := 858993459) C kc_J6_266 dJ6_bitCount_0f7a4_18 ?_
  refine s_iand C dJ6_bitCount_0f7a4_21 (by show 0 ≤ 858993459; omega) (fun z22175 h22176 => ?_)
  have h22176 : 0 ≤ z22175.toInt ∧ z22175.toInt ≤ 858993459 := h22176
  refine s_iadd C dJ6_bitCount_0f7a4_22 (by show -2147483648 ≤ z22171.toInt + z22175.toInt ∧ z22171.toInt + z22175.toInt ≤ 2147483647; omega) (fun z22177 h22178 => ?_)
  have h22178 : z22177.toInt = z22171.toInt + z22175.toInt := h22178
  refine g_istore_n (lv' := [(0, .int z22177)]) C dJ6_bitCount_0f7a4_23 rfl (by decide) rfl ?_
  refine g_iload_n C dJ6_bitCount_0f7a4_24 rfl 0 rfl ?_
  refine g_iload_n C dJ6_bitCount_0f7a4_25 rfl 0 rfl ?_
  refine g_iconst (v := 4) C dJ6_bitCount_0f7a4_26 (by decide) ?_
  refine a_iushr C dJ6_bitCount_0f7a4_27 (fun z22179 => ?_)
  refine a_iadd C dJ6_bitCount_0f7a4_28 (fun z22181 => ?_)
  refine g_ldcw (v := 252645135) C kc_J6_267 dJ6_bitCount_0f7a4_29 ?_
  refine s_iand C dJ6_bitCount_0f7a4_32 (by show 0 ≤ 252645135; omega) (fun z22183 h22184 => ?_)
  have h22184 : 0 ≤ z22183.toInt ∧ z22183.toInt ≤ 252645135 := h22184
  refine g_istore_n (lv' := [(0, .int z22183)]) C dJ6_bitCount_0f7a4_33 rfl (by decide) rfl ?_
  refine g_iload_n C dJ6_bitCount_0f7a4_34 rfl 0 rfl ?_
  refine g_iload_n C dJ6_bitCount_0f7a4_35 rfl 0 rfl ?_
  refine g_bipush (v := 8) C dJ6_bitCount_0f7a4_36 (by decide) ?_
  refine a_iushr C dJ6_bitCount_0f7a4_38 (fun z22185 => ?_)
  refine a_iadd C dJ6_bitCount_0f7a4_39 (fun z22187 => ?_)
  refine g_istore_n (lv' := [(0, .int z22187)]) C dJ6_bitCount_0f7a4_40 rfl (by decide) rfl ?_
  refine g_iload_n C dJ6_bitCount_0f7a4_41 rfl 0 rfl ?_
  refine g_iload_n C dJ6_bitCount_0f7a4_42 rfl 0 rfl ?_
  refine g_bipush (v := 16) C dJ6_bitCount_0f7a4_43 (by decide) ?_
  refine a_iushr C dJ6_bitCount_0f7a4_45 (fun z22189 => ?_)
  refine a_iadd C dJ6_bitCount_0f7a4_46 (fun z22191 => ?_)
  refine g_istore_n (lv' := [(0, .int z22191)]) C dJ6_bitCount_0f7a4_47 rfl (by decide) rfl ?_
  refine g_iload_n C dJ6_bitCount_0f7a4_48 rfl 0 rfl ?_
  refine g_bipush (v := 63) C dJ6_bitCount_0f7a4_49 (by decide) ?_
  refine s_iand C dJ6_bitCount_0f7a4_51 (by show 0 ≤ 63; omega) (fun z22193 h22194 => ?_)
  have h22194 : 0 ≤ z22193.toInt ∧ z22193.toInt ≤ 63 := h22194
  exact ret _ _ _ _ _ _ dJ6_bitCount_0f7a4_52 rfl (by decide) (by decide) ⟨rfl, (by omega)⟩
theorem dX11_lowestPlace_9 : decode cX11_lowestPlace 9 = .ok (.ireturn, 1) := by decide +kernel
set_option maxHeartbeats 4000000 in
set_option maxRecDepth 100000 in
theorem s_X11_lowestPlace {P : PP} {a0 : Int32} (I : IV P) : CtrI yX11_lowestPlace cX11_lowestPlace 1 (some Jvm.ClassFile.FieldType.int) ({ frames := 2, cells := 0, slots := 0, locals := 128 } : Room) 0 0 P [.int a0] (fun r P2 => P = P2 ∧ (0 ≤ r.toInt ∧ r.toInt ≤ 63)) := by
  refine enI (lv := [(0, .int a0)]) (by decide) (Nat.le_of_ble_eq_true rfl) rfl (fun E D cy C Ci0 ret => ?_)
  refine g_iload_n C dX11_lowestPlace_0 rfl 0 rfl ?_
  refine g_iload_n C dX11_lowestPlace_1 rfl 0 rfl ?_
  refine a_ineg C dX11_lowestPlace_2 (fun z22203 => ?_)
  refine a_iand C dX11_lowestPlace_3 (fun z22204 => ?_)
  refine g_iconst (v := 1) C dX11_lowestPlace_4 (by decide) ?_
  refine a_isub C dX11_lowestPlace_5 (fun z22206 => ?_)
  refine g_callSI (b := 0) (ci := 0) (rest := []) C ms_X11_150 [.int z22206] (s_J6_bitCount_0f7a4 I) rfl rfl (by decide) (Nat.le_of_ble_eq_true rfl) (by decide) dX11_lowestPlace_6 (fun r22208 Y22209 h22210 => ?_)
  obtain ⟨rfl, h22210⟩ := h22210
  have h22210 : 0 ≤ r22208.toInt ∧ r22208.toInt ≤ 63 := h22210
  exact ret _ _ _ _ _ _ dX11_lowestPlace_9 rfl (by decide) (by decide) ⟨rfl, (by omega)⟩
theorem dX5_fewestGuarding_17 : decode cX5_fewestGuarding 17 = .ok (.istore 4, 2) := by decide +kernel
theorem dX5_fewestGuarding_19 : decode cX5_fewestGuarding 19 = .ok (.aload_n 1, 1) := by decide +kernel
theorem dX5_fewestGuarding_20 : decode cX5_fewestGuarding 20 = .ok (.getfield 43, 3) := by decide +kernel
theorem dX5_fewestGuarding_23 : decode cX5_fewestGuarding 23 = .ok (.iconst 1, 1) := by decide +kernel
theorem dX5_fewestGuarding_24 : decode cX5_fewestGuarding 24 = .ok (.isub, 1) := by decide +kernel
theorem dX5_fewestGuarding_25 : decode cX5_fewestGuarding 25 = .ok (.istore 5, 2) := by decide +kernel
theorem dX5_fewestGuarding_27 : decode cX5_fewestGuarding 27 = .ok (.iload 4, 2) := by decide +kernel
theorem dX5_fewestGuarding_29 : decode cX5_fewestGuarding 29 = .ok (.iload 5, 2) := by decide +kernel
theorem dX5_fewestGuarding_31 : decode cX5_fewestGuarding 31 = .ok (.if_icmp .gt 10, 3) := by decide +kernel
theorem dX5_fewestGuarding_34 : decode cX5_fewestGuarding 34 = .ok (.iload 5, 2) := by decide +kernel
theorem dX5_fewestGuarding_36 : decode cX5_fewestGuarding 36 = .ok (.bipush 16, 2) := by decide +kernel
theorem dX5_fewestGuarding_38 : decode cX5_fewestGuarding 38 = .ok (.if_icmp .lt 5, 3) := by decide +kernel
theorem dX5_fewestGuarding_41 : decode cX5_fewestGuarding 41 = .ok (.iconst (-1), 1) := by decide +kernel
theorem dX5_fewestGuarding_42 : decode cX5_fewestGuarding 42 = .ok (.ireturn, 1) := by decide +kernel
theorem dX5_fewestGuarding_43 : decode cX5_fewestGuarding 43 = .ok (.aload_n 0, 1) := by decide +kernel
theorem dX5_fewestGuarding_44 : decode cX5_fewestGuarding 44 = .ok (.getfield 21, 3) := by decide +kernel
theorem dX5_fewestGuarding_47 : decode cX5_fewestGuarding 47 = .ok (.iload 4, 2) := by decide +kernel
theorem dX5_fewestGuarding_49 : decode cX5_fewestGuarding 49 = .ok (.laload, 1) := by decide +kernel
theorem dX5_fewestGuarding_50 : decode cX5_fewestGuarding 50 = .ok (.lstore 6, 2) := by decide +kernel
theorem dX5_fewestGuarding_52 : decode cX5_fewestGuarding 52 = .ok (.iconst 0, 1) := by decide +kernel
theorem dX5_fewestGuarding_53 : decode cX5_fewestGuarding 53 = .ok (.istore 8, 2) := by decide +kernel
theorem dX5_fewestGuarding_55 : decode cX5_fewestGuarding 55 = .ok (.iload 8, 2) := by decide +kernel
theorem dX5_fewestGuarding_57 : decode cX5_fewestGuarding 57 = .ok (.iload 5, 2) := by decide +kernel
theorem dX5_fewestGuarding_59 : decode cX5_fewestGuarding 59 = .ok (.if_icmp .gt 37, 3) := by decide +kernel
theorem dX5_fewestGuarding_62 : decode cX5_fewestGuarding 62 = .ok (.iload 8, 2) := by decide +kernel
theorem dX5_fewestGuarding_64 : decode cX5_fewestGuarding 64 = .ok (.iload 4, 2) := by decide +kernel
theorem dX5_fewestGuarding_66 : decode cX5_fewestGuarding 66 = .ok (.if_icmp .eq 24, 3) := by decide +kernel
theorem dX5_fewestGuarding_69 : decode cX5_fewestGuarding 69 = .ok (.iload_n 3, 1) := by decide +kernel
theorem dX5_fewestGuarding_70 : decode cX5_fewestGuarding 70 = .ok (.iload 8, 2) := by decide +kernel
theorem dX5_fewestGuarding_72 : decode cX5_fewestGuarding 72 = .ok (.ishr, 1) := by decide +kernel
theorem dX5_fewestGuarding_73 : decode cX5_fewestGuarding 73 = .ok (.iconst 1, 1) := by decide +kernel
theorem dX5_fewestGuarding_74 : decode cX5_fewestGuarding 74 = .ok (.iand, 1) := by decide +kernel
theorem dX5_fewestGuarding_75 : decode cX5_fewestGuarding 75 = .ok (.ifCond .eq 15, 3) := by decide +kernel
theorem dX5_fewestGuarding_78 : decode cX5_fewestGuarding 78 = .ok (.aload_n 0, 1) := by decide +kernel
theorem dX5_fewestGuarding_79 : decode cX5_fewestGuarding 79 = .ok (.getfield 21, 3) := by decide +kernel
theorem dX5_fewestGuarding_82 : decode cX5_fewestGuarding 82 = .ok (.iload 8, 2) := by decide +kernel
theorem dX5_fewestGuarding_84 : decode cX5_fewestGuarding 84 = .ok (.dup2, 1) := by decide +kernel
theorem dX5_fewestGuarding_85 : decode cX5_fewestGuarding 85 = .ok (.laload, 1) := by decide +kernel
theorem dX5_fewestGuarding_86 : decode cX5_fewestGuarding 86 = .ok (.lload 6, 2) := by decide +kernel
theorem dX5_fewestGuarding_88 : decode cX5_fewestGuarding 88 = .ok (.lxor, 1) := by decide +kernel
theorem dX5_fewestGuarding_89 : decode cX5_fewestGuarding 89 = .ok (.lastore, 1) := by decide +kernel
theorem dX5_fewestGuarding_90 : decode cX5_fewestGuarding 90 = .ok (.iinc 8 1, 3) := by decide +kernel
theorem dX5_fewestGuarding_93 : decode cX5_fewestGuarding 93 = .ok (.goto (-38), 3) := by decide +kernel
theorem dX5_fewestGuarding_96 : decode cX5_fewestGuarding 96 = .ok (.aload_n 0, 1) := by decide +kernel
theorem dX5_fewestGuarding_97 : decode cX5_fewestGuarding 97 = .ok (.getfield 21, 3) := by decide +kernel
theorem dX5_fewestGuarding_100 : decode cX5_fewestGuarding 100 = .ok (.iload 4, 2) := by decide +kernel
theorem dX5_fewestGuarding_102 : decode cX5_fewestGuarding 102 = .ok (.aload_n 0, 1) := by decide +kernel
theorem dX5_fewestGuarding_103 : decode cX5_fewestGuarding 103 = .ok (.getfield 21, 3) := by decide +kernel
theorem dX5_fewestGuarding_106 : decode cX5_fewestGuarding 106 = .ok (.iload 5, 2) := by decide +kernel
theorem dX5_fewestGuarding_108 : decode cX5_fewestGuarding 108 = .ok (.laload, 1) := by decide +kernel
theorem dX5_fewestGuarding_109 : decode cX5_fewestGuarding 109 = .ok (.lastore, 1) := by decide +kernel
theorem dX5_fewestGuarding_110 : decode cX5_fewestGuarding 110 = .ok (.aload_n 0, 1) := by decide +kernel
theorem dX5_fewestGuarding_111 : decode cX5_fewestGuarding 111 = .ok (.lload 6, 2) := by decide +kernel
theorem dX5_fewestGuarding_113 : decode cX5_fewestGuarding 113 = .ok (.iload 5, 2) := by decide +kernel
theorem dX5_fewestGuarding_115 : decode cX5_fewestGuarding 115 = .ok (.invokevirtual 80, 3) := by decide +kernel
theorem dX5_fewestTouched_0 : decode cX5_fewestTouched 0 = .ok (.lload_n 1, 1) := by decide +kernel
theorem dX5_fewestTouched_1 : decode cX5_fewestTouched 1 = .ok (.lstore 4, 2) := by decide +kernel
theorem dX5_fewestTouched_3 : decode cX5_fewestTouched 3 = .ok (.lload 4, 2) := by decide +kernel
theorem dX5_fewestTouched_5 : decode cX5_fewestTouched 5 = .ok (.invokestatic 84, 3) := by decide +kernel
theorem dJ13_bitCount_95d88_0 : decode cJ13_bitCount_95d88 0 = .ok (.lload_n 0, 1) := by decide +kernel
theorem dJ13_bitCount_95d88_1 : decode cJ13_bitCount_95d88 1 = .ok (.lload_n 0, 1) := by decide +kernel
theorem dJ13_bitCount_95d88_2 : decode cJ13_bitCount_95d88 2 = .ok (.iconst 1, 1) := by decide +kernel
theorem dJ13_bitCount_95d88_3 : decode cJ13_bitCount_95d88 3 = .ok (.lushr, 1) := by decide +kernel
theorem dJ13_bitCount_95d88_4 : decode cJ13_bitCount_95d88 4 = .ok (.ldc2_w 314, 3) := by decide +kernel
theorem dJ13_bitCount_95d88_7 : decode cJ13_bitCount_95d88 7 = .ok (.land, 1) := by decide +kernel
theorem dJ13_bitCount_95d88_8 : decode cJ13_bitCount_95d88 8 = .ok (.lsub, 1) := by decide +kernel
theorem dJ13_bitCount_95d88_9 : decode cJ13_bitCount_95d88 9 = .ok (.lstore_n 0, 1) := by decide +kernel
theorem dJ13_bitCount_95d88_10 : decode cJ13_bitCount_95d88 10 = .ok (.lload_n 0, 1) := by decide +kernel
theorem dJ13_bitCount_95d88_11 : decode cJ13_bitCount_95d88 11 = .ok (.ldc2_w 316, 3) := by decide +kernel
theorem dJ13_bitCount_95d88_14 : decode cJ13_bitCount_95d88 14 = .ok (.land, 1) := by decide +kernel
theorem dJ13_bitCount_95d88_15 : decode cJ13_bitCount_95d88 15 = .ok (.lload_n 0, 1) := by decide +kernel
theorem dJ13_bitCount_95d88_16 : decode cJ13_bitCount_95d88 16 = .ok (.iconst 2, 1) := by decide +kernel
theorem dJ13_bitCount_95d88_17 : decode cJ13_bitCount_95d88 17 = .ok (.lushr, 1) := by decide +kernel
theorem dJ13_bitCount_95d88_18 : decode cJ13_bitCount_95d88 18 = .ok (.ldc2_w 316, 3) := by decide +kernel
theorem dJ13_bitCount_95d88_21 : decode cJ13_bitCount_95d88 21 = .ok (.land, 1) := by decide +kernel
theorem dJ13_bitCount_95d88_22 : decode cJ13_bitCount_95d88 22 = .ok (.ladd, 1) := by decide +kernel
theorem dJ13_bitCount_95d88_23 : decode cJ13_bitCount_95d88 23 = .ok (.lstore_n 0, 1) := by decide +kernel
theorem dJ13_bitCount_95d88_24 : decode cJ13_bitCount_95d88 24 = .ok (.lload_n 0, 1) := by decide +kernel
theorem dJ13_bitCount_95d88_25 : decode cJ13_bitCount_95d88 25 = .ok (.lload_n 0, 1) := by decide +kernel
theorem dJ13_bitCount_95d88_26 : decode cJ13_bitCount_95d88 26 = .ok (.iconst 4, 1) := by decide +kernel
theorem dJ13_bitCount_95d88_27 : decode cJ13_bitCount_95d88 27 = .ok (.lushr, 1) := by decide +kernel
theorem dJ13_bitCount_95d88_28 : decode cJ13_bitCount_95d88 28 = .ok (.ladd, 1) := by decide +kernel
theorem dJ13_bitCount_95d88_29 : decode cJ13_bitCount_95d88 29 = .ok (.ldc2_w 318, 3) := by decide +kernel
theorem dJ13_bitCount_95d88_32 : decode cJ13_bitCount_95d88 32 = .ok (.land, 1) := by decide +kernel
theorem dJ13_bitCount_95d88_33 : decode cJ13_bitCount_95d88 33 = .ok (.lstore_n 0, 1) := by decide +kernel
theorem dJ13_bitCount_95d88_34 : decode cJ13_bitCount_95d88 34 = .ok (.lload_n 0, 1) := by decide +kernel
theorem dJ13_bitCount_95d88_35 : decode cJ13_bitCount_95d88 35 = .ok (.lload_n 0, 1) := by decide +kernel
theorem dJ13_bitCount_95d88_36 : decode cJ13_bitCount_95d88 36 = .ok (.bipush 8, 2) := by decide +kernel
theorem dJ13_bitCount_95d88_38 : decode cJ13_bitCount_95d88 38 = .ok (.lushr, 1) := by decide +kernel
theorem dJ13_bitCount_95d88_39 : decode cJ13_bitCount_95d88 39 = .ok (.ladd, 1) := by decide +kernel
theorem dJ13_bitCount_95d88_40 : decode cJ13_bitCount_95d88 40 = .ok (.lstore_n 0, 1) := by decide +kernel
theorem dJ13_bitCount_95d88_41 : decode cJ13_bitCount_95d88 41 = .ok (.lload_n 0, 1) := by decide +kernel
theorem dJ13_bitCount_95d88_42 : decode cJ13_bitCount_95d88 42 = .ok (.lload_n 0, 1) := by decide +kernel
theorem dJ13_bitCount_95d88_43 : decode cJ13_bitCount_95d88 43 = .ok (.bipush 16, 2) := by decide +kernel
theorem dJ13_bitCount_95d88_45 : decode cJ13_bitCount_95d88 45 = .ok (.lushr, 1) := by decide +kernel
theorem dJ13_bitCount_95d88_46 : decode cJ13_bitCount_95d88 46 = .ok (.ladd, 1) := by decide +kernel
theorem dJ13_bitCount_95d88_47 : decode cJ13_bitCount_95d88 47 = .ok (.lstore_n 0, 1) := by decide +kernel
theorem dJ13_bitCount_95d88_48 : decode cJ13_bitCount_95d88 48 = .ok (.lload_n 0, 1) := by decide +kernel
theorem dJ13_bitCount_95d88_49 : decode cJ13_bitCount_95d88 49 = .ok (.lload_n 0, 1) := by decide +kernel
theorem dJ13_bitCount_95d88_50 : decode cJ13_bitCount_95d88 50 = .ok (.bipush 32, 2) := by decide +kernel
theorem dJ13_bitCount_95d88_52 : decode cJ13_bitCount_95d88 52 = .ok (.lushr, 1) := by decide +kernel
theorem dJ13_bitCount_95d88_53 : decode cJ13_bitCount_95d88 53 = .ok (.ladd, 1) := by decide +kernel
theorem dJ13_bitCount_95d88_54 : decode cJ13_bitCount_95d88 54 = .ok (.lstore_n 0, 1) := by decide +kernel
theorem dJ13_bitCount_95d88_55 : decode cJ13_bitCount_95d88 55 = .ok (.lload_n 0, 1) := by decide +kernel
theorem dJ13_bitCount_95d88_56 : decode cJ13_bitCount_95d88 56 = .ok (.l2i, 1) := by decide +kernel
theorem dJ13_bitCount_95d88_57 : decode cJ13_bitCount_95d88 57 = .ok (.bipush 127, 2) := by decide +kernel
theorem dJ13_bitCount_95d88_59 : decode cJ13_bitCount_95d88 59 = .ok (.iand, 1) := by decide +kernel
theorem dJ13_bitCount_95d88_60 : decode cJ13_bitCount_95d88 60 = .ok (.ireturn, 1) := by decide +kernel
set_option maxHeartbeats 4000000 in
set_option maxRecDepth 100000 in
theorem s_J13_bitCount_95d88 {P : PP} {a0 : Int64} (I : IV P) : CtrI yJ13_bitCount_95d88 cJ13_bitCount_95d88 2 (some Jvm.ClassFile.FieldType.int) ({ frames := 1, cells := 0, slots := 0, locals := 64 } : Room) 0 0 P [.long a0] (fun r P2 => P = P2 ∧ (0 ≤ r.toInt ∧ r.toInt ≤ 127)) := by
  refine enI (lv := [(0, .long a0)]) (by decide) (Nat.le_of_ble_eq_true rfl) rfl (fun E D cy C Ci0 ret => ?_)
  refine g_lload_n C dJ13_bitCount_95d88_0 rfl 0 rfl ?_
  refine g_lload_n C dJ13_bitCount_95d88_1 rfl 0 rfl ?_
  refine g_iconst (v := 1) C dJ13_bitCount_95d88_2 (by decide) ?_
  refine a_lushr C dJ13_bitCount_95d88_3 (fun l22298 => ?_)
  refine g_ldc2 (v := 6148914691236517205) C kl_J13_314 dJ13_bitCount_95d88_4 ?_
  refine g_topl (fun l22299 _ => ?_)
  refine a_land C dJ13_bitCount_95d88_7 (fun l22300 => ?_)
  refine a_lsub C dJ13_bitCount_95d88_8 (fun l22301 => ?_)
  refine g_lstore_n (lv' := [(0, .long l22301)]) C dJ13_bitCount_95d88_9 rfl (by decide) rfl ?_
  refine g_lload_n C dJ13_bitCount_95d88_10 rfl 0 rfl ?_
  refine g_ldc2 (v := 3689348814741910323) C kl_J13_316 dJ13_bitCount_95d88_11 ?_
  refine g_topl (fun l22302 _ => ?_)
  refine a_land C dJ13_bitCount_95d88_14 (fun l22303 => ?_)
  refine g_lload_n C dJ13_bitCount_95d88_15 rfl 0 rfl ?_
  refine g_iconst (v := 2) C dJ13_bitCount_95d88_16 (by decide) ?_
  refine a_lushr C dJ13_bitCount_95d88_17 (fun l22304 => ?_)
  refine g_ldc2 (v := 3689348814741910323) C kl_J13_316 dJ13_bitCount_95d88_18 ?_
  refine g_topl (fun l22305 _ => ?_)
  refine a_land C dJ13_bitCount_95d88_21 (fun l22306 => ?_)
  refine a_ladd C dJ13_bitCount_95d88_22 (fun l22307 => ?_)
  refine g_lstore_n (lv' := [(0, .long l22307)]) C dJ13_bitCount_95d88_23 rfl (by decide) rfl ?_
  refine g_lload_n C dJ13_bitCount_95d88_24 rfl 0 rfl ?_
  refine g_lload_n C dJ13_bitCount_95d88_25 rfl 0 rfl ?_
  refine g_iconst (v := 4) C dJ13_bitCount_95d88_26 (by decide) ?_
  refine a_lushr C dJ13_bitCount_95d88_27 (fun l22308 => ?_)
  refine a_ladd C dJ13_bitCount_95d88_28 (fun l22309 => ?_)
  refine g_ldc2 (v := 1085102592571150095) C kl_J13_318 dJ13_bitCount_95d88_29 ?_
  refine g_topl (fun l22310 _ => ?_)
  refine a_land C dJ13_bitCount_95d88_32 (fun l22311 => ?_)
  refine g_lstore_n (lv' := [(0, .long l22311)]) C dJ13_bitCount_95d88_33 rfl (by decide) rfl ?_
  refine g_lload_n C dJ13_bitCount_95d88_34 rfl 0 rfl ?_
  refine g_lload_n C dJ13_bitCount_95d88_35 rfl 0 rfl ?_
  refine g_bipush (v := 8) C dJ13_bitCount_95d88_36 (by decide) ?_
  refine a_lushr C dJ13_bitCount_95d88_38 (fun l22312 => ?_)
  refine a_ladd C dJ13_bitCount_95d88_39 (fun l22313 => ?_)
  refine g_lstore_n (lv' := [(0, .long l22313)]) C dJ13_bitCount_95d88_40 rfl (by decide) rfl ?_
  refine g_lload_n C dJ13_bitCount_95d88_41 rfl 0 rfl ?_
  refine g_lload_n C dJ13_bitCount_95d88_42 rfl 0 rfl ?_
  refine g_bipush (v := 16) C dJ13_bitCount_95d88_43 (by decide) ?_
  refine a_lushr C dJ13_bitCount_95d88_45 (fun l22314 => ?_)
  refine a_ladd C dJ13_bitCount_95d88_46 (fun l22315 => ?_)
  refine g_lstore_n (lv' := [(0, .long l22315)]) C dJ13_bitCount_95d88_47 rfl (by decide) rfl ?_
  refine g_lload_n C dJ13_bitCount_95d88_48 rfl 0 rfl ?_
  refine g_lload_n C dJ13_bitCount_95d88_49 rfl 0 rfl ?_
  refine g_bipush (v := 32) C dJ13_bitCount_95d88_50 (by decide) ?_
  refine a_lushr C dJ13_bitCount_95d88_52 (fun l22316 => ?_)
  refine a_ladd C dJ13_bitCount_95d88_53 (fun l22317 => ?_)
  refine g_lstore_n (lv' := [(0, .long l22317)]) C dJ13_bitCount_95d88_54 rfl (by decide) rfl ?_
  refine g_lload_n C dJ13_bitCount_95d88_55 rfl 0 rfl ?_
  refine a_l2i C dJ13_bitCount_95d88_56 (fun z22318 => ?_)
  refine g_bipush (v := 127) C dJ13_bitCount_95d88_57 (by decide) ?_
  refine s_iand C dJ13_bitCount_95d88_59 (by show 0 ≤ 127; omega) (fun z22319 h22320 => ?_)
  have h22320 : 0 ≤ z22319.toInt ∧ z22319.toInt ≤ 127 := h22320
  exact ret _ _ _ _ _ _ dJ13_bitCount_95d88_60 rfl (by decide) (by decide) ⟨rfl, (by omega)⟩
theorem dX5_fewestTouched_8 : decode cX5_fewestTouched 8 = .ok (.istore 6, 2) := by decide +kernel
theorem dX5_fewestTouched_10 : decode cX5_fewestTouched 10 = .ok (.iconst 1, 1) := by decide +kernel
theorem dX5_fewestTouched_11 : decode cX5_fewestTouched 11 = .ok (.istore 7, 2) := by decide +kernel
theorem dX5_fewestTouched_13 : decode cX5_fewestTouched 13 = .ok (.iload 7, 2) := by decide +kernel
theorem dX5_fewestTouched_15 : decode cX5_fewestTouched 15 = .ok (.iconst 1, 1) := by decide +kernel
theorem dX5_fewestTouched_16 : decode cX5_fewestTouched 16 = .ok (.iload_n 3, 1) := by decide +kernel
theorem dX5_fewestTouched_17 : decode cX5_fewestTouched 17 = .ok (.ishl, 1) := by decide +kernel
theorem dX5_fewestTouched_18 : decode cX5_fewestTouched 18 = .ok (.if_icmp .ge 42, 3) := by decide +kernel
theorem dX5_fewestTouched_21 : decode cX5_fewestTouched 21 = .ok (.iload 6, 2) := by decide +kernel
theorem dX5_fewestTouched_23 : decode cX5_fewestTouched 23 = .ok (.iconst 1, 1) := by decide +kernel
theorem dX5_fewestTouched_24 : decode cX5_fewestTouched 24 = .ok (.if_icmp .le 36, 3) := by decide +kernel
theorem dX5_fewestTouched_27 : decode cX5_fewestTouched 27 = .ok (.lload 4, 2) := by decide +kernel
theorem dX5_fewestTouched_29 : decode cX5_fewestTouched 29 = .ok (.aload_n 0, 1) := by decide +kernel
theorem dX5_fewestTouched_30 : decode cX5_fewestTouched 30 = .ok (.getfield 21, 3) := by decide +kernel
theorem dX5_fewestTouched_33 : decode cX5_fewestTouched 33 = .ok (.iload 7, 2) := by decide +kernel
theorem dX5_fewestTouched_35 : decode cX5_fewestTouched 35 = .ok (.invokestatic 62, 3) := by decide +kernel
theorem dX5_fewestTouched_38 : decode cX5_fewestTouched 38 = .ok (.laload, 1) := by decide +kernel
theorem dX11_housesServed_0 : decode cX11_housesServed 0 = .ok (.iconst 0, 1) := by decide +kernel
theorem dX11_housesServed_1 : decode cX11_housesServed 1 = .ok (.istore_n 2, 1) := by decide +kernel
theorem dX11_housesServed_2 : decode cX11_housesServed 2 = .ok (.iconst 0, 1) := by decide +kernel
theorem dX11_housesServed_3 : decode cX11_housesServed 3 = .ok (.istore_n 3, 1) := by decide +kernel
theorem dX11_housesServed_4 : decode cX11_housesServed 4 = .ok (.iload_n 3, 1) := by decide +kernel
theorem dX11_housesServed_5 : decode cX11_housesServed 5 = .ok (.iconst 4, 1) := by decide +kernel
theorem dX11_housesServed_6 : decode cX11_housesServed 6 = .ok (.if_icmp .ge 38, 3) := by decide +kernel
theorem dX11_housesServed_9 : decode cX11_housesServed 9 = .ok (.aload_n 0, 1) := by decide +kernel
theorem dX11_housesServed_10 : decode cX11_housesServed 10 = .ok (.getfield 35, 3) := by decide +kernel
theorem dX11_housesServed_13 : decode cX11_housesServed 13 = .ok (.iload_n 3, 1) := by decide +kernel
theorem dX11_housesServed_14 : decode cX11_housesServed 14 = .ok (.iaload, 1) := by decide +kernel
theorem dX11_housesServed_15 : decode cX11_housesServed 15 = .ok (.iconst (-1), 1) := by decide +kernel
theorem dX11_housesServed_16 : decode cX11_housesServed 16 = .ok (.if_icmp .eq 22, 3) := by decide +kernel
theorem dX11_housesServed_19 : decode cX11_housesServed 19 = .ok (.aload_n 0, 1) := by decide +kernel
theorem dX11_housesServed_20 : decode cX11_housesServed 20 = .ok (.getfield 35, 3) := by decide +kernel
theorem dX11_housesServed_23 : decode cX11_housesServed 23 = .ok (.iload_n 3, 1) := by decide +kernel
theorem dX11_housesServed_24 : decode cX11_housesServed 24 = .ok (.iaload, 1) := by decide +kernel
theorem dX11_housesServed_25 : decode cX11_housesServed 25 = .ok (.iload_n 1, 1) := by decide +kernel
theorem dX11_housesServed_26 : decode cX11_housesServed 26 = .ok (.if_icmp .gt 12, 3) := by decide +kernel
theorem dX11_housesServed_29 : decode cX11_housesServed 29 = .ok (.iload_n 2, 1) := by decide +kernel
theorem dX11_housesServed_30 : decode cX11_housesServed 30 = .ok (.aload_n 0, 1) := by decide +kernel
theorem dX11_housesServed_31 : decode cX11_housesServed 31 = .ok (.getfield 32, 3) := by decide +kernel
theorem dX11_housesServed_34 : decode cX11_housesServed 34 = .ok (.iload_n 3, 1) := by decide +kernel
theorem dX11_housesServed_35 : decode cX11_housesServed 35 = .ok (.iaload, 1) := by decide +kernel
theorem dX11_housesServed_36 : decode cX11_housesServed 36 = .ok (.iadd, 1) := by decide +kernel
theorem dX11_housesServed_37 : decode cX11_housesServed 37 = .ok (.istore_n 2, 1) := by decide +kernel
theorem dX11_housesServed_38 : decode cX11_housesServed 38 = .ok (.iinc 3 1, 3) := by decide +kernel
theorem dX11_housesServed_41 : decode cX11_housesServed 41 = .ok (.goto (-37), 3) := by decide +kernel
theorem dX11_housesServed_44 : decode cX11_housesServed 44 = .ok (.iload_n 2, 1) := by decide +kernel
theorem dX11_housesServed_45 : decode cX11_housesServed 45 = .ok (.ireturn, 1) := by decide +kernel
set_option maxHeartbeats 4000000 in
set_option maxRecDepth 100000 in
theorem s_X11_housesServed {P : PP} {a0 : Nat} {a1 : Int32} (I : IV P) (ha0 : At P a0 11) : CtrI yX11_housesServed cX11_housesServed 4 (some Jvm.ClassFile.FieldType.int) ({ frames := 1, cells := 0, slots := 0, locals := 64 } : Room) 0 0 P [.ref a0, .int a1] (fun r P2 => P = P2 ∧ (True)) := by
  refine enI (lv := [(0, .ref a0), (1, .int a1)]) (by decide) (Nat.le_of_ble_eq_true rfl) rfl (fun E D cy C Ci0 ret => ?_)
  have J4 : ∀ (n4 : Nat) (v4_2 : Int32) (v4_3 : Int32), (4 - v4_3.toInt).toNat < n4 → (0 ≤ v4_3.toInt ∧ v4_3.toInt ≤ 4) → G E ({ frames := 1, cells := 0, slots := 0, locals := 64 } : Room) D cy 4 P 0 0 4 [(0, .ref a0), (1, .int a1), (2, .int v4_2), (3, .int v4_3)] [] := by
    intro n4
    induction n4 with
    | zero => intro v4_2 v4_3 hm4 hv4_3; omega
    | succ n4 ih4 =>
      intro v4_2 v4_3 hm4 hv4_3
      have J38 : ∀ (v38_2 : Int32), (0 ≤ v4_3.toInt ∧ v4_3.toInt ≤ 3) → G E ({ frames := 1, cells := 0, slots := 0, locals := 64 } : Room) D cy 4 P 0 0 38 [(0, .ref a0), (1, .int a1), (2, .int v38_2), (3, .int v4_3)] [] := by
        intro v38_2 hv38_3
        refine s_iinc (lv0 := [(0, .ref a0), (1, .int a1), (2, .int v38_2)]) (m := 1) C dX11_housesServed_38 3 rfl (by decide) rfl (by decide) (by omega) (fun z22428 h22429 => ?_)
        have h22429 : z22428.toInt = v4_3.toInt + 1 := h22429
        refine g_goto C 4 dX11_housesServed_41 (by decide) ?_
        refine g_lv (lv' := [(0, .ref a0), (1, .int a1), (2, .int v38_2), (3, .int z22428)]) [1, 2, 3, 0] rfl ?_
        exact ih4 v38_2 z22428 (by omega) (by omega)
      refine g_iload_n C dX11_housesServed_4 rfl 3 rfl ?_
      refine g_iconst (v := 4) C dX11_housesServed_5 (by decide) ?_
      refine b_icmp_ge C 44 dX11_housesServed_6 (by decide) (fun h22430 => ?_) (fun h22430 => ?_)
      · have h22430 : 4 ≤ v4_3.toInt := h22430
        refine g_iload_n C dX11_housesServed_44 rfl 2 rfl ?_
        exact ret _ _ _ _ _ _ dX11_housesServed_45 rfl (by decide) (by decide) ⟨rfl, trivial⟩
      · have h22430 : v4_3.toInt < 4 := h22430
        refine g_aload_n C dX11_housesServed_9 rfl 0 rfl ?_
        obtain ⟨b22431, e22432, h22433⟩ := I.fld (ha0) 6 13 4 rfl
        refine g_getR C fi_X11_35 rfl e22432 (ha0).1 (ha0).2 dX11_housesServed_10 ?_
        refine g_iload_n C dX11_housesServed_13 rfl 3 rfl ?_
        refine g_iald (j := (v4_3.toInt.toNat)) C h22433.1 h22433.2.1 (ix_in h22433.2.2 (by omega)) dX11_housesServed_14 ?_
        refine g_topi (fun z22434 _ => ?_)
        refine g_iconst (v := (-1)) C dX11_housesServed_15 (by decide) ?_
        have u22436 := ti_rng z22434
        refine b_icmp_eq C 38 dX11_housesServed_16 (by decide) (fun h22435 => ?_) (fun h22435 => ?_)
        · have h22435 : z22434.toInt = (-1) := congrArg Int32.toInt h22435
          exact J38 v4_2 (by omega)
        · have h22435 : z22434.toInt ≠ (-1) := ti_ne h22435
          refine g_aload_n C dX11_housesServed_19 rfl 0 rfl ?_
          refine g_getR C fi_X11_35 rfl e22432 (ha0).1 (ha0).2 dX11_housesServed_20 ?_
          refine g_iload_n C dX11_housesServed_23 rfl 3 rfl ?_
          refine g_iald (j := (v4_3.toInt.toNat)) C h22433.1 h22433.2.1 (ix_in h22433.2.2 (by omega)) dX11_housesServed_24 ?_
          refine g_topi (fun z22437 _ => ?_)
          refine g_iload_n C dX11_housesServed_25 rfl 1 rfl ?_
          have u22439 := ti_rng z22437
          have u22440 := ti_rng a1
          refine b_icmp_gt C 38 dX11_housesServed_26 (by decide) (fun h22438 => ?_) (fun h22438 => ?_)
          · have h22438 : a1.toInt < z22437.toInt := h22438
            exact J38 v4_2 (by omega)
          · have h22438 : z22437.toInt ≤ a1.toInt := h22438
            refine g_iload_n C dX11_housesServed_29 rfl 2 rfl ?_
            refine g_aload_n C dX11_housesServed_30 rfl 0 rfl ?_
            obtain ⟨b22441, e22442, h22443⟩ := I.fld (ha0) 5 13 4 rfl
            refine g_getR C fi_X11_32 rfl e22442 (ha0).1 (ha0).2 dX11_housesServed_31 ?_
            refine g_iload_n C dX11_housesServed_34 rfl 3 rfl ?_
            refine g_iald (j := (v4_3.toInt.toNat)) C h22443.1 h22443.2.1 (ix_in h22443.2.2 (by omega)) dX11_housesServed_35 ?_
            refine g_topi (fun z22444 _ => ?_)
            refine a_iadd C dX11_housesServed_36 (fun z22445 => ?_)
            refine g_istore_n (lv' := [(2, .int z22445), (0, .ref a0), (1, .int a1), (3, .int v4_3)]) C dX11_housesServed_37 rfl (by decide) rfl ?_
            refine g_lv (lv' := [(0, .ref a0), (1, .int a1), (2, .int z22445), (3, .int v4_3)]) [1, 2, 0, 3] rfl ?_
            exact J38 z22445 (by omega)
  refine g_iconst (v := 0) C dX11_housesServed_0 (by decide) ?_
  refine g_istore_n (lv' := [(2, .int 0), (0, .ref a0), (1, .int a1)]) C dX11_housesServed_1 rfl (by decide) rfl ?_
  refine g_iconst (v := 0) C dX11_housesServed_2 (by decide) ?_
  refine g_istore_n (lv' := [(3, .int 0), (2, .int 0), (0, .ref a0), (1, .int a1)]) C dX11_housesServed_3 rfl (by decide) rfl ?_
  refine g_lv (lv' := [(0, .ref a0), (1, .int a1), (2, .int 0), (3, .int 0)]) [2, 3, 1, 0] rfl ?_
  exact J4 _ 0 0 (Nat.lt_succ_self _) (by decide)
theorem dX11_init_0 : decode cX11_init 0 = .ok (.aload_n 0, 1) := by decide +kernel
theorem dX11_init_1 : decode cX11_init 1 = .ok (.invokespecial 3, 3) := by decide +kernel
theorem dX11_init_4 : decode cX11_init 4 = .ok (.aload_n 0, 1) := by decide +kernel
theorem dX11_init_5 : decode cX11_init 5 = .ok (.iconst 2, 1) := by decide +kernel
theorem dX11_init_6 : decode cX11_init 6 = .ok (.anewarray 9, 3) := by decide +kernel
theorem dX11_isRoomAnywhere_0 : decode cX11_isRoomAnywhere 0 = .ok (.iconst 0, 1) := by decide +kernel
theorem dX11_isRoomAnywhere_1 : decode cX11_isRoomAnywhere 1 = .ok (.istore_n 1, 1) := by decide +kernel
theorem dX11_isRoomAnywhere_2 : decode cX11_isRoomAnywhere 2 = .ok (.iload_n 1, 1) := by decide +kernel
theorem dX11_isRoomAnywhere_3 : decode cX11_isRoomAnywhere 3 = .ok (.iconst 4, 1) := by decide +kernel
theorem dX11_isRoomAnywhere_4 : decode cX11_isRoomAnywhere 4 = .ok (.if_icmp .ge 25, 3) := by decide +kernel
theorem dX11_isRoomAnywhere_7 : decode cX11_isRoomAnywhere 7 = .ok (.aload_n 0, 1) := by decide +kernel
theorem dX11_isRoomAnywhere_8 : decode cX11_isRoomAnywhere 8 = .ok (.getfield 17, 3) := by decide +kernel
theorem dX11_isRoomAnywhere_11 : decode cX11_isRoomAnywhere 11 = .ok (.iload_n 1, 1) := by decide +kernel
theorem dX11_isRoomAnywhere_12 : decode cX11_isRoomAnywhere 12 = .ok (.aaload, 1) := by decide +kernel
theorem dX11_isRoomAnywhere_13 : decode cX11_isRoomAnywhere 13 = .ok (.getfield 336, 3) := by decide +kernel
theorem dX11_isRoomAnywhere_16 : decode cX11_isRoomAnywhere 16 = .ok (.bipush 40, 2) := by decide +kernel
theorem dX11_isRoomAnywhere_18 : decode cX11_isRoomAnywhere 18 = .ok (.if_icmp .ge 5, 3) := by decide +kernel
theorem dX11_isRoomAnywhere_21 : decode cX11_isRoomAnywhere 21 = .ok (.iconst 1, 1) := by decide +kernel
theorem dX11_isRoomAnywhere_22 : decode cX11_isRoomAnywhere 22 = .ok (.ireturn, 1) := by decide +kernel
theorem dX11_isRoomAnywhere_23 : decode cX11_isRoomAnywhere 23 = .ok (.iinc 1 1, 3) := by decide +kernel
theorem dX11_isRoomAnywhere_26 : decode cX11_isRoomAnywhere 26 = .ok (.goto (-24), 3) := by decide +kernel
theorem dX11_isRoomAnywhere_29 : decode cX11_isRoomAnywhere 29 = .ok (.iconst 0, 1) := by decide +kernel
theorem dX11_isRoomAnywhere_30 : decode cX11_isRoomAnywhere 30 = .ok (.ireturn, 1) := by decide +kernel
set_option maxHeartbeats 4000000 in
set_option maxRecDepth 100000 in
theorem s_X11_isRoomAnywhere {P : PP} {a0 : Nat} (I : IV P) (ha0 : At P a0 11) : CtrI yX11_isRoomAnywhere cX11_isRoomAnywhere 2 (some Jvm.ClassFile.FieldType.boolean) ({ frames := 1, cells := 0, slots := 0, locals := 64 } : Room) 0 0 P [.ref a0] (fun r P2 => P = P2 ∧ (0 ≤ r.toInt ∧ r.toInt ≤ 1)) := by
  refine enI (lv := [(0, .ref a0)]) (by decide) (Nat.le_of_ble_eq_true rfl) rfl (fun E D cy C Ci0 ret => ?_)
  have J2 : ∀ (n2 : Nat) (v2_1 : Int32), (4 - v2_1.toInt).toNat < n2 → (0 ≤ v2_1.toInt ∧ v2_1.toInt ≤ 4) → G E ({ frames := 1, cells := 0, slots := 0, locals := 64 } : Room) D cy 2 P 0 0 2 [(0, .ref a0), (1, .int v2_1)] [] := by
    intro n2
    induction n2 with
    | zero => intro v2_1 hm2 hv2_1; omega
    | succ n2 ih2 =>
      intro v2_1 hm2 hv2_1
      refine g_iload_n C dX11_isRoomAnywhere_2 rfl 1 rfl ?_
      refine g_iconst (v := 4) C dX11_isRoomAnywhere_3 (by decide) ?_
      refine b_icmp_ge C 29 dX11_isRoomAnywhere_4 (by decide) (fun h22502 => ?_) (fun h22502 => ?_)
      · have h22502 : 4 ≤ v2_1.toInt := h22502
        refine g_iconst (v := 0) C dX11_isRoomAnywhere_29 (by decide) ?_
        exact ret _ _ _ _ _ _ dX11_isRoomAnywhere_30 rfl (by decide) (by decide) ⟨rfl, (by decide)⟩
      · have h22502 : v2_1.toInt < 4 := h22502
        refine g_aload_n C dX11_isRoomAnywhere_7 rfl 0 rfl ?_
        obtain ⟨b22503, e22504, h22505⟩ := I.fld (ha0) 1 19 4 rfl
        refine g_getR C fi_X11_17 rfl e22504 (ha0).1 (ha0).2 dX11_isRoomAnywhere_8 ?_
        refine g_iload_n C dX11_isRoomAnywhere_11 rfl 1 rfl ?_
        obtain ⟨b22506, e22507, h22508⟩ := I.elm h22505 (by decide) (v2_1.toInt.toNat) (by omega)
        refine g_aldR C h22505.1 h22505.2.1 (by decide) (ix_in h22505.2.2 (by omega)) e22507 dX11_isRoomAnywhere_12 ?_
        refine g_getI C fi_X11_336 (by decide) (h22508).1 (h22508).2 dX11_isRoomAnywhere_13 ?_
        have h22509 := I.rg (h22508) 1 rfl
        refine g_bipush (v := 40) C dX11_isRoomAnywhere_16 (by decide) ?_
        refine b_icmp_ge C 23 dX11_isRoomAnywhere_18 (by decide) (fun h22510 => ?_) (fun h22510 => ?_)
        · have h22510 : 40 ≤ (pI P b22506 1).toInt := h22510
          refine s_iinc (lv0 := [(0, .ref a0)]) (m := 1) C dX11_isRoomAnywhere_23 1 rfl (by decide) rfl (by decide) (by omega) (fun z22511 h22512 => ?_)
          have h22512 : z22511.toInt = v2_1.toInt + 1 := h22512
          refine g_goto C 2 dX11_isRoomAnywhere_26 (by decide) ?_
          refine g_lv (lv' := [(0, .ref a0), (1, .int z22511)]) [1, 0] rfl ?_
          exact ih2 z22511 (by omega) (by omega)
        · have h22510 : (pI P b22506 1).toInt < 40 := h22510
          refine g_iconst (v := 1) C dX11_isRoomAnywhere_21 (by decide) ?_
          exact ret _ _ _ _ _ _ dX11_isRoomAnywhere_22 rfl (by decide) (by decide) ⟨rfl, (by decide)⟩
  refine g_iconst (v := 0) C dX11_isRoomAnywhere_0 (by decide) ?_
  refine g_istore_n (lv' := [(1, .int 0), (0, .ref a0)]) C dX11_isRoomAnywhere_1 rfl (by decide) rfl ?_
  refine g_lv (lv' := [(0, .ref a0), (1, .int 0)]) [1, 0] rfl ?_
  exact J2 _ 0 (Nat.lt_succ_self _) (by decide)
theorem dX11_leaflet_0 : decode cX11_leaflet 0 = .ok (.aload_n 0, 1) := by decide +kernel
theorem dX11_leaflet_1 : decode cX11_leaflet 1 = .ok (.iload_n 1, 1) := by decide +kernel
theorem dX11_leaflet_2 : decode cX11_leaflet 2 = .ok (.iload_n 2, 1) := by decide +kernel
theorem dX11_leaflet_3 : decode cX11_leaflet 3 = .ok (.invokevirtual 136, 3) := by decide +kernel
theorem dX11_leaflet_6 : decode cX11_leaflet 6 = .ok (.ifCond .ne 5, 3) := by decide +kernel
theorem dX11_leaflet_9 : decode cX11_leaflet 9 = .ok (.iconst (-1), 1) := by decide +kernel
theorem dX11_leaflet_10 : decode cX11_leaflet 10 = .ok (.ireturn, 1) := by decide +kernel
theorem dX11_leaflet_11 : decode cX11_leaflet 11 = .ok (.aload_n 0, 1) := by decide +kernel
theorem dX11_leaflet_12 : decode cX11_leaflet 12 = .ok (.getfield 11, 3) := by decide +kernel
theorem dX11_leaflet_15 : decode cX11_leaflet 15 = .ok (.iload_n 1, 1) := by decide +kernel
theorem dX11_leaflet_16 : decode cX11_leaflet 16 = .ok (.aaload, 1) := by decide +kernel
theorem dX11_leaflet_17 : decode cX11_leaflet 17 = .ok (.astore 4, 2) := by decide +kernel
theorem dX11_leaflet_19 : decode cX11_leaflet 19 = .ok (.aload 4, 2) := by decide +kernel
theorem dX11_leaflet_21 : decode cX11_leaflet 21 = .ok (.iload_n 2, 1) := by decide +kernel
theorem dX11_leaflet_22 : decode cX11_leaflet 22 = .ok (.invokevirtual 140, 3) := by decide +kernel
theorem dX11_leaflet_25 : decode cX11_leaflet 25 = .ok (.istore 5, 2) := by decide +kernel
theorem dX11_leaflet_27 : decode cX11_leaflet 27 = .ok (.iload_n 3, 1) := by decide +kernel
theorem dX11_leaflet_28 : decode cX11_leaflet 28 = .ok (.tableswitch 63 0 3 #[32, 35, 43, 57], 32) := by decide +kernel
theorem dX11_leaflet_60 : decode cX11_leaflet 60 = .ok (.iload 5, 2) := by decide +kernel
theorem dX11_leaflet_62 : decode cX11_leaflet 62 = .ok (.ireturn, 1) := by decide +kernel
theorem dX11_leaflet_63 : decode cX11_leaflet 63 = .ok (.aload 4, 2) := by decide +kernel
theorem dX11_leaflet_65 : decode cX11_leaflet 65 = .ok (.iload 5, 2) := by decide +kernel
theorem dX11_leaflet_67 : decode cX11_leaflet 67 = .ok (.invokevirtual 143, 3) := by decide +kernel
theorem dX11_leaflet_70 : decode cX11_leaflet 70 = .ok (.ireturn, 1) := by decide +kernel
theorem dX11_leaflet_71 : decode cX11_leaflet 71 = .ok (.aload 4, 2) := by decide +kernel
theorem dX11_leaflet_73 : decode cX11_leaflet 73 = .ok (.iload_n 2, 1) := by decide +kernel
theorem dX11_leaflet_74 : decode cX11_leaflet 74 = .ok (.aload 4, 2) := by decide +kernel
theorem dX11_leaflet_76 : decode cX11_leaflet 76 = .ok (.iload 5, 2) := by decide +kernel
theorem dX11_leaflet_78 : decode cX11_leaflet 78 = .ok (.invokevirtual 143, 3) := by decide +kernel
theorem dX11_leaflet_81 : decode cX11_leaflet 81 = .ok (.invokevirtual 146, 3) := by decide +kernel
theorem dX11_leaflet_84 : decode cX11_leaflet 84 = .ok (.ireturn, 1) := by decide +kernel
theorem dX11_leaflet_85 : decode cX11_leaflet 85 = .ok (.iload 5, 2) := by decide +kernel
theorem dX11_leaflet_87 : decode cX11_leaflet 87 = .ok (.invokestatic 150, 3) := by decide +kernel
theorem dX11_leaflet_90 : decode cX11_leaflet 90 = .ok (.ireturn, 1) := by decide +kernel
theorem dX11_leaflet_91 : decode cX11_leaflet 91 = .ok (.iconst (-1), 1) := by decide +kernel
theorem dX11_leaflet_92 : decode cX11_leaflet 92 = .ok (.ireturn, 1) := by decide +kernel
set_option maxHeartbeats 4000000 in
set_option maxRecDepth 100000 in
theorem s_X11_leaflet {P : PP} {a0 : Nat} {a1 : Int32} {a2 : Int32} {a3 : Int32} (I : IV P) (ha0 : At P a0 11) : CtrI yX11_leaflet cX11_leaflet 6 (some Jvm.ClassFile.FieldType.int) ({ frames := 5, cells := 0, slots := 0, locals := 320 } : Room) 0 0 P [.ref a0, .int a1, .int a2, .int a3] (fun r P2 => IV P2 ∧ EK [1, 13] P P2 ∧ (True)) := by
  refine enI (lv := [(0, .ref a0), (1, .int a1), (2, .int a2), (3, .int a3)]) (by decide) (Nat.le_of_ble_eq_true rfl) rfl (fun E D cy C Ci0 ret => ?_)
  refine g_aload_n C dX11_leaflet_0 rfl 0 rfl ?_
  refine g_iload_n C dX11_leaflet_1 rfl 1 rfl ?_
  refine g_iload_n C dX11_leaflet_2 rfl 2 rfl ?_
  refine g_callVI (rest := []) C mv_X11_136 [.int a1, .int a2] (s_X11_isLeaflet I ha0) (ha0).1 (ha0).2 rfl rfl (by decide) (Nat.le_of_ble_eq_true rfl) (by decide) dX11_leaflet_3 (fun r22546 Y22547 h22548 => ?_)
  obtain ⟨rfl, h22548⟩ := h22548
  obtain ⟨h22548, hi22549⟩ := h22548
  have hi22549 : r22546.toInt = 0 ∨ (((0 : Int) ≤ a1.toInt ∧ a1.toInt ≤ (1 : Int)) ∧ ((0 : Int) ≤ a2.toInt ∧ a2.toInt ≤ (9999 : Int))) := hi22549
  have h22548 : 0 ≤ r22546.toInt ∧ r22546.toInt ≤ 1 := h22548
  refine b_if_ne C 11 dX11_leaflet_6 (by decide) (fun h22550 => ?_) (fun h22550 => ?_)
  · have h22550 : r22546.toInt ≠ 0 := ti_ne h22550
    replace hi22549 := hi22549.resolve_left (by omega)
    refine g_aload_n C dX11_leaflet_11 rfl 0 rfl ?_
    obtain ⟨b22551, e22552, h22553⟩ := I.fld (ha0) 0 17 2 rfl
    refine g_getR C fi_X11_11 rfl e22552 (ha0).1 (ha0).2 dX11_leaflet_12 ?_
    refine g_iload_n C dX11_leaflet_15 rfl 1 rfl ?_
    obtain ⟨b22554, e22555, h22556⟩ := I.elm h22553 (by decide) (a1.toInt.toNat) (by omega)
    refine g_aldR C h22553.1 h22553.2.1 (by decide) (ix_in h22553.2.2 (by omega)) e22555 dX11_leaflet_16 ?_
    refine g_astore (lv' := [(4, .ref b22554), (0, .ref a0), (1, .int a1), (2, .int a2), (3, .int a3)]) C dX11_leaflet_17 (by decide) rfl ?_
    refine g_aload C dX11_leaflet_19 0 rfl ?_
    refine g_iload_n C dX11_leaflet_21 rfl 3 rfl ?_
    refine g_callVI (rest := []) C mv_X11_140 [.int a2] (s_X1_pagesOf I h22556) (h22556).1 (h22556).2 rfl rfl (by decide) (Nat.le_of_ble_eq_true rfl) (by decide) dX11_leaflet_22 (fun r22557 Y22558 h22559 => ?_)
    obtain ⟨Iy22560, Xy22561, h22559⟩ := h22559
    have Xz22562 : EK [1, 13] P Y22558 := Xy22561.mono (by decide)
    have h22563 := Xy22561.at ha0
    have h22564 := Xy22561.at h22556
    have h22559 : True := h22559
    refine g_istore (lv' := [(5, .int r22557), (4, .ref b22554), (0, .ref a0), (1, .int a1), (2, .int a2), (3, .int a3)]) C dX11_leaflet_25 (by decide) rfl ?_
    refine g_iload_n C dX11_leaflet_27 rfl 5 rfl ?_
    by_cases h22565 : a3.toInt < 0 ∨ 3 < a3.toInt
    · refine g_tableOut C 91 dX11_leaflet_28 h22565 (by decide) ?_
      refine g_iconst (v := (-1)) C dX11_leaflet_91 (by decide) ?_
      exact ret _ _ _ _ _ _ dX11_leaflet_92 rfl (by decide) (by decide) ⟨Iy22560, Xz22562, trivial⟩
    · rcases (show a3.toInt = 0 ∨ a3.toInt = 1 ∨ a3.toInt = 2 ∨ a3.toInt = 3 by omega) with h22566 | h22566 | h22566 | h22566
      · refine g_tableIn C 60 dX11_leaflet_28 (by omega) (by omega) (by rw [h22566]; rfl) (by decide) ?_
        refine g_iload C dX11_leaflet_60 0 rfl ?_
        exact ret _ _ _ _ _ _ dX11_leaflet_62 rfl (by decide) (by decide) ⟨Iy22560, Xz22562, trivial⟩
      · refine g_tableIn C 63 dX11_leaflet_28 (by omega) (by omega) (by rw [h22566]; rfl) (by decide) ?_
        refine g_aload C dX11_leaflet_63 1 rfl ?_
        refine g_iload C dX11_leaflet_65 0 rfl ?_
        refine g_callVI (rest := []) C mv_X11_143 [.int r22557] (s_X1_sumOf Iy22560 h22564) (h22564).1 (h22564).2 rfl rfl (by decide) (Nat.le_of_ble_eq_true rfl) (by decide) dX11_leaflet_67 (fun r22567 Y22568 h22569 => ?_)
        obtain ⟨rfl, h22569⟩ := h22569
        have h22569 : True := h22569
        exact ret _ _ _ _ _ _ dX11_leaflet_70 rfl (by decide) (by decide) ⟨Iy22560, Xz22562, trivial⟩
      · refine g_tableIn C 71 dX11_leaflet_28 (by omega) (by omega) (by rw [h22566]; rfl) (by decide) ?_
        refine g_aload C dX11_leaflet_71 1 rfl ?_
        refine g_iload_n C dX11_leaflet_73 rfl 4 rfl ?_
        refine g_aload C dX11_leaflet_74 1 rfl ?_
        refine g_iload C dX11_leaflet_76 0 rfl ?_
        refine g_callVI (rest := [.int a2, .ref b22554]) C mv_X11_143 [.int r22557] (s_X1_sumOf Iy22560 h22564) (h22564).1 (h22564).2 rfl rfl (by decide) (Nat.le_of_ble_eq_true rfl) (by decide) dX11_leaflet_78 (fun r22570 Y22571 h22572 => ?_)
        obtain ⟨rfl, h22572⟩ := h22572
        have h22572 : True := h22572
        refine g_callVI (rest := []) C mv_X11_146 [.int a2, .int r22570] (s_X1_sealOf Iy22560 h22564) (h22564).1 (h22564).2 rfl rfl (by decide) (Nat.le_of_ble_eq_true rfl) (by decide) dX11_leaflet_81 (fun r22573 Y22574 h22575 => ?_)
        obtain ⟨rfl, h22575⟩ := h22575
        have h22575 : True := h22575
        exact ret _ _ _ _ _ _ dX11_leaflet_84 rfl (by decide) (by decide) ⟨Iy22560, Xz22562, trivial⟩
      · refine g_tableIn C 85 dX11_leaflet_28 (by omega) (by omega) (by rw [h22566]; rfl) (by decide) ?_
        refine g_iload C dX11_leaflet_85 0 rfl ?_
        refine g_callSI (b := 0) (ci := 0) (rest := []) C ms_X11_150 [.int r22557] (s_J6_bitCount_0f7a4 Iy22560) rfl rfl (by decide) (Nat.le_of_ble_eq_true rfl) (by decide) dX11_leaflet_87 (fun r22576 Y22577 h22578 => ?_)
        obtain ⟨rfl, h22578⟩ := h22578
        have h22578 : 0 ≤ r22576.toInt ∧ r22576.toInt ≤ 63 := h22578
        exact ret _ _ _ _ _ _ dX11_leaflet_90 rfl (by decide) (by decide) ⟨Iy22560, Xz22562, trivial⟩
  · have h22550 : r22546.toInt = 0 := congrArg Int32.toInt h22550
    clear hi22549
    refine g_iconst (v := (-1)) C dX11_leaflet_9 (by decide) ?_
    exact ret _ _ _ _ _ _ dX11_leaflet_10 rfl (by decide) (by decide) ⟨I, EK.rf, trivial⟩
